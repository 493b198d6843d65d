def y_Mo_tryDraft : MethodName := ⟨"ClassWorksModel", "tryDraft", "(I)V"⟩
abbrev b_Mo_tryDraft : ByteArray := prog_14_method_196_code
theorem q3089 : Cond.fieldLink "ClassWorksModel" 237 "ClassWorksModel" "kRun" "I" ∈ lw_ok := lw_okmem (List.mem_of_getElem? (i := 3089) (by decide +kernel)) rfl
theorem q3189 : Cond.fieldLink "ClassWorksModel" 1326 "ClassWorksModel" "outNumber" "I" ∈ lw_ok := lw_okmem (List.mem_of_getElem? (i := 3189) (by decide +kernel)) rfl
theorem q3188 : Cond.fieldLink "ClassWorksModel" 1323 "ClassWorksModel" "outKind" "I" ∈ lw_ok := lw_okmem (List.mem_of_getElem? (i := 3188) (by decide +kernel)) rfl
theorem d_Mo_tryDraft_0 : decode b_Mo_tryDraft 0 = .ok (.aload_n 0, 1) := by decide +kernel
theorem d_Mo_tryDraft_1 : decode b_Mo_tryDraft 1 = .ok (.getfield 1317, 3) := by decide +kernel
theorem d_Mo_tryDraft_4 : decode b_Mo_tryDraft 4 = .ok (.iconst 1, 1) := by decide +kernel
theorem d_Mo_tryDraft_5 : decode b_Mo_tryDraft 5 = .ok (.isub, 1) := by decide +kernel
theorem d_Mo_tryDraft_6 : decode b_Mo_tryDraft 6 = .ok (.istore_n 2, 1) := by decide +kernel
theorem d_Mo_tryDraft_7 : decode b_Mo_tryDraft 7 = .ok (.iload_n 2, 1) := by decide +kernel
theorem d_Mo_tryDraft_8 : decode b_Mo_tryDraft 8 = .ok (.ifCond .le 22, 3) := by decide +kernel
theorem d_Mo_tryDraft_11 : decode b_Mo_tryDraft 11 = .ok (.aload_n 0, 1) := by decide +kernel
theorem d_Mo_tryDraft_12 : decode b_Mo_tryDraft 12 = .ok (.getfield 387, 3) := by decide +kernel
theorem d_Mo_tryDraft_15 : decode b_Mo_tryDraft 15 = .ok (.iload_n 2, 1) := by decide +kernel
theorem d_Mo_tryDraft_16 : decode b_Mo_tryDraft 16 = .ok (.iconst 1, 1) := by decide +kernel
theorem d_Mo_tryDraft_17 : decode b_Mo_tryDraft 17 = .ok (.isub, 1) := by decide +kernel
theorem d_Mo_tryDraft_18 : decode b_Mo_tryDraft 18 = .ok (.baload, 1) := by decide +kernel
theorem d_Mo_tryDraft_19 : decode b_Mo_tryDraft 19 = .ok (.bipush 10, 2) := by decide +kernel
theorem d_Mo_tryDraft_21 : decode b_Mo_tryDraft 21 = .ok (.if_icmp .eq 9, 3) := by decide +kernel
theorem d_Mo_tryDraft_24 : decode b_Mo_tryDraft 24 = .ok (.iinc 2 (-1), 3) := by decide +kernel
theorem d_Mo_tryDraft_27 : decode b_Mo_tryDraft 27 = .ok (.goto (-20), 3) := by decide +kernel
theorem d_Mo_tryDraft_30 : decode b_Mo_tryDraft 30 = .ok (.aload_n 0, 1) := by decide +kernel
theorem d_Mo_tryDraft_31 : decode b_Mo_tryDraft 31 = .ok (.aload_n 0, 1) := by decide +kernel
theorem d_Mo_tryDraft_32 : decode b_Mo_tryDraft 32 = .ok (.getfield 263, 3) := by decide +kernel
theorem d_Mo_tryDraft_35 : decode b_Mo_tryDraft 35 = .ok (.iconst 3, 1) := by decide +kernel
theorem d_Mo_tryDraft_36 : decode b_Mo_tryDraft 36 = .ok (.aaload, 1) := by decide +kernel
theorem d_Mo_tryDraft_37 : decode b_Mo_tryDraft 37 = .ok (.putfield 522, 3) := by decide +kernel
theorem d_Mo_tryDraft_40 : decode b_Mo_tryDraft 40 = .ok (.aload_n 0, 1) := by decide +kernel
theorem d_Mo_tryDraft_41 : decode b_Mo_tryDraft 41 = .ok (.aload_n 0, 1) := by decide +kernel
theorem d_Mo_tryDraft_42 : decode b_Mo_tryDraft 42 = .ok (.getfield 522, 3) := by decide +kernel
theorem d_Mo_tryDraft_45 : decode b_Mo_tryDraft 45 = .ok (.iload_n 1, 1) := by decide +kernel
theorem d_Mo_tryDraft_46 : decode b_Mo_tryDraft 46 = .ok (.invokevirtual 1121, 3) := by decide +kernel
theorem d_Mo_tryDraft_49 : decode b_Mo_tryDraft 49 = .ok (.aload_n 0, 1) := by decide +kernel
theorem d_Mo_tryDraft_50 : decode b_Mo_tryDraft 50 = .ok (.aload_n 0, 1) := by decide +kernel
theorem d_Mo_tryDraft_51 : decode b_Mo_tryDraft 51 = .ok (.getfield 387, 3) := by decide +kernel
theorem d_Mo_tryDraft_54 : decode b_Mo_tryDraft 54 = .ok (.iload_n 2, 1) := by decide +kernel
theorem d_Mo_tryDraft_55 : decode b_Mo_tryDraft 55 = .ok (.invokevirtual 1125, 3) := by decide +kernel
theorem d_Mo_tryDraft_58 : decode b_Mo_tryDraft 58 = .ok (.ifCond .ge 17, 3) := by decide +kernel
theorem d_Mo_tryDraft_61 : decode b_Mo_tryDraft 61 = .ok (.aload_n 0, 1) := by decide +kernel
theorem d_Mo_tryDraft_62 : decode b_Mo_tryDraft 62 = .ok (.iconst 1, 1) := by decide +kernel
theorem d_Mo_tryDraft_63 : decode b_Mo_tryDraft 63 = .ok (.putfield 1323, 3) := by decide +kernel
theorem d_Mo_tryDraft_66 : decode b_Mo_tryDraft 66 = .ok (.aload_n 0, 1) := by decide +kernel
theorem d_Mo_tryDraft_67 : decode b_Mo_tryDraft 67 = .ok (.aload_n 0, 1) := by decide +kernel
theorem d_Mo_tryDraft_68 : decode b_Mo_tryDraft 68 = .ok (.getfield 526, 3) := by decide +kernel
theorem d_Mo_tryDraft_71 : decode b_Mo_tryDraft 71 = .ok (.putfield 1326, 3) := by decide +kernel
theorem d_Mo_tryDraft_74 : decode b_Mo_tryDraft 74 = .ok (.return_, 1) := by decide +kernel
theorem d_Mo_tryDraft_75 : decode b_Mo_tryDraft 75 = .ok (.aload_n 0, 1) := by decide +kernel
theorem d_Mo_tryDraft_76 : decode b_Mo_tryDraft 76 = .ok (.aload_n 0, 1) := by decide +kernel
theorem d_Mo_tryDraft_77 : decode b_Mo_tryDraft 77 = .ok (.getfield 387, 3) := by decide +kernel
theorem d_Mo_tryDraft_80 : decode b_Mo_tryDraft 80 = .ok (.iload_n 2, 1) := by decide +kernel
theorem d_Mo_tryDraft_81 : decode b_Mo_tryDraft 81 = .ok (.aload_n 0, 1) := by decide +kernel
theorem d_Mo_tryDraft_82 : decode b_Mo_tryDraft 82 = .ok (.getfield 1317, 3) := by decide +kernel
theorem d_Mo_tryDraft_85 : decode b_Mo_tryDraft 85 = .ok (.iconst 1, 1) := by decide +kernel
theorem d_Mo_tryDraft_86 : decode b_Mo_tryDraft 86 = .ok (.isub, 1) := by decide +kernel
theorem d_Mo_tryDraft_87 : decode b_Mo_tryDraft 87 = .ok (.invokevirtual 569, 3) := by decide +kernel
theorem d_Mo_tryDraft_90 : decode b_Mo_tryDraft 90 = .ok (.pop, 1) := by decide +kernel
theorem d_Mo_tryDraft_91 : decode b_Mo_tryDraft 91 = .ok (.aload_n 0, 1) := by decide +kernel
theorem d_Mo_tryDraft_92 : decode b_Mo_tryDraft 92 = .ok (.aload_n 0, 1) := by decide +kernel
theorem d_Mo_tryDraft_93 : decode b_Mo_tryDraft 93 = .ok (.getfield 237, 3) := by decide +kernel
theorem d_Mo_tryDraft_96 : decode b_Mo_tryDraft 96 = .ok (.invokevirtual 592, 3) := by decide +kernel
theorem d_Mo_tryDraft_99 : decode b_Mo_tryDraft 99 = .ok (.aload_n 0, 1) := by decide +kernel
theorem d_Mo_tryDraft_100 : decode b_Mo_tryDraft 100 = .ok (.invokevirtual 1141, 3) := by decide +kernel
theorem d_Mo_tryDraft_103 : decode b_Mo_tryDraft 103 = .ok (.aload_n 0, 1) := by decide +kernel
theorem d_Mo_tryDraft_104 : decode b_Mo_tryDraft 104 = .ok (.getfield 522, 3) := by decide +kernel
theorem d_Mo_tryDraft_107 : decode b_Mo_tryDraft 107 = .ok (.getfield 406, 3) := by decide +kernel
theorem d_Mo_tryDraft_110 : decode b_Mo_tryDraft 110 = .ok (.iconst 0, 1) := by decide +kernel
theorem d_Mo_tryDraft_111 : decode b_Mo_tryDraft 111 = .ok (.aaload, 1) := by decide +kernel
theorem d_Mo_tryDraft_112 : decode b_Mo_tryDraft 112 = .ok (.astore_n 3, 1) := by decide +kernel
theorem d_Mo_tryDraft_113 : decode b_Mo_tryDraft 113 = .ok (.aload_n 0, 1) := by decide +kernel
theorem d_Mo_tryDraft_114 : decode b_Mo_tryDraft 114 = .ok (.aload_n 3, 1) := by decide +kernel
theorem d_Mo_tryDraft_115 : decode b_Mo_tryDraft 115 = .ok (.invokevirtual 1159, 3) := by decide +kernel
theorem d_Mo_tryDraft_118 : decode b_Mo_tryDraft 118 = .ok (.aload_n 0, 1) := by decide +kernel
theorem d_Mo_tryDraft_119 : decode b_Mo_tryDraft 119 = .ok (.sipush 300, 3) := by decide +kernel
theorem d_Mo_tryDraft_122 : decode b_Mo_tryDraft 122 = .ok (.invokevirtual 1167, 3) := by decide +kernel
theorem d_Mo_tryDraft_125 : decode b_Mo_tryDraft 125 = .ok (.pop, 1) := by decide +kernel
theorem d_Mo_tryDraft_126 : decode b_Mo_tryDraft 126 = .ok (.aload_n 0, 1) := by decide +kernel
theorem d_Mo_tryDraft_127 : decode b_Mo_tryDraft 127 = .ok (.iconst 0, 1) := by decide +kernel
theorem d_Mo_tryDraft_128 : decode b_Mo_tryDraft 128 = .ok (.putfield 1326, 3) := by decide +kernel
theorem d_Mo_tryDraft_131 : decode b_Mo_tryDraft 131 = .ok (.aload_n 3, 1) := by decide +kernel
theorem d_Mo_tryDraft_132 : decode b_Mo_tryDraft 132 = .ok (.getfield 486, 3) := by decide +kernel
theorem d_Mo_tryDraft_135 : decode b_Mo_tryDraft 135 = .ok (.ifCond .ne 67, 3) := by decide +kernel
theorem d_Mo_tryDraft_138 : decode b_Mo_tryDraft 138 = .ok (.aload_n 0, 1) := by decide +kernel
theorem d_Mo_tryDraft_139 : decode b_Mo_tryDraft 139 = .ok (.aload_n 3, 1) := by decide +kernel
theorem d_Mo_tryDraft_140 : decode b_Mo_tryDraft 140 = .ok (.getfield 974, 3) := by decide +kernel
theorem d_Mo_tryDraft_143 : decode b_Mo_tryDraft 143 = .ok (.iconst 1, 1) := by decide +kernel
theorem d_Mo_tryDraft_144 : decode b_Mo_tryDraft 144 = .ok (.if_icmp .ne 7, 3) := by decide +kernel
theorem d_Mo_tryDraft_147 : decode b_Mo_tryDraft 147 = .ok (.iconst 2, 1) := by decide +kernel
theorem d_Mo_tryDraft_148 : decode b_Mo_tryDraft 148 = .ok (.goto 4, 3) := by decide +kernel
theorem d_Mo_tryDraft_151 : decode b_Mo_tryDraft 151 = .ok (.iconst 3, 1) := by decide +kernel
theorem d_Mo_tryDraft_152 : decode b_Mo_tryDraft 152 = .ok (.putfield 1323, 3) := by decide +kernel
theorem d_Mo_tryDraft_155 : decode b_Mo_tryDraft 155 = .ok (.aload_n 0, 1) := by decide +kernel
theorem d_Mo_tryDraft_156 : decode b_Mo_tryDraft 156 = .ok (.aload_n 3, 1) := by decide +kernel
theorem d_Mo_tryDraft_157 : decode b_Mo_tryDraft 157 = .ok (.getfield 974, 3) := by decide +kernel
theorem d_Mo_tryDraft_160 : decode b_Mo_tryDraft 160 = .ok (.iconst 1, 1) := by decide +kernel
theorem d_Mo_tryDraft_161 : decode b_Mo_tryDraft 161 = .ok (.if_icmp .ne 10, 3) := by decide +kernel
theorem d_Mo_tryDraft_164 : decode b_Mo_tryDraft 164 = .ok (.aload_n 3, 1) := by decide +kernel
theorem d_Mo_tryDraft_165 : decode b_Mo_tryDraft 165 = .ok (.getfield 977, 3) := by decide +kernel
theorem d_Mo_tryDraft_168 : decode b_Mo_tryDraft 168 = .ok (.goto 28, 3) := by decide +kernel
theorem d_Mo_tryDraft_171 : decode b_Mo_tryDraft 171 = .ok (.aload_n 3, 1) := by decide +kernel
theorem d_Mo_tryDraft_172 : decode b_Mo_tryDraft 172 = .ok (.getfield 974, 3) := by decide +kernel
theorem d_Mo_tryDraft_175 : decode b_Mo_tryDraft 175 = .ok (.iconst 3, 1) := by decide +kernel
theorem d_Mo_tryDraft_176 : decode b_Mo_tryDraft 176 = .ok (.if_icmp .ne 7, 3) := by decide +kernel
theorem d_Mo_tryDraft_179 : decode b_Mo_tryDraft 179 = .ok (.iconst 1, 1) := by decide +kernel
theorem d_Mo_tryDraft_180 : decode b_Mo_tryDraft 180 = .ok (.goto 16, 3) := by decide +kernel
theorem d_Mo_tryDraft_183 : decode b_Mo_tryDraft 183 = .ok (.aload_n 3, 1) := by decide +kernel
theorem d_Mo_tryDraft_184 : decode b_Mo_tryDraft 184 = .ok (.getfield 974, 3) := by decide +kernel
theorem d_Mo_tryDraft_187 : decode b_Mo_tryDraft 187 = .ok (.iconst 4, 1) := by decide +kernel
theorem d_Mo_tryDraft_188 : decode b_Mo_tryDraft 188 = .ok (.if_icmp .ne 7, 3) := by decide +kernel
theorem d_Mo_tryDraft_191 : decode b_Mo_tryDraft 191 = .ok (.iconst 2, 1) := by decide +kernel
theorem d_Mo_tryDraft_192 : decode b_Mo_tryDraft 192 = .ok (.goto 4, 3) := by decide +kernel
theorem d_Mo_tryDraft_195 : decode b_Mo_tryDraft 195 = .ok (.iconst 0, 1) := by decide +kernel
theorem d_Mo_tryDraft_196 : decode b_Mo_tryDraft 196 = .ok (.putfield 1326, 3) := by decide +kernel
theorem d_Mo_tryDraft_199 : decode b_Mo_tryDraft 199 = .ok (.goto 54, 3) := by decide +kernel
theorem d_Mo_tryDraft_202 : decode b_Mo_tryDraft 202 = .ok (.aload_n 3, 1) := by decide +kernel
theorem d_Mo_tryDraft_203 : decode b_Mo_tryDraft 203 = .ok (.getfield 486, 3) := by decide +kernel
theorem d_Mo_tryDraft_206 : decode b_Mo_tryDraft 206 = .ok (.iconst 2, 1) := by decide +kernel
theorem d_Mo_tryDraft_207 : decode b_Mo_tryDraft 207 = .ok (.if_icmp .ne 41, 3) := by decide +kernel
theorem d_Mo_tryDraft_210 : decode b_Mo_tryDraft 210 = .ok (.aload_n 0, 1) := by decide +kernel
theorem d_Mo_tryDraft_211 : decode b_Mo_tryDraft 211 = .ok (.iconst 4, 1) := by decide +kernel
theorem d_Mo_tryDraft_212 : decode b_Mo_tryDraft 212 = .ok (.putfield 1323, 3) := by decide +kernel
theorem d_Mo_tryDraft_215 : decode b_Mo_tryDraft 215 = .ok (.aload_n 0, 1) := by decide +kernel
theorem d_Mo_tryDraft_216 : decode b_Mo_tryDraft 216 = .ok (.bipush 100, 2) := by decide +kernel
theorem d_Mo_tryDraft_218 : decode b_Mo_tryDraft 218 = .ok (.aload_n 3, 1) := by decide +kernel
theorem d_Mo_tryDraft_219 : decode b_Mo_tryDraft 219 = .ok (.getfield 983, 3) := by decide +kernel
theorem d_Mo_tryDraft_222 : decode b_Mo_tryDraft 222 = .ok (.imul, 1) := by decide +kernel
theorem d_Mo_tryDraft_223 : decode b_Mo_tryDraft 223 = .ok (.aload_n 3, 1) := by decide +kernel
theorem d_Mo_tryDraft_224 : decode b_Mo_tryDraft 224 = .ok (.getfield 980, 3) := by decide +kernel
theorem d_Mo_tryDraft_227 : decode b_Mo_tryDraft 227 = .ok (.bipush 21, 2) := by decide +kernel
theorem d_Mo_tryDraft_229 : decode b_Mo_tryDraft 229 = .ok (.if_icmp .ge 10, 3) := by decide +kernel
theorem d_Mo_tryDraft_232 : decode b_Mo_tryDraft 232 = .ok (.aload_n 3, 1) := by decide +kernel
theorem d_Mo_tryDraft_233 : decode b_Mo_tryDraft 233 = .ok (.getfield 980, 3) := by decide +kernel
theorem d_Mo_tryDraft_236 : decode b_Mo_tryDraft 236 = .ok (.goto 5, 3) := by decide +kernel
theorem d_Mo_tryDraft_239 : decode b_Mo_tryDraft 239 = .ok (.bipush 99, 2) := by decide +kernel
theorem d_Mo_tryDraft_241 : decode b_Mo_tryDraft 241 = .ok (.iadd, 1) := by decide +kernel
theorem d_Mo_tryDraft_242 : decode b_Mo_tryDraft 242 = .ok (.putfield 1326, 3) := by decide +kernel
theorem d_Mo_tryDraft_245 : decode b_Mo_tryDraft 245 = .ok (.goto 8, 3) := by decide +kernel
theorem d_Mo_tryDraft_248 : decode b_Mo_tryDraft 248 = .ok (.aload_n 0, 1) := by decide +kernel
theorem d_Mo_tryDraft_249 : decode b_Mo_tryDraft 249 = .ok (.iconst 5, 1) := by decide +kernel
theorem d_Mo_tryDraft_250 : decode b_Mo_tryDraft 250 = .ok (.putfield 1323, 3) := by decide +kernel
theorem d_Mo_tryDraft_253 : decode b_Mo_tryDraft 253 = .ok (.return_, 1) := by decide +kernel
abbrev ra_Mo_tryDraft (mc ms : Nat) : Room := { frames := 475, cells := mc, slots := ms, locals := 11567 }
def wja_Mo_tryDraft_253 (mc ms : Nat) (Post : Ly → St → Nat → Nat → Prop) (PX : Ly → St → Nat → Nat → Prop) (a0 : Nat) (y_j253 : Ly) (s_j253 : St) (d_j253 e_j253 : Nat) : Prop := (d_j253 ≤ mc ∧ e_j253 ≤ ms) ∧ Post y_j253 s_j253 d_j253 e_j253
def wja_Mo_tryDraft_241 (mc ms : Nat) (Post : Ly → St → Nat → Nat → Prop) (PX : Ly → St → Nat → Nat → Prop) (a0 : Nat) (y_j241 : Ly) (s_j241 : St) (d_j241 e_j241 : Nat) (z1j241 : Int32) (z2j241 : Int32) : Prop := (d_j241 ≤ mc ∧ e_j241 ≤ ms) ∧ xP (uV s_j241 a0 125 (z1j241 + z2j241)) (fun s_59 : St => wja_Mo_tryDraft_253 mc ms Post PX a0 y_j241 s_59 d_j241 e_j241)
def wja_Mo_tryDraft_196 (mc ms : Nat) (Post : Ly → St → Nat → Nat → Prop) (PX : Ly → St → Nat → Nat → Prop) (a0 : Nat) (y_j196 : Ly) (s_j196 : St) (d_j196 e_j196 : Nat) (z1j196 : Int32) : Prop := (d_j196 ≤ mc ∧ e_j196 ≤ ms) ∧ xP (uV s_j196 a0 125 z1j196) (fun s_61 : St => wja_Mo_tryDraft_253 mc ms Post PX a0 y_j196 s_61 d_j196 e_j196)
def wja_Mo_tryDraft_152 (mc ms : Nat) (Post : Ly → St → Nat → Nat → Prop) (PX : Ly → St → Nat → Nat → Prop) (a0 : Nat) (y_j152 : Ly) (s_j152 : St) (d_j152 e_j152 : Nat) (x3j152 : Nat) (z1j152 : Int32) : Prop := (d_j152 ≤ mc ∧ e_j152 ≤ ms) ∧ cl x3j152 = 12 ∧ xP (uV s_j152 a0 124 z1j152) (fun s_60 : St => ((¬ (sV s_60 x3j152 10) = 1 → ((¬ (sV s_60 x3j152 10) = 3 → ((¬ (sV s_60 x3j152 10) = 4 → wja_Mo_tryDraft_196 mc ms Post PX a0 y_j152 s_60 d_j152 e_j152 0) ∧ ((sV s_60 x3j152 10) = 4 → wja_Mo_tryDraft_196 mc ms Post PX a0 y_j152 s_60 d_j152 e_j152 2))) ∧ ((sV s_60 x3j152 10) = 3 → wja_Mo_tryDraft_196 mc ms Post PX a0 y_j152 s_60 d_j152 e_j152 1))) ∧ ((sV s_60 x3j152 10) = 1 → wja_Mo_tryDraft_196 mc ms Post PX a0 y_j152 s_60 d_j152 e_j152 (sV s_60 x3j152 11))))
def wja_Mo_tryDraft_30 (mc ms : Nat) (Post : Ly → St → Nat → Nat → Prop) (PX : Ly → St → Nat → Nat → Prop) (a0 : Nat) (y_j30 : Ly) (s_j30 : St) (d_j30 e_j30 : Nat) (x1j30 : Int32) (x2j30 : Int32) : Prop := (d_j30 ≤ mc ∧ e_j30 ≤ ms) ∧ xQ y_j30 a0 44 3 (fun b_1 : Nat => xP (uO s_j30 a0 45 (some b_1)) (fun s_3 : St => ∃ b_4 : Nat, sO s_3 a0 45 = some b_4 ∧ cl b_4 = 13 ∧ wu_Mo_beginWorld y_j30 (fun (s_8 : St) => ∃ mc_14 ms_15 : Nat, (d_j30 + mc_14 ≤ mc ∧ e_j30 + ms_15 ≤ ms) ∧ wa_Mo_take mc_14 ms_15 y_j30 (fun (y_11 : Ly) (s_10 : St) (r_9 : Int32) (d_12 e_13 : Nat) => (d_j30 + d_12 ≤ mc ∧ e_j30 + e_13 ≤ ms) ∧ ((0 ≤ r_9 → ∃ mc_22 ms_23 : Nat, (d_j30 + d_12 + mc_22 ≤ mc ∧ e_j30 + e_13 + ms_23 ≤ ms) ∧ wa_Mo_cutLine mc_22 ms_23 y_11 (fun (y_19 : Ly) (s_18 : St) (r_17 : Int32) (d_20 e_21 : Nat) => (d_j30 + d_12 + d_20 ≤ mc ∧ e_j30 + e_13 + e_21 ≤ ms) ∧ ∃ mc_30 ms_31 : Nat, (d_j30 + d_12 + d_20 + mc_30 ≤ mc ∧ e_j30 + e_13 + e_21 + ms_31 ≤ ms) ∧ wx_Mo_needWord mc_30 ms_31 y_19 (fun (y_27 : Ly) (s_26 : St) (d_28 e_29 : Nat) => (d_j30 + d_12 + d_20 + d_28 ≤ mc ∧ e_j30 + e_13 + e_21 + e_29 ≤ ms) ∧ ∃ mc_38 ms_39 : Nat, (d_j30 + d_12 + d_20 + d_28 + mc_38 ≤ mc ∧ e_j30 + e_13 + e_21 + e_29 + ms_39 ≤ ms) ∧ wx_Mo_callWords mc_38 ms_39 y_27 (fun (y_35 : Ly) (s_34 : St) (d_36 e_37 : Nat) => (d_j30 + d_12 + d_20 + d_28 + d_36 ≤ mc ∧ e_j30 + e_13 + e_21 + e_29 + e_37 ≤ ms) ∧ ∃ b_41 : Nat, sO s_34 a0 45 = some b_41 ∧ cl b_41 = 13 ∧ xQ y_35 b_41 62 0 (fun b_44 : Nat => wu_Mo_beginRun y_35 (fun (s_47 : St) => ∃ mc_53 ms_54 : Nat, (d_j30 + d_12 + d_20 + d_28 + d_36 + mc_53 ≤ mc ∧ e_j30 + e_13 + e_21 + e_29 + e_37 + ms_54 ≤ ms) ∧ wa_Mo_goOn mc_53 ms_54 y_35 (fun (y_50 : Ly) (s_49 : St) (r_48 : Int32) (d_51 e_52 : Nat) => (d_j30 + d_12 + d_20 + d_28 + d_36 + d_51 ≤ mc ∧ e_j30 + e_13 + e_21 + e_29 + e_37 + e_52 ≤ ms) ∧ xP (uV s_49 a0 125 0) (fun s_56 : St => ((¬ (sV s_56 b_44 0) = 0 → ((¬ (sV s_56 b_44 0) = 2 → xP (uV s_56 a0 124 5) (fun s_57 : St => wja_Mo_tryDraft_253 mc ms Post PX a0 y_50 s_57 (d_j30 + d_12 + d_20 + d_28 + d_36 + d_51) (e_j30 + e_13 + e_21 + e_29 + e_37 + e_52))) ∧ ((sV s_56 b_44 0) = 2 → xP (uV s_56 a0 124 4) (fun s_58 : St => ((21 ≤ (sV s_58 b_44 12) → wja_Mo_tryDraft_241 mc ms Post PX a0 y_50 s_58 (d_j30 + d_12 + d_20 + d_28 + d_36 + d_51) (e_j30 + e_13 + e_21 + e_29 + e_37 + e_52) (100 * (sV s_58 b_44 13)) 99) ∧ (¬ (21 ≤ (sV s_58 b_44 12)) → wja_Mo_tryDraft_241 mc ms Post PX a0 y_50 s_58 (d_j30 + d_12 + d_20 + d_28 + d_36 + d_51) (e_j30 + e_13 + e_21 + e_29 + e_37 + e_52) (100 * (sV s_58 b_44 13)) (sV s_58 b_44 12))))))) ∧ ((sV s_56 b_44 0) = 0 → ((¬ (sV s_56 b_44 10) = 1 → wja_Mo_tryDraft_152 mc ms Post PX a0 y_50 s_56 (d_j30 + d_12 + d_20 + d_28 + d_36 + d_51) (e_j30 + e_13 + e_21 + e_29 + e_37 + e_52) b_44 3) ∧ ((sV s_56 b_44 10) = 1 → wja_Mo_tryDraft_152 mc ms Post PX a0 y_50 s_56 (d_j30 + d_12 + d_20 + d_28 + d_36 + d_51) (e_j30 + e_13 + e_21 + e_29 + e_37 + e_52) b_44 2)))))) s_47 a0 300) s_34 a0 b_44)) (fun (y_35 : Ly) (s_34 : St) (d_36 e_37 : Nat) => ((d_j30 + d_12 + d_20 + d_28 + d_36 ≤ mc ∧ e_j30 + e_13 + e_21 + e_29 + e_37 ≤ ms) ∧ PX y_35 s_34 (d_j30 + d_12 + d_20 + d_28 + d_36) (e_j30 + e_13 + e_21 + e_29 + e_37))) s_26 a0) (fun (y_27 : Ly) (s_26 : St) (d_28 e_29 : Nat) => ((d_j30 + d_12 + d_20 + d_28 ≤ mc ∧ e_j30 + e_13 + e_21 + e_29 ≤ ms) ∧ PX y_27 s_26 (d_j30 + d_12 + d_20 + d_28) (e_j30 + e_13 + e_21 + e_29))) s_18 a0 (sV s_18 a0 25)) s_10 a0 a0 122 x2j30 ((sV s_10 a0 123) - 1)) ∧ (¬ (0 ≤ r_9) → xP (uV s_10 a0 124 1) (fun s_62 : St => xP (uV s_62 a0 125 (sV s_62 a0 49)) (fun s_63 : St => Post y_11 s_63 (d_j30 + d_12) (e_j30 + e_13)))))) s_8 a0 a0 122 x2j30) s_3 a0 b_4 x1j30))
def wba_Mo_tryDraft_7 (mc ms : Nat) (Post : Ly → St → Nat → Nat → Prop) (PX : Ly → St → Nat → Nat → Prop) (K_7 : Ly → St → Nat → Nat → Int32 → Int32 → Prop) (a0 : Nat) (y_h7 : Ly) (s_h7 : St) (d_h7 e_h7 : Nat) (x1h7 : Int32) (x2h7 : Int32) : Prop := (d_h7 ≤ mc ∧ e_h7 ≤ ms) ∧ ((x2h7 ≤ 0 → wja_Mo_tryDraft_30 mc ms Post PX a0 y_h7 s_h7 d_h7 e_h7 x1h7 x2h7) ∧ (¬ (x2h7 ≤ 0) → xA y_h7 s_h7 a0 122 (x2h7 - 1) (fun x_64 : Int32 => ((x_64 = 10 → wja_Mo_tryDraft_30 mc ms Post PX a0 y_h7 s_h7 d_h7 e_h7 x1h7 x2h7) ∧ (¬ (x_64 = 10) → K_7 y_h7 s_h7 d_h7 e_h7 x1h7 (x2h7 + (-1)))))))
def wla_Mo_tryDraft_7 (mc ms : Nat) (Post : Ly → St → Nat → Nat → Prop) (PX : Ly → St → Nat → Nat → Prop) (a0 : Nat) (y_h7 : Ly) (s_h7 : St) (d_h7 e_h7 : Nat) (x1h7 : Int32) (x2h7 : Int32) : Prop := ∃ (I : Ly → St → Nat → Nat → Int32 → Int32 → Prop) (μ : Ly → St → Nat → Nat → Int32 → Int32 → Nat), I y_h7 s_h7 d_h7 e_h7 x1h7 x2h7 ∧ ∀ (u1 : Ly) (u2 : St) (u3 u4 : Nat) (t0 : Int32) (t1 : Int32), I u1 u2 u3 u4 t0 t1 → wba_Mo_tryDraft_7 mc ms Post PX (fun z1 z2 z3 z4 t0q t1q => I z1 z2 z3 z4 t0q t1q ∧ μ z1 z2 z3 z4 t0q t1q < μ u1 u2 u3 u4 t0 t1) a0 u1 u2 u3 u4 t0 t1
def wx_Mo_tryDraft (mc ms : Nat) (y : Ly) (Post : Ly → St → Nat → Nat → Prop) (PX : Ly → St → Nat → Nat → Prop) (σ : St) (a0 : Nat) (v1 : Int32) : Prop := wla_Mo_tryDraft_7 mc ms Post PX a0 y σ 0 0 v1 ((sV σ a0 123) - 1)
set_option maxHeartbeats 4000000 in
set_option maxRecDepth 100000 in
theorem cx_Mo_tryDraft (l : Launch) (D : va_G) (g : Nat → ClassId) (ad : Nat → Nat) (mc ms : Nat) (y : Ly) (Post : Ly → St → Nat → Nat → Prop) (PX : Ly → St → Nat → Nat → Prop) (σ : St) (a0 : Nat) (v1 : Int32) (sz uz : Nat) (h_a0 : cl a0 = 14) (h : wx_Mo_tryDraft mc ms y Post PX σ a0 v1) : vx_Met l y_Mo_tryDraft (mw y_Mo_tryDraft b_Mo_tryDraft 4 (none)) (ra_Mo_tryDraft mc ms) (PCu g D [] [.ref (ad a0), .int v1] sz uz (ws g ad y σ)) (va_Qv (fun (u : Ly × St × Nat × Nat) => Post u.1 u.2.1 u.2.2.1 u.2.2.2) (QU D (va_A (ws g ad y σ) sz) (fun u => ws g ad u.1 u.2.1) sz uz (fun u => u.2.2.1) (fun u => u.2.2.2)) (va_A (ws g ad y σ) sz)) (XQ D g ad (va_A (ws g ad y σ) sz) sz uz PX) mc ms (va_A (ws g ad y σ) sz) := by
  refine ofVx (by decide +kernel) (Nat.le_of_ble_eq_true rfl) ?_
  intro p e s m args below meth c A Q ls H locs G hsz hP hD hS hl hret hretX
  subst hsz
  have hl : lv_has ls 4 [(0, .ref (ad a0)), (1, .int v1)] := hl
  have hd : 0 ≤ mc ∧ 0 ≤ ms := ⟨Nat.zero_le _, Nat.zero_le _⟩
  unfold wx_Mo_tryDraft at h
  refine lv_aload_n G.1 G.2.1 d_Mo_tryDraft_0 rfl (lv_at hl 0 rfl) ?_
  refine ugf (v := .int (sV σ a0 123)) G hP h_a0 iMo rfl 123 (by decide) rfl q3187 rfl rfl d_Mo_tryDraft_1 ?_
  refine lv_iconst (v := 1) G.1 G.2.1 d_Mo_tryDraft_4 (by decide) ?_
  refine lv_isub G.1 G.2.1 d_Mo_tryDraft_5 ?_
  refine lv_istore_n (lv' := [(2, .int ((sV σ a0 123) - 1)), (0, .ref (ad a0)), (1, .int v1)]) G.1 G.2.1 d_Mo_tryDraft_6 rfl hl (by decide) rfl (fun ls hl => ?_)
  unfold wla_Mo_tryDraft_7 at h
  obtain ⟨I_7, μ_7, hI_7, hB_7⟩ := h
  have L_7 : ∀ (n_7 : Nat) (y_h7 : Ly) (s_h7 : St) (d_h7 e_h7 : Nat) (x1h7 : Int32) (x2h7 : Int32), μ_7 y_h7 s_h7 d_h7 e_h7 x1h7 x2h7 < n_7 → I_7 y_h7 s_h7 d_h7 e_h7 x1h7 x2h7 → ∀ (H : Heap) (locs : List Loc), va_P D CL (ws g ad y_h7 s_h7) H → va_D A (ws g ad y_h7 s_h7) → va_S A s.heap H locs → ∀ ls, lv_has ls 4 [(0, .ref (ad a0)), (1, .int x1h7), (2, .int x2h7)] → W p l e (ra_Mo_tryDraft mc ms) s m args below meth c H locs d_h7 e_h7 Q (F0 m 7 ls []) := by
    intro n_7
    induction n_7 with
    | zero => intro y_h7 s_h7 d_h7 e_h7 x1h7 x2h7 hμ; exact absurd hμ (Nat.not_lt_zero _)
    | succ n_7 ih_7 =>
      intro y_h7 s_h7 d_h7 e_h7 x1h7 x2h7 hμ_7 hJ H locs hP hD hS ls hl
      obtain ⟨K_7, hK_7, h⟩ : ∃ K : Ly → St → Nat → Nat → Int32 → Int32 → Prop, (∀ z1 z2 z3 z4 (t0 : Int32) (t1 : Int32), K z1 z2 z3 z4 t0 t1 → I_7 z1 z2 z3 z4 t0 t1 ∧ μ_7 z1 z2 z3 z4 t0 t1 < μ_7 y_h7 s_h7 d_h7 e_h7 x1h7 x2h7) ∧ wba_Mo_tryDraft_7 mc ms Post PX K a0 y_h7 s_h7 d_h7 e_h7 x1h7 x2h7 := ⟨_, fun _ _ _ _ _ _ h => h, hB_7 y_h7 s_h7 d_h7 e_h7 x1h7 x2h7 hJ⟩
      unfold wba_Mo_tryDraft_7 at h
      obtain ⟨hd, h⟩ := h
      refine lv_iload_n G.1 G.2.1 d_Mo_tryDraft_7 rfl (lv_at hl 2 rfl) ?_
      have J_30 : ∀ (y_j30 : Ly) (s_j30 : St) (d_j30 e_j30 : Nat) (x1j30 : Int32) (x2j30 : Int32) (H : Heap) (locs : List Loc), wja_Mo_tryDraft_30 mc ms Post PX a0 y_j30 s_j30 d_j30 e_j30 x1j30 x2j30 → va_P D CL (ws g ad y_j30 s_j30) H → va_D A (ws g ad y_j30 s_j30) → va_S A s.heap H locs → ∀ ls, lv_has ls 4 [(0, .ref (ad a0)), (1, .int x1j30), (2, .int x2j30)] → W p l e (ra_Mo_tryDraft mc ms) s m args below meth c H locs d_j30 e_j30 Q (F0 m 30 ls []) := by
        intro y_j30 s_j30 d_j30 e_j30 x1j30 x2j30 H locs h hP hD hS ls hl
        unfold wja_Mo_tryDraft_30 at h
        obtain ⟨hd, h⟩ := h
        refine lv_aload_n G.1 G.2.1 d_Mo_tryDraft_30 rfl (lv_at hl 0 rfl) ?_
        refine lv_aload_n G.1 G.2.1 d_Mo_tryDraft_31 rfl (lv_at hl 0 rfl) ?_
        refine ugf (v := .ref (yP y_j30 a0 44)) G hP h_a0 iMo rfl 44 (by decide) rfl q3108 rfl rfl d_Mo_tryDraft_32 ?_
        refine lv_iconst (v := 3) G.1 G.2.1 d_Mo_tryDraft_35 (by decide) ?_
        refine uqald G hP (kdp h_a0 rfl) (typ h_a0 rfl) rfl h d_Mo_tryDraft_36 (fun b_1 n_2 h => ?_)
        refine upf G hP hD hS h 45 putO h_a0 iMo tMo tMo_ok nMo rfl (by decide) rfl q3109 rfl rfl fO rfl rfl d_Mo_tryDraft_37 (fun s_3 H locs h hP hD hS => ?_)
        refine lv_aload_n G.1 G.2.1 d_Mo_tryDraft_40 rfl (lv_at hl 0 rfl) ?_
        refine lv_aload_n G.1 G.2.1 d_Mo_tryDraft_41 rfl (lv_at hl 0 rfl) ?_
        obtain ⟨b_4, e_5, c_6, h⟩ := h
        refine ugf (v := .ref (ad b_4)) G hP h_a0 iMo rfl 45 (by decide) rfl q3109 rfl (by show va_rf ((sO s_3 a0 45).map ad) = _; rw [e_5]; rfl) d_Mo_tryDraft_42 ?_
        refine lv_iload_n G.1 G.2.1 d_Mo_tryDraft_45 rfl (lv_at hl 1 rfl) ?_
        refine ucVv (As := [.ref (ad b_4), .int x1j30]) (rest := []) G hP hD hS (cu_Mo_beginWorld l D g ad y_j30 _ s_3 a0 b_4 x1j30 H.size h_a0 c_6 h) w9_Mo_beginWorld q3474 ⟨Nat.le_of_ble_eq_true rfl, Nat.le_of_ble_eq_true rfl⟩ rfl rfl h_a0 (q := (RMo, TMo, 131)) rfl rfl hl.1 rfl (Nat.le_of_ble_eq_true rfl) rfl hd d_Mo_tryDraft_46 (fun s_8 H locs h hP hD hS => ?_)
        refine W.eq (g2 := F0 m 49 ls []) rfl ?_
        refine lv_aload_n G.1 G.2.1 d_Mo_tryDraft_49 rfl (lv_at hl 0 rfl) ?_
        refine lv_aload_n G.1 G.2.1 d_Mo_tryDraft_50 rfl (lv_at hl 0 rfl) ?_
        refine ugf (v := .ref (yP y_j30 a0 122)) G hP h_a0 iMo rfl 122 (by decide) rfl q3186 rfl rfl d_Mo_tryDraft_51 ?_
        refine lv_iload_n G.1 G.2.1 d_Mo_tryDraft_54 rfl (lv_at hl 2 rfl) ?_
        obtain ⟨mc_14, ms_15, hr_16, h⟩ := h
        refine uwVi (As := [.ref (yP y_j30 a0 122), .int x2j30]) (rest := []) G hP hD hS (ca_Mo_take l D g ad mc_14 ms_15 y_j30 _ s_8 a0 a0 122 x2j30 H.size (us H) h_a0 ⟨(kdp h_a0 rfl), (typ h_a0 rfl)⟩ h) (fun _ h => absurd h List.not_mem_nil) w9_Mo_take q3490 ⟨Nat.le_of_ble_eq_true rfl, Nat.le_of_ble_eq_true rfl⟩ rfl rfl h_a0 (q := (RMo, TMo, 131)) rfl rfl hl.1 rfl (Nat.le_of_ble_eq_true rfl) rfl hr_16 d_Mo_tryDraft_55 (fun r_9 y_11 s_10 d_12 e_13 H locs h hP hD hS => ?_)
        have hl := lv_sub (l' := [(0, .ref (ad a0)), (2, .int x2j30)]) hl [0, 2] rfl
        obtain ⟨hd, h⟩ := h
        refine lv_if_ge (tgt := 75) G.1 G.2.1 d_Mo_tryDraft_58 (by decide) (fun c58 => ?_) (fun c58 => ?_)
        · skip
          have h := h.1 c58
          refine lv_aload_n G.1 G.2.1 d_Mo_tryDraft_75 rfl (lv_at hl 0 rfl) ?_
          refine lv_aload_n G.1 G.2.1 d_Mo_tryDraft_76 rfl (lv_at hl 0 rfl) ?_
          refine ugf (v := .ref (yP y_11 a0 122)) G hP h_a0 iMo rfl 122 (by decide) rfl q3186 rfl rfl d_Mo_tryDraft_77 ?_
          refine lv_iload_n G.1 G.2.1 d_Mo_tryDraft_80 rfl (lv_at hl 1 rfl) ?_
          refine lv_aload_n G.1 G.2.1 d_Mo_tryDraft_81 rfl (lv_at hl 0 rfl) ?_
          refine ugf (v := .int (sV s_10 a0 123)) G hP h_a0 iMo rfl 123 (by decide) rfl q3187 rfl rfl d_Mo_tryDraft_82 ?_
          refine W.eq (g2 := F0 m 85 ls [.int (sV s_10 a0 123), .int x2j30, .ref (yP y_11 a0 122), .ref (ad a0)]) rfl ?_
          refine lv_iconst (v := 1) G.1 G.2.1 d_Mo_tryDraft_85 (by decide) ?_
          refine lv_isub G.1 G.2.1 d_Mo_tryDraft_86 ?_
          obtain ⟨mc_22, ms_23, hr_24, h⟩ := h
          refine uaVi (As := [.ref (yP y_11 a0 122), .int x2j30, .int ((sV s_10 a0 123) - 1)]) (rest := []) G hP hD hS (ca_Mo_cutLine l D g ad mc_22 ms_23 y_11 _ s_10 a0 a0 122 x2j30 ((sV s_10 a0 123) - 1) H.size (us H) h_a0 ⟨(kdp h_a0 rfl), (typ h_a0 rfl)⟩ h) w9_Mo_cutLine q3494 ⟨Nat.le_of_ble_eq_true rfl, Nat.le_of_ble_eq_true rfl⟩ rfl rfl h_a0 (q := (RMo, TMo, 131)) rfl rfl hl.1 rfl (Nat.le_of_ble_eq_true rfl) rfl hr_24 d_Mo_tryDraft_87 (fun r_17 y_19 s_18 d_20 e_21 H locs h hP hD hS => ?_)
          have hl := lv_sub (l' := [(0, .ref (ad a0))]) hl [0] rfl
          obtain ⟨hd, h⟩ := h
          refine lv_pop G.1 G.2.1 d_Mo_tryDraft_90 rfl ?_
          refine lv_aload_n G.1 G.2.1 d_Mo_tryDraft_91 rfl (lv_at hl 0 rfl) ?_
          refine lv_aload_n G.1 G.2.1 d_Mo_tryDraft_92 rfl (lv_at hl 0 rfl) ?_
          refine ugf (v := .int (sV s_18 a0 25)) G hP h_a0 iMo rfl 25 (by decide) rfl q3089 rfl rfl d_Mo_tryDraft_93 ?_
          obtain ⟨mc_30, ms_31, hr_32, h⟩ := h
          refine uxVv (As := [.int (sV s_18 a0 25)]) (rest := []) G hP hD hS (cx_Mo_needWord l D g ad mc_30 ms_31 y_19 _ _ s_18 a0 (sV s_18 a0 25) H.size (us H) h_a0 h) (fun _ h => absurd h List.not_mem_nil) w9_Mo_needWord q3543 ⟨Nat.le_of_ble_eq_true rfl, Nat.le_of_ble_eq_true rfl⟩ rfl rfl h_a0 (q := (RMo, TMo, 131)) rfl rfl hl.1 rfl (Nat.le_of_ble_eq_true rfl) rfl hr_32 d_Mo_tryDraft_96 (fun y_27 s_26 d_28 e_29 H locs q9 ce h hP hD hS hce hcv hcl => ?_) (fun y_27 s_26 d_28 e_29 H locs h hP hD hS => ?_)
          · skip
            obtain ⟨hd, h⟩ := h
            exact hretX h hP hD hS hd.1 hd.2 hce hcv hcl
          obtain ⟨hd, h⟩ := h
          refine lv_aload_n G.1 G.2.1 d_Mo_tryDraft_99 rfl (lv_at hl 0 rfl) ?_
          obtain ⟨mc_38, ms_39, hr_40, h⟩ := h
          refine uxVv (As := []) (rest := []) G hP hD hS (cx_Mo_callWords l D g ad mc_38 ms_39 y_27 _ _ s_26 a0 H.size (us H) h_a0 h) (fun _ h => absurd h List.not_mem_nil) w9_Mo_callWords q3802 ⟨Nat.le_of_ble_eq_true rfl, Nat.le_of_ble_eq_true rfl⟩ rfl rfl h_a0 (q := (RMo, TMo, 131)) rfl rfl hl.1 rfl (Nat.le_of_ble_eq_true rfl) rfl hr_40 d_Mo_tryDraft_100 (fun y_35 s_34 d_36 e_37 H locs q9 ce h hP hD hS hce hcv hcl => ?_) (fun y_35 s_34 d_36 e_37 H locs h hP hD hS => ?_)
          · skip
            obtain ⟨hd, h⟩ := h
            exact hretX h hP hD hS hd.1 hd.2 hce hcv hcl
          obtain ⟨hd, h⟩ := h
          refine lv_aload_n G.1 G.2.1 d_Mo_tryDraft_103 rfl (lv_at hl 0 rfl) ?_
          obtain ⟨b_41, e_42, c_43, h⟩ := h
          refine ugf (v := .ref (ad b_41)) G hP h_a0 iMo rfl 45 (by decide) rfl q3109 rfl (by show va_rf ((sO s_34 a0 45).map ad) = _; rw [e_42]; rfl) d_Mo_tryDraft_104 ?_
          refine W.eq (g2 := F0 m 107 ls [.ref (ad b_41)]) rfl ?_
          refine ugfN (v := .ref (yP y_35 b_41 62)) G hP c_43 iMw rfl 62 (by decide) rfl q2820 rfl rfl d_Mo_tryDraft_107 ?_
          refine lv_iconst (v := 0) G.1 G.2.1 d_Mo_tryDraft_110 (by decide) ?_
          refine uqald G hP (kdp c_43 rfl) (typ c_43 rfl) rfl h d_Mo_tryDraft_111 (fun b_44 n_45 h => ?_)
          refine lv_astore_n (lv' := [(3, .ref (ad b_44)), (0, .ref (ad a0))]) G.1 G.2.1 d_Mo_tryDraft_112 rfl hl (by decide) rfl (fun ls hl => ?_)
          refine lv_aload_n G.1 G.2.1 d_Mo_tryDraft_113 rfl (lv_at hl 1 rfl) ?_
          refine lv_aload_n G.1 G.2.1 d_Mo_tryDraft_114 rfl (lv_at hl 0 rfl) ?_
          refine ucVv (As := [.ref (ad b_44)]) (rest := []) G hP hD hS (cu_Mo_beginRun l D g ad y_35 _ s_34 a0 b_44 H.size h_a0 (oa_13 c_43 n_45) h) w9_Mo_beginRun q3810 ⟨Nat.le_of_ble_eq_true rfl, Nat.le_of_ble_eq_true rfl⟩ rfl rfl h_a0 (q := (RMo, TMo, 131)) rfl rfl hl.1 rfl (Nat.le_of_ble_eq_true rfl) rfl hd d_Mo_tryDraft_115 (fun s_47 H locs h hP hD hS => ?_)
          refine lv_aload_n G.1 G.2.1 d_Mo_tryDraft_118 rfl (lv_at hl 1 rfl) ?_
          refine lv_sipush (v := 300) G.1 G.2.1 d_Mo_tryDraft_119 (by decide) ?_
          obtain ⟨mc_53, ms_54, hr_55, h⟩ := h
          refine uaVi (As := [.int 300]) (rest := []) G hP hD hS (ca_Mo_goOn l D g ad mc_53 ms_54 y_35 _ s_47 a0 300 H.size (us H) h_a0 h) w9_Mo_goOn q3831 ⟨Nat.le_of_ble_eq_true rfl, Nat.le_of_ble_eq_true rfl⟩ rfl rfl h_a0 (q := (RMo, TMo, 131)) rfl rfl hl.1 rfl (Nat.le_of_ble_eq_true rfl) rfl hr_55 d_Mo_tryDraft_122 (fun r_48 y_50 s_49 d_51 e_52 H locs h hP hD hS => ?_)
          obtain ⟨hd, h⟩ := h
          refine lv_pop G.1 G.2.1 d_Mo_tryDraft_125 rfl ?_
          refine lv_aload_n G.1 G.2.1 d_Mo_tryDraft_126 rfl (lv_at hl 1 rfl) ?_
          refine W.eq (g2 := F0 m 127 ls [.ref (ad a0)]) rfl ?_
          refine lv_iconst (v := 0) G.1 G.2.1 d_Mo_tryDraft_127 (by decide) ?_
          refine upf G hP hD hS h 125 putV h_a0 iMo tMo tMo_ok nMo rfl (by decide) rfl q3189 rfl rfl fV rfl rfl d_Mo_tryDraft_128 (fun s_56 H locs h hP hD hS => ?_)
          refine lv_aload_n G.1 G.2.1 d_Mo_tryDraft_131 rfl (lv_at hl 0 rfl) ?_
          refine ugfN (v := .int (sV s_56 b_44 0)) G hP (oa_13 c_43 n_45) iMr rfl 0 (by decide) rfl q2987 rfl rfl d_Mo_tryDraft_132 ?_
          have J_253 : ∀ (y_j253 : Ly) (s_j253 : St) (d_j253 e_j253 : Nat) (H : Heap) (locs : List Loc), wja_Mo_tryDraft_253 mc ms Post PX a0 y_j253 s_j253 d_j253 e_j253 → va_P D CL (ws g ad y_j253 s_j253) H → va_D A (ws g ad y_j253 s_j253) → va_S A s.heap H locs → ∀ ls, lv_has ls 4 [] → W p l e (ra_Mo_tryDraft mc ms) s m args below meth c H locs d_j253 e_j253 Q (F0 m 253 ls []) := by
            intro y_j253 s_j253 d_j253 e_j253 H locs h hP hD hS ls hl
            unfold wja_Mo_tryDraft_253 at h
            obtain ⟨hd, h⟩ := h
            exact hret (y_j253, s_j253, d_j253, e_j253) _ _ _ _ _ ls h hP hD hS (Nat.le_refl _) (Nat.le_refl _) hd.1 hd.2 d_Mo_tryDraft_253
          refine lv_if_ne (tgt := 202) G.1 G.2.1 d_Mo_tryDraft_135 (by decide) (fun c135 => ?_) (fun c135 => ?_)
          · skip
            have h := h.1 c135
            refine lv_aload_n G.1 G.2.1 d_Mo_tryDraft_202 rfl (lv_at hl 0 rfl) ?_
            refine ugfN (v := .int (sV s_56 b_44 0)) G hP (oa_13 c_43 n_45) iMr rfl 0 (by decide) rfl q2987 rfl rfl d_Mo_tryDraft_203 ?_
            refine lv_iconst (v := 2) G.1 G.2.1 d_Mo_tryDraft_206 (by decide) ?_
            refine lv_icmp_ne (tgt := 248) G.1 G.2.1 d_Mo_tryDraft_207 (by decide) (fun c207 => ?_) (fun c207 => ?_)
            · skip
              have h := h.1 c207
              refine lv_aload_n G.1 G.2.1 d_Mo_tryDraft_248 rfl (lv_at hl 1 rfl) ?_
              refine lv_iconst (v := 5) G.1 G.2.1 d_Mo_tryDraft_249 (by decide) ?_
              refine upf G hP hD hS h 124 putV h_a0 iMo tMo tMo_ok nMo rfl (by decide) rfl q3188 rfl rfl fV rfl rfl d_Mo_tryDraft_250 (fun s_57 H locs h hP hD hS => ?_)
              exact J_253 y_50 s_57 (d_j30 + d_12 + d_20 + d_28 + d_36 + d_51) (e_j30 + e_13 + e_21 + e_29 + e_37 + e_52) H locs h hP hD hS ls (lv_sub hl [] rfl)
            · skip
              have h := h.2 c207
              refine lv_aload_n G.1 G.2.1 d_Mo_tryDraft_210 rfl (lv_at hl 1 rfl) ?_
              refine lv_iconst (v := 4) G.1 G.2.1 d_Mo_tryDraft_211 (by decide) ?_
              refine upf G hP hD hS h 124 putV h_a0 iMo tMo tMo_ok nMo rfl (by decide) rfl q3188 rfl rfl fV rfl rfl d_Mo_tryDraft_212 (fun s_58 H locs h hP hD hS => ?_)
              refine W.eq (g2 := F0 m 215 ls []) rfl ?_
              refine lv_aload_n G.1 G.2.1 d_Mo_tryDraft_215 rfl (lv_at hl 1 rfl) ?_
              refine lv_bipush (v := 100) G.1 G.2.1 d_Mo_tryDraft_216 (by decide) ?_
              refine lv_aload_n G.1 G.2.1 d_Mo_tryDraft_218 rfl (lv_at hl 0 rfl) ?_
              refine ugfN (v := .int (sV s_58 b_44 13)) G hP (oa_13 c_43 n_45) iMr rfl 13 (by decide) rfl q3000 rfl rfl d_Mo_tryDraft_219 ?_
              refine lv_imul G.1 G.2.1 d_Mo_tryDraft_222 ?_
              refine lv_aload_n G.1 G.2.1 d_Mo_tryDraft_223 rfl (lv_at hl 0 rfl) ?_
              refine ugfN (v := .int (sV s_58 b_44 12)) G hP (oa_13 c_43 n_45) iMr rfl 12 (by decide) rfl q2999 rfl rfl d_Mo_tryDraft_224 ?_
              refine lv_bipush (v := 21) G.1 G.2.1 d_Mo_tryDraft_227 (by decide) ?_
              have J_241 : ∀ (y_j241 : Ly) (s_j241 : St) (d_j241 e_j241 : Nat) (z1j241 : Int32) (z2j241 : Int32) (H : Heap) (locs : List Loc), wja_Mo_tryDraft_241 mc ms Post PX a0 y_j241 s_j241 d_j241 e_j241 z1j241 z2j241 → va_P D CL (ws g ad y_j241 s_j241) H → va_D A (ws g ad y_j241 s_j241) → va_S A s.heap H locs → ∀ ls, lv_has ls 4 [] → W p l e (ra_Mo_tryDraft mc ms) s m args below meth c H locs d_j241 e_j241 Q (F0 m 241 ls [.int z2j241, .int z1j241, .ref (ad a0)]) := by
                intro y_j241 s_j241 d_j241 e_j241 z1j241 z2j241 H locs h hP hD hS ls hl
                unfold wja_Mo_tryDraft_241 at h
                obtain ⟨hd, h⟩ := h
                refine lv_iadd G.1 G.2.1 d_Mo_tryDraft_241 ?_
                refine upf G hP hD hS h 125 putV h_a0 iMo tMo tMo_ok nMo rfl (by decide) rfl q3189 rfl rfl fV rfl rfl d_Mo_tryDraft_242 (fun s_59 H locs h hP hD hS => ?_)
                refine lv_goto (tgt := 253) G.1 G.2.1 d_Mo_tryDraft_245 (by decide) ?_
                exact J_253 y_j241 s_59 d_j241 e_j241 H locs h hP hD hS ls (lv_sub hl [] rfl)
              refine lv_icmp_ge (tgt := 239) G.1 G.2.1 d_Mo_tryDraft_229 (by decide) (fun c229 => ?_) (fun c229 => ?_)
              · skip
                have h := h.1 c229
                refine lv_bipush (v := 99) G.1 G.2.1 d_Mo_tryDraft_239 (by decide) ?_
                exact J_241 y_50 s_58 (d_j30 + d_12 + d_20 + d_28 + d_36 + d_51) (e_j30 + e_13 + e_21 + e_29 + e_37 + e_52) (100 * (sV s_58 b_44 13)) 99 H locs h hP hD hS ls (lv_sub hl [] rfl)
              · skip
                have h := h.2 c229
                refine lv_aload_n G.1 G.2.1 d_Mo_tryDraft_232 rfl (lv_at hl 0 rfl) ?_
                refine ugfN (v := .int (sV s_58 b_44 12)) G hP (oa_13 c_43 n_45) iMr rfl 12 (by decide) rfl q2999 rfl rfl d_Mo_tryDraft_233 ?_
                refine lv_goto (tgt := 241) G.1 G.2.1 d_Mo_tryDraft_236 (by decide) ?_
                exact J_241 y_50 s_58 (d_j30 + d_12 + d_20 + d_28 + d_36 + d_51) (e_j30 + e_13 + e_21 + e_29 + e_37 + e_52) (100 * (sV s_58 b_44 13)) (sV s_58 b_44 12) H locs h hP hD hS ls (lv_sub hl [] rfl)
          · skip
            have h := h.2 c135
            refine lv_aload_n G.1 G.2.1 d_Mo_tryDraft_138 rfl (lv_at hl 1 rfl) ?_
            refine lv_aload_n G.1 G.2.1 d_Mo_tryDraft_139 rfl (lv_at hl 0 rfl) ?_
            refine ugfN (v := .int (sV s_56 b_44 10)) G hP (oa_13 c_43 n_45) iMr rfl 10 (by decide) rfl q2997 rfl rfl d_Mo_tryDraft_140 ?_
            refine lv_iconst (v := 1) G.1 G.2.1 d_Mo_tryDraft_143 (by decide) ?_
            have J_152 : ∀ (y_j152 : Ly) (s_j152 : St) (d_j152 e_j152 : Nat) (x3j152 : Nat) (z1j152 : Int32) (H : Heap) (locs : List Loc), wja_Mo_tryDraft_152 mc ms Post PX a0 y_j152 s_j152 d_j152 e_j152 x3j152 z1j152 → va_P D CL (ws g ad y_j152 s_j152) H → va_D A (ws g ad y_j152 s_j152) → va_S A s.heap H locs → ∀ ls, lv_has ls 4 [(0, .ref (ad a0)), (3, .ref (ad x3j152))] → W p l e (ra_Mo_tryDraft mc ms) s m args below meth c H locs d_j152 e_j152 Q (F0 m 152 ls [.int z1j152, .ref (ad a0)]) := by
              intro y_j152 s_j152 d_j152 e_j152 x3j152 z1j152 H locs h hP hD hS ls hl
              unfold wja_Mo_tryDraft_152 at h
              obtain ⟨hd, h⟩ := h
              obtain ⟨c_x3j152, h⟩ := h
              refine upf G hP hD hS h 124 putV h_a0 iMo tMo tMo_ok nMo rfl (by decide) rfl q3188 rfl rfl fV rfl rfl d_Mo_tryDraft_152 (fun s_60 H locs h hP hD hS => ?_)
              refine lv_aload_n G.1 G.2.1 d_Mo_tryDraft_155 rfl (lv_at hl 0 rfl) ?_
              refine lv_aload_n G.1 G.2.1 d_Mo_tryDraft_156 rfl (lv_at hl 1 rfl) ?_
              refine ugfN (v := .int (sV s_60 x3j152 10)) G hP c_x3j152 iMr rfl 10 (by decide) rfl q2997 rfl rfl d_Mo_tryDraft_157 ?_
              refine lv_iconst (v := 1) G.1 G.2.1 d_Mo_tryDraft_160 (by decide) ?_
              have J_196 : ∀ (y_j196 : Ly) (s_j196 : St) (d_j196 e_j196 : Nat) (z1j196 : Int32) (H : Heap) (locs : List Loc), wja_Mo_tryDraft_196 mc ms Post PX a0 y_j196 s_j196 d_j196 e_j196 z1j196 → va_P D CL (ws g ad y_j196 s_j196) H → va_D A (ws g ad y_j196 s_j196) → va_S A s.heap H locs → ∀ ls, lv_has ls 4 [] → W p l e (ra_Mo_tryDraft mc ms) s m args below meth c H locs d_j196 e_j196 Q (F0 m 196 ls [.int z1j196, .ref (ad a0)]) := by
                intro y_j196 s_j196 d_j196 e_j196 z1j196 H locs h hP hD hS ls hl
                unfold wja_Mo_tryDraft_196 at h
                obtain ⟨hd, h⟩ := h
                refine upf G hP hD hS h 125 putV h_a0 iMo tMo tMo_ok nMo rfl (by decide) rfl q3189 rfl rfl fV rfl rfl d_Mo_tryDraft_196 (fun s_61 H locs h hP hD hS => ?_)
                refine lv_goto (tgt := 253) G.1 G.2.1 d_Mo_tryDraft_199 (by decide) ?_
                exact J_253 y_j196 s_61 d_j196 e_j196 H locs h hP hD hS ls (lv_sub hl [] rfl)
              refine lv_icmp_ne (tgt := 171) G.1 G.2.1 d_Mo_tryDraft_161 (by decide) (fun c161 => ?_) (fun c161 => ?_)
              · skip
                have h := h.1 c161
                refine lv_aload_n G.1 G.2.1 d_Mo_tryDraft_171 rfl (lv_at hl 1 rfl) ?_
                refine ugfN (v := .int (sV s_60 x3j152 10)) G hP c_x3j152 iMr rfl 10 (by decide) rfl q2997 rfl rfl d_Mo_tryDraft_172 ?_
                refine lv_iconst (v := 3) G.1 G.2.1 d_Mo_tryDraft_175 (by decide) ?_
                refine lv_icmp_ne (tgt := 183) G.1 G.2.1 d_Mo_tryDraft_176 (by decide) (fun c176 => ?_) (fun c176 => ?_)
                · skip
                  have h := h.1 c176
                  refine lv_aload_n G.1 G.2.1 d_Mo_tryDraft_183 rfl (lv_at hl 1 rfl) ?_
                  refine W.eq (g2 := F0 m 184 ls [.ref (ad x3j152), .ref (ad a0)]) rfl ?_
                  refine ugfN (v := .int (sV s_60 x3j152 10)) G hP c_x3j152 iMr rfl 10 (by decide) rfl q2997 rfl rfl d_Mo_tryDraft_184 ?_
                  refine lv_iconst (v := 4) G.1 G.2.1 d_Mo_tryDraft_187 (by decide) ?_
                  refine lv_icmp_ne (tgt := 195) G.1 G.2.1 d_Mo_tryDraft_188 (by decide) (fun c188 => ?_) (fun c188 => ?_)
                  · skip
                    have h := h.1 c188
                    refine lv_iconst (v := 0) G.1 G.2.1 d_Mo_tryDraft_195 (by decide) ?_
                    exact J_196 y_j152 s_60 d_j152 e_j152 0 H locs h hP hD hS ls (lv_sub hl [] rfl)
                  · skip
                    have h := h.2 c188
                    refine lv_iconst (v := 2) G.1 G.2.1 d_Mo_tryDraft_191 (by decide) ?_
                    refine lv_goto (tgt := 196) G.1 G.2.1 d_Mo_tryDraft_192 (by decide) ?_
                    exact J_196 y_j152 s_60 d_j152 e_j152 2 H locs h hP hD hS ls (lv_sub hl [] rfl)
                · skip
                  have h := h.2 c176
                  refine lv_iconst (v := 1) G.1 G.2.1 d_Mo_tryDraft_179 (by decide) ?_
                  refine W.eq (g2 := F0 m 180 ls [.int 1, .ref (ad a0)]) rfl ?_
                  refine lv_goto (tgt := 196) G.1 G.2.1 d_Mo_tryDraft_180 (by decide) ?_
                  exact J_196 y_j152 s_60 d_j152 e_j152 1 H locs h hP hD hS ls (lv_sub hl [] rfl)
              · skip
                have h := h.2 c161
                refine lv_aload_n G.1 G.2.1 d_Mo_tryDraft_164 rfl (lv_at hl 1 rfl) ?_
                refine ugfN (v := .int (sV s_60 x3j152 11)) G hP c_x3j152 iMr rfl 11 (by decide) rfl q2998 rfl rfl d_Mo_tryDraft_165 ?_
                refine lv_goto (tgt := 196) G.1 G.2.1 d_Mo_tryDraft_168 (by decide) ?_
                exact J_196 y_j152 s_60 d_j152 e_j152 (sV s_60 x3j152 11) H locs h hP hD hS ls (lv_sub hl [] rfl)
            refine lv_icmp_ne (tgt := 151) G.1 G.2.1 d_Mo_tryDraft_144 (by decide) (fun c144 => ?_) (fun c144 => ?_)
            · skip
              have h := h.1 c144
              refine lv_iconst (v := 3) G.1 G.2.1 d_Mo_tryDraft_151 (by decide) ?_
              exact J_152 y_50 s_56 (d_j30 + d_12 + d_20 + d_28 + d_36 + d_51) (e_j30 + e_13 + e_21 + e_29 + e_37 + e_52) b_44 3 H locs h hP hD hS ls (lv_sub hl [1, 0] rfl)
            · skip
              have h := h.2 c144
              refine lv_iconst (v := 2) G.1 G.2.1 d_Mo_tryDraft_147 (by decide) ?_
              refine lv_goto (tgt := 152) G.1 G.2.1 d_Mo_tryDraft_148 (by decide) ?_
              exact J_152 y_50 s_56 (d_j30 + d_12 + d_20 + d_28 + d_36 + d_51) (e_j30 + e_13 + e_21 + e_29 + e_37 + e_52) b_44 2 H locs h hP hD hS ls (lv_sub hl [1, 0] rfl)
        · skip
          have h := h.2 c58
          refine lv_aload_n G.1 G.2.1 d_Mo_tryDraft_61 rfl (lv_at hl 0 rfl) ?_
          refine lv_iconst (v := 1) G.1 G.2.1 d_Mo_tryDraft_62 (by decide) ?_
          refine upf G hP hD hS h 124 putV h_a0 iMo tMo tMo_ok nMo rfl (by decide) rfl q3188 rfl rfl fV rfl rfl d_Mo_tryDraft_63 (fun s_62 H locs h hP hD hS => ?_)
          refine lv_aload_n G.1 G.2.1 d_Mo_tryDraft_66 rfl (lv_at hl 0 rfl) ?_
          refine lv_aload_n G.1 G.2.1 d_Mo_tryDraft_67 rfl (lv_at hl 0 rfl) ?_
          refine ugf (v := .int (sV s_62 a0 49)) G hP h_a0 iMo rfl 49 (by decide) rfl q3113 rfl rfl d_Mo_tryDraft_68 ?_
          refine W.eq (g2 := F0 m 71 ls [.int (sV s_62 a0 49), .ref (ad a0)]) rfl ?_
          refine upf G hP hD hS h 125 putV h_a0 iMo tMo tMo_ok nMo rfl (by decide) rfl q3189 rfl rfl fV rfl rfl d_Mo_tryDraft_71 (fun s_63 H locs h hP hD hS => ?_)
          exact hret (y_11, s_63, d_j30 + d_12, e_j30 + e_13) _ _ _ _ _ ls h hP hD hS (Nat.le_refl _) (Nat.le_refl _) hd.1 hd.2 d_Mo_tryDraft_74
      refine lv_if_le (tgt := 30) G.1 G.2.1 d_Mo_tryDraft_8 (by decide) (fun c8 => ?_) (fun c8 => ?_)
      · skip
        have h := h.1 c8
        exact J_30 y_h7 s_h7 d_h7 e_h7 x1h7 x2h7 H locs h hP hD hS ls (lv_sub hl [0, 1, 2] rfl)
      · skip
        have h := h.2 c8
        refine lv_aload_n G.1 G.2.1 d_Mo_tryDraft_11 rfl (lv_at hl 0 rfl) ?_
        refine ugf (v := .ref (yP y_h7 a0 122)) G hP h_a0 iMo rfl 122 (by decide) rfl q3186 rfl rfl d_Mo_tryDraft_12 ?_
        refine lv_iload_n G.1 G.2.1 d_Mo_tryDraft_15 rfl (lv_at hl 2 rfl) ?_
        refine lv_iconst (v := 1) G.1 G.2.1 d_Mo_tryDraft_16 (by decide) ?_
        refine lv_isub G.1 G.2.1 d_Mo_tryDraft_17 ?_
        refine ubald G hP (kdp h_a0 rfl) (typ h_a0 rfl) h d_Mo_tryDraft_18 (fun x_64 h => ?_)
        refine lv_bipush (v := 10) G.1 G.2.1 d_Mo_tryDraft_19 (by decide) ?_
        refine lv_icmp_eq (tgt := 30) G.1 G.2.1 d_Mo_tryDraft_21 (by decide) (fun c21 => ?_) (fun c21 => ?_)
        · skip
          have h := h.1 c21
          exact J_30 y_h7 s_h7 d_h7 e_h7 x1h7 x2h7 H locs h hP hD hS ls (lv_sub hl [0, 1, 2] rfl)
        · skip
          have h := h.2 c21
          refine lv_iinc (v := x2h7 + (-1)) (lv' := [(2, .int (x2h7 + (-1))), (0, .ref (ad a0)), (1, .int x1h7)]) G.1 G.2.1 d_Mo_tryDraft_24 hl (k := 2) rfl rfl (by decide) rfl (fun ls hl => ?_)
          refine W.eq (g2 := F0 m 27 ls []) rfl ?_
          refine lv_goto (tgt := 7) G.1 G.2.1 d_Mo_tryDraft_27 (by decide) ?_
          have h := hK_7 y_h7 s_h7 d_h7 e_h7 x1h7 (x2h7 + (-1)) h
          exact ih_7 y_h7 s_h7 d_h7 e_h7 x1h7 (x2h7 + (-1)) (Nat.lt_of_lt_of_le h.2 (Nat.le_of_lt_succ hμ_7)) h.1 H locs hP hD hS ls (lv_sub hl [1, 2, 0] rfl)
  exact L_7 _ y σ 0 0 v1 ((sV σ a0 123) - 1) (Nat.lt_succ_self _) hI_7 H locs hP hD hS ls (lv_sub hl [1, 2, 0] rfl)
theorem q4228 : Cond.methodLink "ClassWorksModel" 1332 y_Mo_draftTrial ∈ lw_ok := lw_okmem (List.mem_of_getElem? (i := 4228) (by decide +kernel)) rfl
theorem q4231 : Cond.code y_Mo_draftTrial b_Mo_draftTrial 2 (none) ∈ lw_ok := lw_okmem (List.mem_of_getElem? (i := 4231) (by decide +kernel)) rfl
theorem q4230 : Cond.instanceMethod y_Mo_draftTrial ∈ lw_ok := lw_okmem (List.mem_of_getElem? (i := 4230) (by decide +kernel)) rfl
theorem q321 : Cond.selects y_Mo_draftTrial.cls y_Mo_draftTrial y_Mo_draftTrial ∈ lw_ok := lw_okmem (List.mem_of_getElem? (i := 321) (by decide +kernel)) rfl
theorem w9_Mo_draftTrial : CWv y_Mo_draftTrial b_Mo_draftTrial 2 (none) 1 ∧ Cond.instanceMethod y_Mo_draftTrial ∈ lw_ok ∧ Cond.selects y_Mo_draftTrial.cls y_Mo_draftTrial y_Mo_draftTrial ∈ lw_ok := ⟨⟨q4231, q348, by decide +kernel, by decide +kernel, by decide +kernel⟩, q4230, q321⟩
theorem q4232 : Cond.methodLink "ClassWorksModel" 1335 y_Mo_tryDraft ∈ lw_ok := lw_okmem (List.mem_of_getElem? (i := 4232) (by decide +kernel)) rfl
theorem q4235 : Cond.code y_Mo_tryDraft b_Mo_tryDraft 4 (none) ∈ lw_ok := lw_okmem (List.mem_of_getElem? (i := 4235) (by decide +kernel)) rfl
theorem q4234 : Cond.instanceMethod y_Mo_tryDraft ∈ lw_ok := lw_okmem (List.mem_of_getElem? (i := 4234) (by decide +kernel)) rfl
theorem q322 : Cond.selects y_Mo_tryDraft.cls y_Mo_tryDraft y_Mo_tryDraft ∈ lw_ok := lw_okmem (List.mem_of_getElem? (i := 322) (by decide +kernel)) rfl
theorem w9_Mo_tryDraft : CWv y_Mo_tryDraft b_Mo_tryDraft 4 (none) 1 ∧ Cond.instanceMethod y_Mo_tryDraft ∈ lw_ok ∧ Cond.selects y_Mo_tryDraft.cls y_Mo_tryDraft y_Mo_tryDraft ∈ lw_ok := ⟨⟨q4235, q348, by decide +kernel, by decide +kernel, by decide +kernel⟩, q4234, q322⟩
def y_Mo_outcome : MethodName := ⟨"ClassWorksModel", "outcome", "(III)I"⟩
abbrev b_Mo_outcome : ByteArray := prog_14_method_199_code
theorem d_Mo_outcome_0 : decode b_Mo_outcome 0 = .ok (.aload_n 0, 1) := by decide +kernel
theorem d_Mo_outcome_1 : decode b_Mo_outcome 1 = .ok (.iload_n 1, 1) := by decide +kernel
theorem d_Mo_outcome_2 : decode b_Mo_outcome 2 = .ok (.invokevirtual 1329, 3) := by decide +kernel
theorem d_Mo_outcome_5 : decode b_Mo_outcome 5 = .ok (.ifCond .eq 23, 3) := by decide +kernel
theorem d_Mo_outcome_8 : decode b_Mo_outcome 8 = .ok (.iload_n 2, 1) := by decide +kernel
theorem d_Mo_outcome_9 : decode b_Mo_outcome 9 = .ok (.ifCond .lt 19, 3) := by decide +kernel
theorem d_Mo_outcome_12 : decode b_Mo_outcome 12 = .ok (.iload_n 2, 1) := by decide +kernel
theorem d_Mo_outcome_13 : decode b_Mo_outcome 13 = .ok (.sipush 255, 3) := by decide +kernel
theorem d_Mo_outcome_16 : decode b_Mo_outcome 16 = .ok (.if_icmp .gt 12, 3) := by decide +kernel
theorem d_Mo_outcome_19 : decode b_Mo_outcome 19 = .ok (.iload_n 3, 1) := by decide +kernel
theorem d_Mo_outcome_20 : decode b_Mo_outcome 20 = .ok (.ifCond .lt 8, 3) := by decide +kernel
theorem d_Mo_outcome_23 : decode b_Mo_outcome 23 = .ok (.iload_n 3, 1) := by decide +kernel
theorem d_Mo_outcome_24 : decode b_Mo_outcome 24 = .ok (.iconst 1, 1) := by decide +kernel
theorem d_Mo_outcome_25 : decode b_Mo_outcome 25 = .ok (.if_icmp .le 5, 3) := by decide +kernel
theorem d_Mo_outcome_28 : decode b_Mo_outcome 28 = .ok (.iconst (-1), 1) := by decide +kernel
theorem d_Mo_outcome_29 : decode b_Mo_outcome 29 = .ok (.ireturn, 1) := by decide +kernel
theorem d_Mo_outcome_30 : decode b_Mo_outcome 30 = .ok (.aload_n 0, 1) := by decide +kernel
theorem d_Mo_outcome_31 : decode b_Mo_outcome 31 = .ok (.iload_n 1, 1) := by decide +kernel
theorem d_Mo_outcome_32 : decode b_Mo_outcome 32 = .ok (.invokevirtual 1332, 3) := by decide +kernel
theorem d_Mo_outcome_35 : decode b_Mo_outcome 35 = .ok (.aload_n 0, 1) := by decide +kernel
theorem d_Mo_outcome_36 : decode b_Mo_outcome 36 = .ok (.iload_n 2, 1) := by decide +kernel
theorem d_Mo_outcome_37 : decode b_Mo_outcome 37 = .ok (.invokevirtual 1335, 3) := by decide +kernel
theorem d_Mo_outcome_40 : decode b_Mo_outcome 40 = .ok (.iload_n 3, 1) := by decide +kernel
theorem d_Mo_outcome_41 : decode b_Mo_outcome 41 = .ok (.ifCond .ne 10, 3) := by decide +kernel
theorem d_Mo_outcome_44 : decode b_Mo_outcome 44 = .ok (.aload_n 0, 1) := by decide +kernel
theorem d_Mo_outcome_45 : decode b_Mo_outcome 45 = .ok (.getfield 1323, 3) := by decide +kernel
theorem d_Mo_outcome_48 : decode b_Mo_outcome 48 = .ok (.goto 7, 3) := by decide +kernel
theorem d_Mo_outcome_51 : decode b_Mo_outcome 51 = .ok (.aload_n 0, 1) := by decide +kernel
theorem d_Mo_outcome_52 : decode b_Mo_outcome 52 = .ok (.getfield 1326, 3) := by decide +kernel
theorem d_Mo_outcome_55 : decode b_Mo_outcome 55 = .ok (.ireturn, 1) := by decide +kernel
abbrev ra_Mo_outcome (mc ms : Nat) : Room := { frames := 476, cells := mc, slots := ms, locals := 11590 }
def wja_Mo_outcome_28 (mc ms : Nat) (Post : Ly → St → Int32 → Nat → Nat → Prop) (PX : Ly → St → Nat → Nat → Prop) (a0 : Nat) (y_j28 : Ly) (s_j28 : St) (d_j28 e_j28 : Nat) : Prop := (d_j28 ≤ mc ∧ e_j28 ≤ ms) ∧ Post y_j28 s_j28 (-1) d_j28 e_j28
def wja_Mo_outcome_55 (mc ms : Nat) (Post : Ly → St → Int32 → Nat → Nat → Prop) (PX : Ly → St → Nat → Nat → Prop) (a0 : Nat) (y_j55 : Ly) (s_j55 : St) (d_j55 e_j55 : Nat) (z0j55 : Int32) : Prop := (d_j55 ≤ mc ∧ e_j55 ≤ ms) ∧ Post y_j55 s_j55 z0j55 d_j55 e_j55
def wx_Mo_outcome (mc ms : Nat) (y : Ly) (Post : Ly → St → Int32 → Nat → Nat → Prop) (PX : Ly → St → Nat → Nat → Prop) (σ : St) (a0 : Nat) (v1 : Int32) (v2 : Int32) (v3 : Int32) : Prop := wu_Mo_isTrial y (fun (s_2 : St) (r_1 : Int32) => ((r_1 = 0 → wja_Mo_outcome_28 mc ms Post PX a0 y s_2 0 0) ∧ (¬ (r_1 = 0) → ((v2 < 0 → wja_Mo_outcome_28 mc ms Post PX a0 y s_2 0 0) ∧ (¬ (v2 < 0) → ((255 < v2 → wja_Mo_outcome_28 mc ms Post PX a0 y s_2 0 0) ∧ (¬ (255 < v2) → ((v3 < 0 → wja_Mo_outcome_28 mc ms Post PX a0 y s_2 0 0) ∧ (¬ (v3 < 0) → ((v3 ≤ 1 → wu_Mo_draftTrial y (fun (s_4 : St) => ∃ mc_10 ms_11 : Nat, (0 + mc_10 ≤ mc ∧ 0 + ms_11 ≤ ms) ∧ wx_Mo_tryDraft mc_10 ms_11 y (fun (y_7 : Ly) (s_6 : St) (d_8 e_9 : Nat) => (0 + d_8 ≤ mc ∧ 0 + e_9 ≤ ms) ∧ ((¬ v3 = 0 → wja_Mo_outcome_55 mc ms Post PX a0 y_7 s_6 (0 + d_8) (0 + e_9) (sV s_6 a0 125)) ∧ (v3 = 0 → wja_Mo_outcome_55 mc ms Post PX a0 y_7 s_6 (0 + d_8) (0 + e_9) (sV s_6 a0 124)))) (fun (y_7 : Ly) (s_6 : St) (d_8 e_9 : Nat) => ((0 + d_8 ≤ mc ∧ 0 + e_9 ≤ ms) ∧ PX y_7 s_6 (0 + d_8) (0 + e_9))) s_4 a0 v2) s_2 a0 v1) ∧ (¬ (v3 ≤ 1) → wja_Mo_outcome_28 mc ms Post PX a0 y s_2 0 0))))))))))) σ a0 v1
set_option maxHeartbeats 4000000 in
set_option maxRecDepth 100000 in
theorem cx_Mo_outcome (l : Launch) (D : va_G) (g : Nat → ClassId) (ad : Nat → Nat) (mc ms : Nat) (y : Ly) (Post : Ly → St → Int32 → Nat → Nat → Prop) (PX : Ly → St → Nat → Nat → Prop) (σ : St) (a0 : Nat) (v1 : Int32) (v2 : Int32) (v3 : Int32) (sz uz : Nat) (h_a0 : cl a0 = 14) (h : wx_Mo_outcome mc ms y Post PX σ a0 v1 v2 v3) : vx_Met l y_Mo_outcome (mw y_Mo_outcome b_Mo_outcome 4 (some .int)) (ra_Mo_outcome mc ms) (PCu g D [] [.ref (ad a0), .int v1, .int v2, .int v3] sz uz (ws g ad y σ)) (va_Qi (fun (r : Int32) (u : Ly × St × Nat × Nat) => Post u.1 u.2.1 r u.2.2.1 u.2.2.2) (QU D (va_A (ws g ad y σ) sz) (fun u => ws g ad u.1 u.2.1) sz uz (fun u => u.2.2.1) (fun u => u.2.2.2)) (va_A (ws g ad y σ) sz)) (XQ D g ad (va_A (ws g ad y σ) sz) sz uz PX) mc ms (va_A (ws g ad y σ) sz) := by
  refine ofIx (by decide +kernel) (Nat.le_of_ble_eq_true rfl) ?_
  intro p e s m args below meth c A Q ls H locs G hsz hP hD hS hl hret hretX
  subst hsz
  have hl : lv_has ls 4 [(0, .ref (ad a0)), (1, .int v1), (2, .int v2), (3, .int v3)] := hl
  have hd : 0 ≤ mc ∧ 0 ≤ ms := ⟨Nat.zero_le _, Nat.zero_le _⟩
  unfold wx_Mo_outcome at h
  refine lv_aload_n G.1 G.2.1 d_Mo_outcome_0 rfl (lv_at hl 0 rfl) ?_
  refine lv_iload_n G.1 G.2.1 d_Mo_outcome_1 rfl (lv_at hl 1 rfl) ?_
  refine ucVi (As := [.int v1]) (rest := []) G hP hD hS (cu_Mo_isTrial l D g ad y _ σ a0 v1 H.size h_a0 h) w9_Mo_isTrial q4224 ⟨Nat.le_of_ble_eq_true rfl, Nat.le_of_ble_eq_true rfl⟩ rfl rfl h_a0 (q := (RMo, TMo, 131)) rfl rfl hl.1 rfl (Nat.le_of_ble_eq_true rfl) rfl hd d_Mo_outcome_2 (fun r_1 s_2 H locs h hP hD hS => ?_)
  have J_28 : ∀ (y_j28 : Ly) (s_j28 : St) (d_j28 e_j28 : Nat) (H : Heap) (locs : List Loc), wja_Mo_outcome_28 mc ms Post PX a0 y_j28 s_j28 d_j28 e_j28 → va_P D CL (ws g ad y_j28 s_j28) H → va_D A (ws g ad y_j28 s_j28) → va_S A s.heap H locs → ∀ ls, lv_has ls 4 [] → W p l e (ra_Mo_outcome mc ms) s m args below meth c H locs d_j28 e_j28 Q (F0 m 28 ls []) := by
    intro y_j28 s_j28 d_j28 e_j28 H locs h hP hD hS ls hl
    unfold wja_Mo_outcome_28 at h
    obtain ⟨hd, h⟩ := h
    refine lv_iconst (v := (-1)) G.1 G.2.1 d_Mo_outcome_28 (by decide) ?_
    exact hret _ (y_j28, s_j28, d_j28, e_j28) _ _ _ _ _ ls h hP hD hS (Nat.le_refl _) (Nat.le_refl _) hd.1 hd.2 d_Mo_outcome_29
  refine lv_if_eq (tgt := 28) G.1 G.2.1 d_Mo_outcome_5 (by decide) (fun c5 => ?_) (fun c5 => ?_)
  · skip
    have h := h.1 c5
    exact J_28 y s_2 0 0 H locs h hP hD hS ls (lv_sub hl [] rfl)
  · skip
    have h := h.2 c5
    refine lv_iload_n G.1 G.2.1 d_Mo_outcome_8 rfl (lv_at hl 2 rfl) ?_
    refine lv_if_lt (tgt := 28) G.1 G.2.1 d_Mo_outcome_9 (by decide) (fun c9 => ?_) (fun c9 => ?_)
    · skip
      have h := h.1 c9
      exact J_28 y s_2 0 0 H locs h hP hD hS ls (lv_sub hl [] rfl)
    · skip
      have h := h.2 c9
      refine lv_iload_n G.1 G.2.1 d_Mo_outcome_12 rfl (lv_at hl 2 rfl) ?_
      refine lv_sipush (v := 255) G.1 G.2.1 d_Mo_outcome_13 (by decide) ?_
      refine lv_icmp_gt (tgt := 28) G.1 G.2.1 d_Mo_outcome_16 (by decide) (fun c16 => ?_) (fun c16 => ?_)
      · skip
        have h := h.1 c16
        exact J_28 y s_2 0 0 H locs h hP hD hS ls (lv_sub hl [] rfl)
      · skip
        have h := h.2 c16
        refine lv_iload_n G.1 G.2.1 d_Mo_outcome_19 rfl (lv_at hl 3 rfl) ?_
        refine lv_if_lt (tgt := 28) G.1 G.2.1 d_Mo_outcome_20 (by decide) (fun c20 => ?_) (fun c20 => ?_)
        · skip
          have h := h.1 c20
          exact J_28 y s_2 0 0 H locs h hP hD hS ls (lv_sub hl [] rfl)
        · skip
          have h := h.2 c20
          refine W.eq (g2 := F0 m 23 ls []) rfl ?_
          refine lv_iload_n G.1 G.2.1 d_Mo_outcome_23 rfl (lv_at hl 3 rfl) ?_
          refine lv_iconst (v := 1) G.1 G.2.1 d_Mo_outcome_24 (by decide) ?_
          refine lv_icmp_le (tgt := 30) G.1 G.2.1 d_Mo_outcome_25 (by decide) (fun c25 => ?_) (fun c25 => ?_)
          · skip
            have h := h.1 c25
            refine lv_aload_n G.1 G.2.1 d_Mo_outcome_30 rfl (lv_at hl 0 rfl) ?_
            refine lv_iload_n G.1 G.2.1 d_Mo_outcome_31 rfl (lv_at hl 1 rfl) ?_
            refine ucVv (As := [.int v1]) (rest := []) G hP hD hS (cu_Mo_draftTrial l D g ad y _ s_2 a0 v1 H.size h_a0 h) w9_Mo_draftTrial q4228 ⟨Nat.le_of_ble_eq_true rfl, Nat.le_of_ble_eq_true rfl⟩ rfl rfl h_a0 (q := (RMo, TMo, 131)) rfl rfl hl.1 rfl (Nat.le_of_ble_eq_true rfl) rfl hd d_Mo_outcome_32 (fun s_4 H locs h hP hD hS => ?_)
            refine lv_aload_n G.1 G.2.1 d_Mo_outcome_35 rfl (lv_at hl 0 rfl) ?_
            refine lv_iload_n G.1 G.2.1 d_Mo_outcome_36 rfl (lv_at hl 2 rfl) ?_
            obtain ⟨mc_10, ms_11, hr_12, h⟩ := h
            refine uxVv (As := [.int v2]) (rest := []) G hP hD hS (cx_Mo_tryDraft l D g ad mc_10 ms_11 y _ _ s_4 a0 v2 H.size (us H) h_a0 h) (fun _ h => absurd h List.not_mem_nil) w9_Mo_tryDraft q4232 ⟨Nat.le_of_ble_eq_true rfl, Nat.le_of_ble_eq_true rfl⟩ rfl rfl h_a0 (q := (RMo, TMo, 131)) rfl rfl hl.1 rfl (Nat.le_of_ble_eq_true rfl) rfl hr_12 d_Mo_outcome_37 (fun y_7 s_6 d_8 e_9 H locs q9 ce h hP hD hS hce hcv hcl => ?_) (fun y_7 s_6 d_8 e_9 H locs h hP hD hS => ?_)
            · skip
              obtain ⟨hd, h⟩ := h
              exact hretX h hP hD hS hd.1 hd.2 hce hcv hcl
            have hl := lv_sub (l' := [(0, .ref (ad a0)), (3, .int v3)]) hl [0, 3] rfl
            obtain ⟨hd, h⟩ := h
            refine lv_iload_n G.1 G.2.1 d_Mo_outcome_40 rfl (lv_at hl 1 rfl) ?_
            have J_55 : ∀ (y_j55 : Ly) (s_j55 : St) (d_j55 e_j55 : Nat) (z0j55 : Int32) (H : Heap) (locs : List Loc), wja_Mo_outcome_55 mc ms Post PX a0 y_j55 s_j55 d_j55 e_j55 z0j55 → va_P D CL (ws g ad y_j55 s_j55) H → va_D A (ws g ad y_j55 s_j55) → va_S A s.heap H locs → ∀ ls, lv_has ls 4 [] → W p l e (ra_Mo_outcome mc ms) s m args below meth c H locs d_j55 e_j55 Q (F0 m 55 ls [.int z0j55]) := by
              intro y_j55 s_j55 d_j55 e_j55 z0j55 H locs h hP hD hS ls hl
              unfold wja_Mo_outcome_55 at h
              obtain ⟨hd, h⟩ := h
              exact hret _ (y_j55, s_j55, d_j55, e_j55) _ _ _ _ _ ls h hP hD hS (Nat.le_refl _) (Nat.le_refl _) hd.1 hd.2 d_Mo_outcome_55
            refine lv_if_ne (tgt := 51) G.1 G.2.1 d_Mo_outcome_41 (by decide) (fun c41 => ?_) (fun c41 => ?_)
            · skip
              have h := h.1 c41
              refine lv_aload_n G.1 G.2.1 d_Mo_outcome_51 rfl (lv_at hl 0 rfl) ?_
              refine W.eq (g2 := F0 m 52 ls [.ref (ad a0)]) rfl ?_
              refine ugf (v := .int (sV s_6 a0 125)) G hP h_a0 iMo rfl 125 (by decide) rfl q3189 rfl rfl d_Mo_outcome_52 ?_
              exact J_55 y_7 s_6 (0 + d_8) (0 + e_9) (sV s_6 a0 125) H locs h hP hD hS ls (lv_sub hl [] rfl)
            · skip
              have h := h.2 c41
              refine lv_aload_n G.1 G.2.1 d_Mo_outcome_44 rfl (lv_at hl 0 rfl) ?_
              refine W.eq (g2 := F0 m 45 ls [.ref (ad a0)]) rfl ?_
              refine ugf (v := .int (sV s_6 a0 124)) G hP h_a0 iMo rfl 124 (by decide) rfl q3188 rfl rfl d_Mo_outcome_45 ?_
              refine lv_goto (tgt := 55) G.1 G.2.1 d_Mo_outcome_48 (by decide) ?_
              exact J_55 y_7 s_6 (0 + d_8) (0 + e_9) (sV s_6 a0 124) H locs h hP hD hS ls (lv_sub hl [] rfl)
          · skip
            have h := h.2 c25
            exact J_28 y s_2 0 0 H locs h hP hD hS ls (lv_sub hl [] rfl)
def y_Mo_look : MethodName := ⟨"ClassWorksModel", "look", "(I)V"⟩
abbrev b_Mo_look : ByteArray := prog_14_method_200_code
theorem d_Mo_look_0 : decode b_Mo_look 0 = .ok (.aload_n 0, 1) := by decide +kernel
theorem d_Mo_look_1 : decode b_Mo_look 1 = .ok (.getfield 378, 3) := by decide +kernel
theorem d_Mo_look_4 : decode b_Mo_look 4 = .ok (.iload_n 1, 1) := by decide +kernel
theorem d_Mo_look_5 : decode b_Mo_look 5 = .ok (.baload, 1) := by decide +kernel
theorem d_Mo_look_6 : decode b_Mo_look 6 = .ok (.ifCond .eq 4, 3) := by decide +kernel
theorem d_Mo_look_9 : decode b_Mo_look 9 = .ok (.return_, 1) := by decide +kernel
theorem d_Mo_look_10 : decode b_Mo_look 10 = .ok (.aload_n 0, 1) := by decide +kernel
theorem d_Mo_look_11 : decode b_Mo_look 11 = .ok (.iload_n 1, 1) := by decide +kernel
theorem d_Mo_look_12 : decode b_Mo_look 12 = .ok (.invokevirtual 1332, 3) := by decide +kernel
theorem d_Mo_look_15 : decode b_Mo_look 15 = .ok (.aload_n 0, 1) := by decide +kernel
theorem d_Mo_look_16 : decode b_Mo_look 16 = .ok (.iconst 0, 1) := by decide +kernel
theorem d_Mo_look_17 : decode b_Mo_look 17 = .ok (.invokevirtual 1335, 3) := by decide +kernel
theorem d_Mo_look_20 : decode b_Mo_look 20 = .ok (.aload_n 0, 1) := by decide +kernel
theorem d_Mo_look_21 : decode b_Mo_look 21 = .ok (.getfield 1323, 3) := by decide +kernel
theorem d_Mo_look_24 : decode b_Mo_look 24 = .ok (.istore_n 2, 1) := by decide +kernel
theorem d_Mo_look_25 : decode b_Mo_look 25 = .ok (.aload_n 0, 1) := by decide +kernel
theorem d_Mo_look_26 : decode b_Mo_look 26 = .ok (.getfield 1326, 3) := by decide +kernel
theorem d_Mo_look_29 : decode b_Mo_look 29 = .ok (.istore_n 3, 1) := by decide +kernel
theorem d_Mo_look_30 : decode b_Mo_look 30 = .ok (.aload_n 0, 1) := by decide +kernel
theorem d_Mo_look_31 : decode b_Mo_look 31 = .ok (.getfield 381, 3) := by decide +kernel
theorem d_Mo_look_34 : decode b_Mo_look 34 = .ok (.iload_n 1, 1) := by decide +kernel
theorem d_Mo_look_35 : decode b_Mo_look 35 = .ok (.iload_n 2, 1) := by decide +kernel
theorem d_Mo_look_36 : decode b_Mo_look 36 = .ok (.iconst 1, 1) := by decide +kernel
theorem d_Mo_look_37 : decode b_Mo_look 37 = .ok (.if_icmp .ne 7, 3) := by decide +kernel
theorem d_Mo_look_40 : decode b_Mo_look 40 = .ok (.iload_n 3, 1) := by decide +kernel
theorem d_Mo_look_41 : decode b_Mo_look 41 = .ok (.goto 16, 3) := by decide +kernel
theorem d_Mo_look_44 : decode b_Mo_look 44 = .ok (.iload_n 2, 1) := by decide +kernel
theorem d_Mo_look_45 : decode b_Mo_look 45 = .ok (.iconst 4, 1) := by decide +kernel
theorem d_Mo_look_46 : decode b_Mo_look 46 = .ok (.if_icmp .ne 10, 3) := by decide +kernel
theorem d_Mo_look_49 : decode b_Mo_look 49 = .ok (.iload_n 3, 1) := by decide +kernel
theorem d_Mo_look_50 : decode b_Mo_look 50 = .ok (.bipush 100, 2) := by decide +kernel
theorem d_Mo_look_52 : decode b_Mo_look 52 = .ok (.idiv, 1) := by decide +kernel
theorem d_Mo_look_53 : decode b_Mo_look 53 = .ok (.goto 4, 3) := by decide +kernel
theorem d_Mo_look_56 : decode b_Mo_look 56 = .ok (.iconst 0, 1) := by decide +kernel
theorem d_Mo_look_57 : decode b_Mo_look 57 = .ok (.iastore, 1) := by decide +kernel
theorem d_Mo_look_58 : decode b_Mo_look 58 = .ok (.aload_n 0, 1) := by decide +kernel
theorem d_Mo_look_59 : decode b_Mo_look 59 = .ok (.getfield 384, 3) := by decide +kernel
theorem d_Mo_look_62 : decode b_Mo_look 62 = .ok (.iload_n 1, 1) := by decide +kernel
theorem d_Mo_look_63 : decode b_Mo_look 63 = .ok (.iconst 0, 1) := by decide +kernel
theorem d_Mo_look_64 : decode b_Mo_look 64 = .ok (.iastore, 1) := by decide +kernel
theorem d_Mo_look_65 : decode b_Mo_look 65 = .ok (.iconst 0, 1) := by decide +kernel
theorem d_Mo_look_66 : decode b_Mo_look 66 = .ok (.istore 4, 2) := by decide +kernel
theorem d_Mo_look_68 : decode b_Mo_look 68 = .ok (.iload 4, 2) := by decide +kernel
theorem d_Mo_look_70 : decode b_Mo_look 70 = .ok (.bipush 8, 2) := by decide +kernel
theorem d_Mo_look_72 : decode b_Mo_look 72 = .ok (.if_icmp .ge 50, 3) := by decide +kernel
theorem d_Mo_look_75 : decode b_Mo_look 75 = .ok (.aload_n 0, 1) := by decide +kernel
theorem d_Mo_look_76 : decode b_Mo_look 76 = .ok (.iconst 1, 1) := by decide +kernel
theorem d_Mo_look_77 : decode b_Mo_look 77 = .ok (.iload 4, 2) := by decide +kernel
theorem d_Mo_look_79 : decode b_Mo_look 79 = .ok (.ishl, 1) := by decide +kernel
theorem d_Mo_look_80 : decode b_Mo_look 80 = .ok (.invokevirtual 1335, 3) := by decide +kernel
theorem d_Mo_look_83 : decode b_Mo_look 83 = .ok (.aload_n 0, 1) := by decide +kernel
theorem d_Mo_look_84 : decode b_Mo_look 84 = .ok (.getfield 384, 3) := by decide +kernel
theorem d_Mo_look_87 : decode b_Mo_look 87 = .ok (.iload_n 1, 1) := by decide +kernel
theorem d_Mo_look_88 : decode b_Mo_look 88 = .ok (.dup2, 1) := by decide +kernel
theorem d_Mo_look_89 : decode b_Mo_look 89 = .ok (.iaload, 1) := by decide +kernel
theorem d_Mo_look_90 : decode b_Mo_look 90 = .ok (.aload_n 0, 1) := by decide +kernel
theorem d_Mo_look_91 : decode b_Mo_look 91 = .ok (.getfield 1323, 3) := by decide +kernel
theorem d_Mo_look_94 : decode b_Mo_look 94 = .ok (.iload_n 2, 1) := by decide +kernel
theorem d_Mo_look_95 : decode b_Mo_look 95 = .ok (.if_icmp .ne 11, 3) := by decide +kernel
theorem d_Mo_look_98 : decode b_Mo_look 98 = .ok (.aload_n 0, 1) := by decide +kernel
theorem d_Mo_look_99 : decode b_Mo_look 99 = .ok (.getfield 1326, 3) := by decide +kernel
theorem d_Mo_look_102 : decode b_Mo_look 102 = .ok (.iload_n 3, 1) := by decide +kernel
theorem d_Mo_look_103 : decode b_Mo_look 103 = .ok (.if_icmp .eq 10, 3) := by decide +kernel
theorem d_Mo_look_106 : decode b_Mo_look 106 = .ok (.iconst 1, 1) := by decide +kernel
theorem d_Mo_look_107 : decode b_Mo_look 107 = .ok (.iload 4, 2) := by decide +kernel
theorem d_Mo_look_109 : decode b_Mo_look 109 = .ok (.ishl, 1) := by decide +kernel
theorem d_Mo_look_110 : decode b_Mo_look 110 = .ok (.goto 4, 3) := by decide +kernel
theorem d_Mo_look_113 : decode b_Mo_look 113 = .ok (.iconst 0, 1) := by decide +kernel
theorem d_Mo_look_114 : decode b_Mo_look 114 = .ok (.ior, 1) := by decide +kernel
theorem d_Mo_look_115 : decode b_Mo_look 115 = .ok (.iastore, 1) := by decide +kernel
theorem d_Mo_look_116 : decode b_Mo_look 116 = .ok (.iinc 4 1, 3) := by decide +kernel
theorem d_Mo_look_119 : decode b_Mo_look 119 = .ok (.goto (-51), 3) := by decide +kernel
theorem d_Mo_look_122 : decode b_Mo_look 122 = .ok (.aload_n 0, 1) := by decide +kernel
theorem d_Mo_look_123 : decode b_Mo_look 123 = .ok (.getfield 378, 3) := by decide +kernel
theorem d_Mo_look_126 : decode b_Mo_look 126 = .ok (.iload_n 1, 1) := by decide +kernel
theorem d_Mo_look_127 : decode b_Mo_look 127 = .ok (.iconst 1, 1) := by decide +kernel
theorem d_Mo_look_128 : decode b_Mo_look 128 = .ok (.bastore, 1) := by decide +kernel
theorem d_Mo_look_129 : decode b_Mo_look 129 = .ok (.return_, 1) := by decide +kernel
abbrev ra_Mo_look (mc ms : Nat) : Room := { frames := 476, cells := mc, slots := ms, locals := 11590 }
def wja_Mo_look_114 (mc ms : Nat) (Post : Ly → St → Nat → Nat → Prop) (PX : Ly → St → Nat → Nat → Prop) (K_68 : Ly → St → Nat → Nat → Int32 → Int32 → Int32 → Int32 → Prop) (a0 : Nat) (y_j114 : Ly) (s_j114 : St) (d_j114 e_j114 : Nat) (x1j114 : Int32) (x2j114 : Int32) (x3j114 : Int32) (x4j114 : Int32) (z1j114 : Int32) (z2j114 : Int32) (z3j114 : Int32) : Prop := (d_j114 ≤ mc ∧ e_j114 ≤ ms) ∧ xS y_j114 s_j114 a0 120 z1j114 (z2j114 ||| z3j114) (fun s_24 : St => K_68 y_j114 s_24 d_j114 e_j114 x1j114 x2j114 x3j114 (x4j114 + 1))
def wja_Mo_look_106 (mc ms : Nat) (Post : Ly → St → Nat → Nat → Prop) (PX : Ly → St → Nat → Nat → Prop) (K_68 : Ly → St → Nat → Nat → Int32 → Int32 → Int32 → Int32 → Prop) (a0 : Nat) (y_j106 : Ly) (s_j106 : St) (d_j106 e_j106 : Nat) (x1j106 : Int32) (x2j106 : Int32) (x3j106 : Int32) (x4j106 : Int32) (z1j106 : Int32) (z2j106 : Int32) : Prop := (d_j106 ≤ mc ∧ e_j106 ≤ ms) ∧ wja_Mo_look_114 mc ms Post PX K_68 a0 y_j106 s_j106 d_j106 e_j106 x1j106 x2j106 x3j106 x4j106 z1j106 z2j106 (1 <<< (x4j106 &&& 31))
def wba_Mo_look_68 (mc ms : Nat) (Post : Ly → St → Nat → Nat → Prop) (PX : Ly → St → Nat → Nat → Prop) (K_68 : Ly → St → Nat → Nat → Int32 → Int32 → Int32 → Int32 → Prop) (a0 : Nat) (y_h68 : Ly) (s_h68 : St) (d_h68 e_h68 : Nat) (x1h68 : Int32) (x2h68 : Int32) (x3h68 : Int32) (x4h68 : Int32) : Prop := (d_h68 ≤ mc ∧ e_h68 ≤ ms) ∧ ((8 ≤ x4h68 → xS y_h68 s_h68 a0 118 x1h68 (vp_nar .boolean 1) (fun s_14 : St => Post y_h68 s_14 d_h68 e_h68)) ∧ (¬ (8 ≤ x4h68) → ∃ mc_20 ms_21 : Nat, (d_h68 + mc_20 ≤ mc ∧ e_h68 + ms_21 ≤ ms) ∧ wx_Mo_tryDraft mc_20 ms_21 y_h68 (fun (y_17 : Ly) (s_16 : St) (d_18 e_19 : Nat) => (d_h68 + d_18 ≤ mc ∧ e_h68 + e_19 ≤ ms) ∧ xA y_17 s_16 a0 120 x1h68 (fun x_23 : Int32 => ((¬ (sV s_16 a0 124) = x2h68 → wja_Mo_look_106 mc ms Post PX K_68 a0 y_17 s_16 (d_h68 + d_18) (e_h68 + e_19) x1h68 x2h68 x3h68 x4h68 x1h68 x_23) ∧ ((sV s_16 a0 124) = x2h68 → (((sV s_16 a0 125) = x3h68 → wja_Mo_look_114 mc ms Post PX K_68 a0 y_17 s_16 (d_h68 + d_18) (e_h68 + e_19) x1h68 x2h68 x3h68 x4h68 x1h68 x_23 0) ∧ (¬ ((sV s_16 a0 125) = x3h68) → wja_Mo_look_106 mc ms Post PX K_68 a0 y_17 s_16 (d_h68 + d_18) (e_h68 + e_19) x1h68 x2h68 x3h68 x4h68 x1h68 x_23)))))) (fun (y_17 : Ly) (s_16 : St) (d_18 e_19 : Nat) => ((d_h68 + d_18 ≤ mc ∧ e_h68 + e_19 ≤ ms) ∧ PX y_17 s_16 (d_h68 + d_18) (e_h68 + e_19))) s_h68 a0 (1 <<< (x4h68 &&& 31))))
def wla_Mo_look_68 (mc ms : Nat) (Post : Ly → St → Nat → Nat → Prop) (PX : Ly → St → Nat → Nat → Prop) (a0 : Nat) (y_h68 : Ly) (s_h68 : St) (d_h68 e_h68 : Nat) (x1h68 : Int32) (x2h68 : Int32) (x3h68 : Int32) (x4h68 : Int32) : Prop := ∃ (I : Ly → St → Nat → Nat → Int32 → Int32 → Int32 → Int32 → Prop) (μ : Ly → St → Nat → Nat → Int32 → Int32 → Int32 → Int32 → Nat), I y_h68 s_h68 d_h68 e_h68 x1h68 x2h68 x3h68 x4h68 ∧ ∀ (u1 : Ly) (u2 : St) (u3 u4 : Nat) (t0 : Int32) (t1 : Int32) (t2 : Int32) (t3 : Int32), I u1 u2 u3 u4 t0 t1 t2 t3 → wba_Mo_look_68 mc ms Post PX (fun z1 z2 z3 z4 t0q t1q t2q t3q => I z1 z2 z3 z4 t0q t1q t2q t3q ∧ μ z1 z2 z3 z4 t0q t1q t2q t3q < μ u1 u2 u3 u4 t0 t1 t2 t3) a0 u1 u2 u3 u4 t0 t1 t2 t3
def wja_Mo_look_57 (mc ms : Nat) (Post : Ly → St → Nat → Nat → Prop) (PX : Ly → St → Nat → Nat → Prop) (a0 : Nat) (y_j57 : Ly) (s_j57 : St) (d_j57 e_j57 : Nat) (x1j57 : Int32) (x2j57 : Int32) (x3j57 : Int32) (z1j57 : Int32) (z2j57 : Int32) : Prop := (d_j57 ≤ mc ∧ e_j57 ≤ ms) ∧ xS y_j57 s_j57 a0 119 z1j57 z2j57 (fun s_12 : St => xS y_j57 s_12 a0 120 x1j57 0 (fun s_13 : St => wla_Mo_look_68 mc ms Post PX a0 y_j57 s_13 d_j57 e_j57 x1j57 x2j57 x3j57 0))
def wx_Mo_look (mc ms : Nat) (y : Ly) (Post : Ly → St → Nat → Nat → Prop) (PX : Ly → St → Nat → Nat → Prop) (σ : St) (a0 : Nat) (v1 : Int32) : Prop := xA y σ a0 118 v1 (fun x_1 : Int32 => ((x_1 = 0 → wu_Mo_draftTrial y (fun (s_3 : St) => ∃ mc_9 ms_10 : Nat, (0 + mc_9 ≤ mc ∧ 0 + ms_10 ≤ ms) ∧ wx_Mo_tryDraft mc_9 ms_10 y (fun (y_6 : Ly) (s_5 : St) (d_7 e_8 : Nat) => (0 + d_7 ≤ mc ∧ 0 + e_8 ≤ ms) ∧ ((¬ (sV s_5 a0 124) = 1 → ((¬ (sV s_5 a0 124) = 4 → wja_Mo_look_57 mc ms Post PX a0 y_6 s_5 (0 + d_7) (0 + e_8) v1 (sV s_5 a0 124) (sV s_5 a0 125) v1 0) ∧ ((sV s_5 a0 124) = 4 → wja_Mo_look_57 mc ms Post PX a0 y_6 s_5 (0 + d_7) (0 + e_8) v1 (sV s_5 a0 124) (sV s_5 a0 125) v1 ((sV s_5 a0 125) / 100)))) ∧ ((sV s_5 a0 124) = 1 → wja_Mo_look_57 mc ms Post PX a0 y_6 s_5 (0 + d_7) (0 + e_8) v1 (sV s_5 a0 124) (sV s_5 a0 125) v1 (sV s_5 a0 125)))) (fun (y_6 : Ly) (s_5 : St) (d_7 e_8 : Nat) => ((0 + d_7 ≤ mc ∧ 0 + e_8 ≤ ms) ∧ PX y_6 s_5 (0 + d_7) (0 + e_8))) s_3 a0 0) σ a0 v1) ∧ (¬ (x_1 = 0) → Post y σ 0 0)))
set_option maxHeartbeats 4000000 in
set_option maxRecDepth 100000 in
theorem cx_Mo_look (l : Launch) (D : va_G) (g : Nat → ClassId) (ad : Nat → Nat) (mc ms : Nat) (y : Ly) (Post : Ly → St → Nat → Nat → Prop) (PX : Ly → St → Nat → Nat → Prop) (σ : St) (a0 : Nat) (v1 : Int32) (sz uz : Nat) (h_a0 : cl a0 = 14) (h : wx_Mo_look mc ms y Post PX σ a0 v1) : vx_Met l y_Mo_look (mw y_Mo_look b_Mo_look 5 (none)) (ra_Mo_look mc ms) (PCu g D [] [.ref (ad a0), .int v1] sz uz (ws g ad y σ)) (va_Qv (fun (u : Ly × St × Nat × Nat) => Post u.1 u.2.1 u.2.2.1 u.2.2.2) (QU D (va_A (ws g ad y σ) sz) (fun u => ws g ad u.1 u.2.1) sz uz (fun u => u.2.2.1) (fun u => u.2.2.2)) (va_A (ws g ad y σ) sz)) (XQ D g ad (va_A (ws g ad y σ) sz) sz uz PX) mc ms (va_A (ws g ad y σ) sz) := by
  refine ofVx (by decide +kernel) (Nat.le_of_ble_eq_true rfl) ?_
  intro p e s m args below meth c A Q ls H locs G hsz hP hD hS hl hret hretX
  subst hsz
  have hl : lv_has ls 5 [(0, .ref (ad a0)), (1, .int v1)] := hl
  have hd : 0 ≤ mc ∧ 0 ≤ ms := ⟨Nat.zero_le _, Nat.zero_le _⟩
  unfold wx_Mo_look at h
  refine lv_aload_n G.1 G.2.1 d_Mo_look_0 rfl (lv_at hl 0 rfl) ?_
  refine ugf (v := .ref (yP y a0 118)) G hP h_a0 iMo rfl 118 (by decide) rfl q3182 rfl rfl d_Mo_look_1 ?_
  refine lv_iload_n G.1 G.2.1 d_Mo_look_4 rfl (lv_at hl 1 rfl) ?_
  refine uzald G hP (kdp h_a0 rfl) (typ h_a0 rfl) h d_Mo_look_5 (fun x_1 h => ?_)
  refine lv_if_eq (tgt := 10) G.1 G.2.1 d_Mo_look_6 (by decide) (fun c6 => ?_) (fun c6 => ?_)
  · skip
    have h := h.1 c6
    refine lv_aload_n G.1 G.2.1 d_Mo_look_10 rfl (lv_at hl 0 rfl) ?_
    refine lv_iload_n G.1 G.2.1 d_Mo_look_11 rfl (lv_at hl 1 rfl) ?_
    refine ucVv (As := [.int v1]) (rest := []) G hP hD hS (cu_Mo_draftTrial l D g ad y _ σ a0 v1 H.size h_a0 h) w9_Mo_draftTrial q4228 ⟨Nat.le_of_ble_eq_true rfl, Nat.le_of_ble_eq_true rfl⟩ rfl rfl h_a0 (q := (RMo, TMo, 131)) rfl rfl hl.1 rfl (Nat.le_of_ble_eq_true rfl) rfl hd d_Mo_look_12 (fun s_3 H locs h hP hD hS => ?_)
    refine lv_aload_n G.1 G.2.1 d_Mo_look_15 rfl (lv_at hl 0 rfl) ?_
    refine lv_iconst (v := 0) G.1 G.2.1 d_Mo_look_16 (by decide) ?_
    obtain ⟨mc_9, ms_10, hr_11, h⟩ := h
    refine uxVv (As := [.int 0]) (rest := []) G hP hD hS (cx_Mo_tryDraft l D g ad mc_9 ms_10 y _ _ s_3 a0 0 H.size (us H) h_a0 h) (fun _ h => absurd h List.not_mem_nil) w9_Mo_tryDraft q4232 ⟨Nat.le_of_ble_eq_true rfl, Nat.le_of_ble_eq_true rfl⟩ rfl rfl h_a0 (q := (RMo, TMo, 131)) rfl rfl hl.1 rfl (Nat.le_of_ble_eq_true rfl) rfl hr_11 d_Mo_look_17 (fun y_6 s_5 d_7 e_8 H locs q9 ce h hP hD hS hce hcv hcl => ?_) (fun y_6 s_5 d_7 e_8 H locs h hP hD hS => ?_)
    · skip
      obtain ⟨hd, h⟩ := h
      exact hretX h hP hD hS hd.1 hd.2 hce hcv hcl
    obtain ⟨hd, h⟩ := h
    refine W.eq (g2 := F0 m 20 ls []) rfl ?_
    refine lv_aload_n G.1 G.2.1 d_Mo_look_20 rfl (lv_at hl 0 rfl) ?_
    refine ugf (v := .int (sV s_5 a0 124)) G hP h_a0 iMo rfl 124 (by decide) rfl q3188 rfl rfl d_Mo_look_21 ?_
    refine lv_istore_n (lv' := [(2, .int (sV s_5 a0 124)), (0, .ref (ad a0)), (1, .int v1)]) G.1 G.2.1 d_Mo_look_24 rfl hl (by decide) rfl (fun ls hl => ?_)
    refine lv_aload_n G.1 G.2.1 d_Mo_look_25 rfl (lv_at hl 1 rfl) ?_
    refine ugf (v := .int (sV s_5 a0 125)) G hP h_a0 iMo rfl 125 (by decide) rfl q3189 rfl rfl d_Mo_look_26 ?_
    refine lv_istore_n (lv' := [(3, .int (sV s_5 a0 125)), (2, .int (sV s_5 a0 124)), (0, .ref (ad a0)), (1, .int v1)]) G.1 G.2.1 d_Mo_look_29 rfl hl (by decide) rfl (fun ls hl => ?_)
    refine lv_aload_n G.1 G.2.1 d_Mo_look_30 rfl (lv_at hl 2 rfl) ?_
    refine ugf (v := .ref (yP y_6 a0 119)) G hP h_a0 iMo rfl 119 (by decide) rfl q3183 rfl rfl d_Mo_look_31 ?_
    refine lv_iload_n G.1 G.2.1 d_Mo_look_34 rfl (lv_at hl 3 rfl) ?_
    refine lv_iload_n G.1 G.2.1 d_Mo_look_35 rfl (lv_at hl 1 rfl) ?_
    refine lv_iconst (v := 1) G.1 G.2.1 d_Mo_look_36 (by decide) ?_
    have J_57 : ∀ (y_j57 : Ly) (s_j57 : St) (d_j57 e_j57 : Nat) (x1j57 : Int32) (x2j57 : Int32) (x3j57 : Int32) (z1j57 : Int32) (z2j57 : Int32) (H : Heap) (locs : List Loc), wja_Mo_look_57 mc ms Post PX a0 y_j57 s_j57 d_j57 e_j57 x1j57 x2j57 x3j57 z1j57 z2j57 → va_P D CL (ws g ad y_j57 s_j57) H → va_D A (ws g ad y_j57 s_j57) → va_S A s.heap H locs → ∀ ls, lv_has ls 5 [(0, .ref (ad a0)), (1, .int x1j57), (2, .int x2j57), (3, .int x3j57)] → W p l e (ra_Mo_look mc ms) s m args below meth c H locs d_j57 e_j57 Q (F0 m 57 ls [.int z2j57, .int z1j57, .ref (yP y_j57 a0 119)]) := by
      intro y_j57 s_j57 d_j57 e_j57 x1j57 x2j57 x3j57 z1j57 z2j57 H locs h hP hD hS ls hl
      unfold wja_Mo_look_57 at h
      obtain ⟨hd, h⟩ := h
      refine uiast G hP hD hS (kdp h_a0 rfl) (typ h_a0 rfl) h d_Mo_look_57 (fun s_12 H locs h hP hD hS => ?_)
      refine lv_aload_n G.1 G.2.1 d_Mo_look_58 rfl (lv_at hl 0 rfl) ?_
      refine ugf (v := .ref (yP y_j57 a0 120)) G hP h_a0 iMo rfl 120 (by decide) rfl q3184 rfl rfl d_Mo_look_59 ?_
      refine lv_iload_n G.1 G.2.1 d_Mo_look_62 rfl (lv_at hl 1 rfl) ?_
      refine lv_iconst (v := 0) G.1 G.2.1 d_Mo_look_63 (by decide) ?_
      refine uiast G hP hD hS (kdp h_a0 rfl) (typ h_a0 rfl) h d_Mo_look_64 (fun s_13 H locs h hP hD hS => ?_)
      refine lv_iconst (v := 0) G.1 G.2.1 d_Mo_look_65 (by decide) ?_
      refine lv_istore (lv' := [(4, .int 0), (0, .ref (ad a0)), (1, .int x1j57), (2, .int x2j57), (3, .int x3j57)]) G.1 G.2.1 d_Mo_look_66 hl (by decide) rfl (fun ls hl => ?_)
      unfold wla_Mo_look_68 at h
      obtain ⟨I_68, μ_68, hI_68, hB_68⟩ := h
      have L_68 : ∀ (n_68 : Nat) (y_h68 : Ly) (s_h68 : St) (d_h68 e_h68 : Nat) (x1h68 : Int32) (x2h68 : Int32) (x3h68 : Int32) (x4h68 : Int32), μ_68 y_h68 s_h68 d_h68 e_h68 x1h68 x2h68 x3h68 x4h68 < n_68 → I_68 y_h68 s_h68 d_h68 e_h68 x1h68 x2h68 x3h68 x4h68 → ∀ (H : Heap) (locs : List Loc), va_P D CL (ws g ad y_h68 s_h68) H → va_D A (ws g ad y_h68 s_h68) → va_S A s.heap H locs → ∀ ls, lv_has ls 5 [(0, .ref (ad a0)), (1, .int x1h68), (2, .int x2h68), (3, .int x3h68), (4, .int x4h68)] → W p l e (ra_Mo_look mc ms) s m args below meth c H locs d_h68 e_h68 Q (F0 m 68 ls []) := by
        intro n_68
        induction n_68 with
        | zero => intro y_h68 s_h68 d_h68 e_h68 x1h68 x2h68 x3h68 x4h68 hμ; exact absurd hμ (Nat.not_lt_zero _)
        | succ n_68 ih_68 =>
          intro y_h68 s_h68 d_h68 e_h68 x1h68 x2h68 x3h68 x4h68 hμ_68 hJ H locs hP hD hS ls hl
          obtain ⟨K_68, hK_68, h⟩ : ∃ K : Ly → St → Nat → Nat → Int32 → Int32 → Int32 → Int32 → Prop, (∀ z1 z2 z3 z4 (t0 : Int32) (t1 : Int32) (t2 : Int32) (t3 : Int32), K z1 z2 z3 z4 t0 t1 t2 t3 → I_68 z1 z2 z3 z4 t0 t1 t2 t3 ∧ μ_68 z1 z2 z3 z4 t0 t1 t2 t3 < μ_68 y_h68 s_h68 d_h68 e_h68 x1h68 x2h68 x3h68 x4h68) ∧ wba_Mo_look_68 mc ms Post PX K a0 y_h68 s_h68 d_h68 e_h68 x1h68 x2h68 x3h68 x4h68 := ⟨_, fun _ _ _ _ _ _ _ _ h => h, hB_68 y_h68 s_h68 d_h68 e_h68 x1h68 x2h68 x3h68 x4h68 hJ⟩
          unfold wba_Mo_look_68 at h
          obtain ⟨hd, h⟩ := h
          refine lv_iload G.1 G.2.1 d_Mo_look_68 (lv_at hl 4 rfl) ?_
          refine lv_bipush (v := 8) G.1 G.2.1 d_Mo_look_70 (by decide) ?_
          refine lv_icmp_ge (tgt := 122) G.1 G.2.1 d_Mo_look_72 (by decide) (fun c72 => ?_) (fun c72 => ?_)
          · skip
            have h := h.1 c72
            refine lv_aload_n G.1 G.2.1 d_Mo_look_122 rfl (lv_at hl 0 rfl) ?_
            refine ugf (v := .ref (yP y_h68 a0 118)) G hP h_a0 iMo rfl 118 (by decide) rfl q3182 rfl rfl d_Mo_look_123 ?_
            refine lv_iload_n G.1 G.2.1 d_Mo_look_126 rfl (lv_at hl 1 rfl) ?_
            refine lv_iconst (v := 1) G.1 G.2.1 d_Mo_look_127 (by decide) ?_
            refine uzast G hP hD hS (kdp h_a0 rfl) (typ h_a0 rfl) h d_Mo_look_128 (fun s_14 H locs h hP hD hS => ?_)
            exact hret (y_h68, s_14, d_h68, e_h68) _ _ _ _ _ ls h hP hD hS (Nat.le_refl _) (Nat.le_refl _) hd.1 hd.2 d_Mo_look_129
          · skip
            have h := h.2 c72
            refine lv_aload_n G.1 G.2.1 d_Mo_look_75 rfl (lv_at hl 0 rfl) ?_
            refine lv_iconst (v := 1) G.1 G.2.1 d_Mo_look_76 (by decide) ?_
            refine lv_iload G.1 G.2.1 d_Mo_look_77 (lv_at hl 4 rfl) ?_
            refine lv_ishl G.1 G.2.1 d_Mo_look_79 ?_
            obtain ⟨mc_20, ms_21, hr_22, h⟩ := h
            refine uxVv (As := [.int (1 <<< (x4h68 &&& 31))]) (rest := []) G hP hD hS (cx_Mo_tryDraft l D g ad mc_20 ms_21 y_h68 _ _ s_h68 a0 (1 <<< (x4h68 &&& 31)) H.size (us H) h_a0 h) (fun _ h => absurd h List.not_mem_nil) w9_Mo_tryDraft q4232 ⟨Nat.le_of_ble_eq_true rfl, Nat.le_of_ble_eq_true rfl⟩ rfl rfl h_a0 (q := (RMo, TMo, 131)) rfl rfl hl.1 rfl (Nat.le_of_ble_eq_true rfl) rfl hr_22 d_Mo_look_80 (fun y_17 s_16 d_18 e_19 H locs q9 ce h hP hD hS hce hcv hcl => ?_) (fun y_17 s_16 d_18 e_19 H locs h hP hD hS => ?_)
            · skip
              obtain ⟨hd, h⟩ := h
              exact hretX h hP hD hS hd.1 hd.2 hce hcv hcl
            obtain ⟨hd, h⟩ := h
            refine lv_aload_n G.1 G.2.1 d_Mo_look_83 rfl (lv_at hl 0 rfl) ?_
            refine ugf (v := .ref (yP y_17 a0 120)) G hP h_a0 iMo rfl 120 (by decide) rfl q3184 rfl rfl d_Mo_look_84 ?_
            refine lv_iload_n G.1 G.2.1 d_Mo_look_87 rfl (lv_at hl 1 rfl) ?_
            refine W.eq (g2 := F0 m 88 ls [.int x1h68, .ref (yP y_17 a0 120)]) rfl ?_
            refine lv_dup2_11 G.1 G.2.1 d_Mo_look_88 rfl rfl ?_
            refine uiald G hP (kdp h_a0 rfl) (typ h_a0 rfl) h d_Mo_look_89 (fun x_23 h => ?_)
            refine lv_aload_n G.1 G.2.1 d_Mo_look_90 rfl (lv_at hl 0 rfl) ?_
            refine ugf (v := .int (sV s_16 a0 124)) G hP h_a0 iMo rfl 124 (by decide) rfl q3188 rfl rfl d_Mo_look_91 ?_
            refine lv_iload_n G.1 G.2.1 d_Mo_look_94 rfl (lv_at hl 2 rfl) ?_
            have J_114 : ∀ (y_j114 : Ly) (s_j114 : St) (d_j114 e_j114 : Nat) (x1j114 : Int32) (x2j114 : Int32) (x3j114 : Int32) (x4j114 : Int32) (z1j114 : Int32) (z2j114 : Int32) (z3j114 : Int32) (H : Heap) (locs : List Loc), wja_Mo_look_114 mc ms Post PX K_68 a0 y_j114 s_j114 d_j114 e_j114 x1j114 x2j114 x3j114 x4j114 z1j114 z2j114 z3j114 → va_P D CL (ws g ad y_j114 s_j114) H → va_D A (ws g ad y_j114 s_j114) → va_S A s.heap H locs → ∀ ls, lv_has ls 5 [(0, .ref (ad a0)), (1, .int x1j114), (2, .int x2j114), (3, .int x3j114), (4, .int x4j114)] → W p l e (ra_Mo_look mc ms) s m args below meth c H locs d_j114 e_j114 Q (F0 m 114 ls [.int z3j114, .int z2j114, .int z1j114, .ref (yP y_j114 a0 120)]) := by
              intro y_j114 s_j114 d_j114 e_j114 x1j114 x2j114 x3j114 x4j114 z1j114 z2j114 z3j114 H locs h hP hD hS ls hl
              unfold wja_Mo_look_114 at h
              obtain ⟨hd, h⟩ := h
              refine lv_ior G.1 G.2.1 d_Mo_look_114 ?_
              refine uiast G hP hD hS (kdp h_a0 rfl) (typ h_a0 rfl) h d_Mo_look_115 (fun s_24 H locs h hP hD hS => ?_)
              refine lv_iinc (v := x4j114 + 1) (lv' := [(4, .int (x4j114 + 1)), (0, .ref (ad a0)), (1, .int x1j114), (2, .int x2j114), (3, .int x3j114)]) G.1 G.2.1 d_Mo_look_116 hl (k := 4) rfl rfl (by decide) rfl (fun ls hl => ?_)
              refine lv_goto (tgt := 68) G.1 G.2.1 d_Mo_look_119 (by decide) ?_
              have h := hK_68 y_j114 s_24 d_j114 e_j114 x1j114 x2j114 x3j114 (x4j114 + 1) h
              exact ih_68 y_j114 s_24 d_j114 e_j114 x1j114 x2j114 x3j114 (x4j114 + 1) (Nat.lt_of_lt_of_le h.2 (Nat.le_of_lt_succ hμ_68)) h.1 H locs hP hD hS ls (lv_sub hl [1, 2, 3, 4, 0] rfl)
            have J_106 : ∀ (y_j106 : Ly) (s_j106 : St) (d_j106 e_j106 : Nat) (x1j106 : Int32) (x2j106 : Int32) (x3j106 : Int32) (x4j106 : Int32) (z1j106 : Int32) (z2j106 : Int32) (H : Heap) (locs : List Loc), wja_Mo_look_106 mc ms Post PX K_68 a0 y_j106 s_j106 d_j106 e_j106 x1j106 x2j106 x3j106 x4j106 z1j106 z2j106 → va_P D CL (ws g ad y_j106 s_j106) H → va_D A (ws g ad y_j106 s_j106) → va_S A s.heap H locs → ∀ ls, lv_has ls 5 [(0, .ref (ad a0)), (1, .int x1j106), (2, .int x2j106), (3, .int x3j106), (4, .int x4j106)] → W p l e (ra_Mo_look mc ms) s m args below meth c H locs d_j106 e_j106 Q (F0 m 106 ls [.int z2j106, .int z1j106, .ref (yP y_j106 a0 120)]) := by
              intro y_j106 s_j106 d_j106 e_j106 x1j106 x2j106 x3j106 x4j106 z1j106 z2j106 H locs h hP hD hS ls hl
              unfold wja_Mo_look_106 at h
              obtain ⟨hd, h⟩ := h
              refine lv_iconst (v := 1) G.1 G.2.1 d_Mo_look_106 (by decide) ?_
              refine lv_iload G.1 G.2.1 d_Mo_look_107 (lv_at hl 4 rfl) ?_
              refine lv_ishl G.1 G.2.1 d_Mo_look_109 ?_
              refine lv_goto (tgt := 114) G.1 G.2.1 d_Mo_look_110 (by decide) ?_
              exact J_114 y_j106 s_j106 d_j106 e_j106 x1j106 x2j106 x3j106 x4j106 z1j106 z2j106 (1 <<< (x4j106 &&& 31)) H locs h hP hD hS ls (lv_sub hl [0, 1, 2, 3, 4] rfl)
            refine lv_icmp_ne (tgt := 106) G.1 G.2.1 d_Mo_look_95 (by decide) (fun c95 => ?_) (fun c95 => ?_)
            · skip
              have h := h.1 c95
              exact J_106 y_17 s_16 (d_h68 + d_18) (e_h68 + e_19) x1h68 x2h68 x3h68 x4h68 x1h68 x_23 H locs h hP hD hS ls (lv_sub hl [0, 1, 2, 3, 4] rfl)
            · skip
              have h := h.2 c95
              refine lv_aload_n G.1 G.2.1 d_Mo_look_98 rfl (lv_at hl 0 rfl) ?_
              refine ugf (v := .int (sV s_16 a0 125)) G hP h_a0 iMo rfl 125 (by decide) rfl q3189 rfl rfl d_Mo_look_99 ?_
              refine lv_iload_n G.1 G.2.1 d_Mo_look_102 rfl (lv_at hl 3 rfl) ?_
              refine lv_icmp_eq (tgt := 113) G.1 G.2.1 d_Mo_look_103 (by decide) (fun c103 => ?_) (fun c103 => ?_)
              · skip
                have h := h.1 c103
                refine lv_iconst (v := 0) G.1 G.2.1 d_Mo_look_113 (by decide) ?_
                exact J_114 y_17 s_16 (d_h68 + d_18) (e_h68 + e_19) x1h68 x2h68 x3h68 x4h68 x1h68 x_23 0 H locs h hP hD hS ls (lv_sub hl [0, 1, 2, 3, 4] rfl)
              · skip
                have h := h.2 c103
                exact J_106 y_17 s_16 (d_h68 + d_18) (e_h68 + e_19) x1h68 x2h68 x3h68 x4h68 x1h68 x_23 H locs h hP hD hS ls (lv_sub hl [0, 1, 2, 3, 4] rfl)
      exact L_68 _ y_j57 s_13 d_j57 e_j57 x1j57 x2j57 x3j57 0 (Nat.lt_succ_self _) hI_68 H locs hP hD hS ls (lv_sub hl [1, 2, 3, 4, 0] rfl)
    refine lv_icmp_ne (tgt := 44) G.1 G.2.1 d_Mo_look_37 (by decide) (fun c37 => ?_) (fun c37 => ?_)
    · skip
      have h := h.1 c37
      refine W.eq (g2 := F0 m 44 ls [.int v1, .ref (yP y_6 a0 119)]) rfl ?_
      refine lv_iload_n G.1 G.2.1 d_Mo_look_44 rfl (lv_at hl 1 rfl) ?_
      refine lv_iconst (v := 4) G.1 G.2.1 d_Mo_look_45 (by decide) ?_
      refine lv_icmp_ne (tgt := 56) G.1 G.2.1 d_Mo_look_46 (by decide) (fun c46 => ?_) (fun c46 => ?_)
      · skip
        have h := h.1 c46
        refine lv_iconst (v := 0) G.1 G.2.1 d_Mo_look_56 (by decide) ?_
        exact J_57 y_6 s_5 (0 + d_7) (0 + e_8) v1 (sV s_5 a0 124) (sV s_5 a0 125) v1 0 H locs h hP hD hS ls (lv_sub hl [2, 3, 1, 0] rfl)
      · skip
        have h := h.2 c46
        refine lv_iload_n G.1 G.2.1 d_Mo_look_49 rfl (lv_at hl 0 rfl) ?_
        refine lv_bipush (v := 100) G.1 G.2.1 d_Mo_look_50 (by decide) ?_
        refine lv_idiv G.1 G.2.1 d_Mo_look_52 (by decide) ?_
        refine lv_goto (tgt := 57) G.1 G.2.1 d_Mo_look_53 (by decide) ?_
        exact J_57 y_6 s_5 (0 + d_7) (0 + e_8) v1 (sV s_5 a0 124) (sV s_5 a0 125) v1 ((sV s_5 a0 125) / 100) H locs h hP hD hS ls (lv_sub hl [2, 3, 1, 0] rfl)
    · skip
      have h := h.2 c37
      refine W.eq (g2 := F0 m 40 ls [.int v1, .ref (yP y_6 a0 119)]) rfl ?_
      refine lv_iload_n G.1 G.2.1 d_Mo_look_40 rfl (lv_at hl 0 rfl) ?_
      refine lv_goto (tgt := 57) G.1 G.2.1 d_Mo_look_41 (by decide) ?_
      exact J_57 y_6 s_5 (0 + d_7) (0 + e_8) v1 (sV s_5 a0 124) (sV s_5 a0 125) v1 (sV s_5 a0 125) H locs h hP hD hS ls (lv_sub hl [2, 3, 1, 0] rfl)
  · skip
    have h := h.2 c6
    exact hret (y, σ, 0, 0) _ _ _ _ _ ls h hP hD hS (Nat.le_refl _) (Nat.le_refl _) hd.1 hd.2 d_Mo_look_9
theorem q4240 : Cond.methodLink "ClassWorksModel" 1338 y_Mo_look ∈ lw_ok := lw_okmem (List.mem_of_getElem? (i := 4240) (by decide +kernel)) rfl
theorem q4243 : Cond.code y_Mo_look b_Mo_look 5 (none) ∈ lw_ok := lw_okmem (List.mem_of_getElem? (i := 4243) (by decide +kernel)) rfl
theorem q4242 : Cond.instanceMethod y_Mo_look ∈ lw_ok := lw_okmem (List.mem_of_getElem? (i := 4242) (by decide +kernel)) rfl
theorem q323 : Cond.selects y_Mo_look.cls y_Mo_look y_Mo_look ∈ lw_ok := lw_okmem (List.mem_of_getElem? (i := 323) (by decide +kernel)) rfl
theorem w9_Mo_look : CWv y_Mo_look b_Mo_look 5 (none) 1 ∧ Cond.instanceMethod y_Mo_look ∈ lw_ok ∧ Cond.selects y_Mo_look.cls y_Mo_look y_Mo_look ∈ lw_ok := ⟨⟨q4243, q348, by decide +kernel, by decide +kernel, by decide +kernel⟩, q4242, q323⟩
def y_Mo_meets : MethodName := ⟨"ClassWorksModel", "meets", "(I)I"⟩
abbrev b_Mo_meets : ByteArray := prog_14_method_201_code
theorem d_Mo_meets_0 : decode b_Mo_meets 0 = .ok (.aload_n 0, 1) := by decide +kernel
theorem d_Mo_meets_1 : decode b_Mo_meets 1 = .ok (.iload_n 1, 1) := by decide +kernel
theorem d_Mo_meets_2 : decode b_Mo_meets 2 = .ok (.invokevirtual 1329, 3) := by decide +kernel
theorem d_Mo_meets_5 : decode b_Mo_meets 5 = .ok (.ifCond .ne 5, 3) := by decide +kernel
theorem d_Mo_meets_8 : decode b_Mo_meets 8 = .ok (.iconst (-1), 1) := by decide +kernel
theorem d_Mo_meets_9 : decode b_Mo_meets 9 = .ok (.ireturn, 1) := by decide +kernel
theorem d_Mo_meets_10 : decode b_Mo_meets 10 = .ok (.aload_n 0, 1) := by decide +kernel
theorem d_Mo_meets_11 : decode b_Mo_meets 11 = .ok (.iload_n 1, 1) := by decide +kernel
theorem d_Mo_meets_12 : decode b_Mo_meets 12 = .ok (.invokevirtual 1338, 3) := by decide +kernel
theorem d_Mo_meets_15 : decode b_Mo_meets 15 = .ok (.aload_n 0, 1) := by decide +kernel
theorem d_Mo_meets_16 : decode b_Mo_meets 16 = .ok (.getfield 381, 3) := by decide +kernel
theorem d_Mo_meets_19 : decode b_Mo_meets 19 = .ok (.iload_n 1, 1) := by decide +kernel
theorem d_Mo_meets_20 : decode b_Mo_meets 20 = .ok (.iaload, 1) := by decide +kernel
theorem d_Mo_meets_21 : decode b_Mo_meets 21 = .ok (.ireturn, 1) := by decide +kernel
abbrev ra_Mo_meets (mc ms : Nat) : Room := { frames := 477, cells := mc, slots := ms, locals := 11614 }
def wx_Mo_meets (mc ms : Nat) (y : Ly) (Post : Ly → St → Int32 → Nat → Nat → Prop) (PX : Ly → St → Nat → Nat → Prop) (σ : St) (a0 : Nat) (v1 : Int32) : Prop := wu_Mo_isTrial y (fun (s_2 : St) (r_1 : Int32) => ((¬ r_1 = 0 → ∃ mc_8 ms_9 : Nat, (0 + mc_8 ≤ mc ∧ 0 + ms_9 ≤ ms) ∧ wx_Mo_look mc_8 ms_9 y (fun (y_5 : Ly) (s_4 : St) (d_6 e_7 : Nat) => (0 + d_6 ≤ mc ∧ 0 + e_7 ≤ ms) ∧ xA y_5 s_4 a0 119 v1 (fun x_11 : Int32 => Post y_5 s_4 x_11 (0 + d_6) (0 + e_7))) (fun (y_5 : Ly) (s_4 : St) (d_6 e_7 : Nat) => ((0 + d_6 ≤ mc ∧ 0 + e_7 ≤ ms) ∧ PX y_5 s_4 (0 + d_6) (0 + e_7))) s_2 a0 v1) ∧ (r_1 = 0 → Post y s_2 (-1) 0 0))) σ a0 v1
set_option maxHeartbeats 4000000 in
set_option maxRecDepth 100000 in
theorem cx_Mo_meets (l : Launch) (D : va_G) (g : Nat → ClassId) (ad : Nat → Nat) (mc ms : Nat) (y : Ly) (Post : Ly → St → Int32 → Nat → Nat → Prop) (PX : Ly → St → Nat → Nat → Prop) (σ : St) (a0 : Nat) (v1 : Int32) (sz uz : Nat) (h_a0 : cl a0 = 14) (h : wx_Mo_meets mc ms y Post PX σ a0 v1) : vx_Met l y_Mo_meets (mw y_Mo_meets b_Mo_meets 2 (some .int)) (ra_Mo_meets mc ms) (PCu g D [] [.ref (ad a0), .int v1] sz uz (ws g ad y σ)) (va_Qi (fun (r : Int32) (u : Ly × St × Nat × Nat) => Post u.1 u.2.1 r u.2.2.1 u.2.2.2) (QU D (va_A (ws g ad y σ) sz) (fun u => ws g ad u.1 u.2.1) sz uz (fun u => u.2.2.1) (fun u => u.2.2.2)) (va_A (ws g ad y σ) sz)) (XQ D g ad (va_A (ws g ad y σ) sz) sz uz PX) mc ms (va_A (ws g ad y σ) sz) := by
  refine ofIx (by decide +kernel) (Nat.le_of_ble_eq_true rfl) ?_
  intro p e s m args below meth c A Q ls H locs G hsz hP hD hS hl hret hretX
  subst hsz
  have hl : lv_has ls 2 [(0, .ref (ad a0)), (1, .int v1)] := hl
  have hd : 0 ≤ mc ∧ 0 ≤ ms := ⟨Nat.zero_le _, Nat.zero_le _⟩
  unfold wx_Mo_meets at h
  refine lv_aload_n G.1 G.2.1 d_Mo_meets_0 rfl (lv_at hl 0 rfl) ?_
  refine lv_iload_n G.1 G.2.1 d_Mo_meets_1 rfl (lv_at hl 1 rfl) ?_
  refine ucVi (As := [.int v1]) (rest := []) G hP hD hS (cu_Mo_isTrial l D g ad y _ σ a0 v1 H.size h_a0 h) w9_Mo_isTrial q4224 ⟨Nat.le_of_ble_eq_true rfl, Nat.le_of_ble_eq_true rfl⟩ rfl rfl h_a0 (q := (RMo, TMo, 131)) rfl rfl hl.1 rfl (Nat.le_of_ble_eq_true rfl) rfl hd d_Mo_meets_2 (fun r_1 s_2 H locs h hP hD hS => ?_)
  refine lv_if_ne (tgt := 10) G.1 G.2.1 d_Mo_meets_5 (by decide) (fun c5 => ?_) (fun c5 => ?_)
  · skip
    have h := h.1 c5
    refine lv_aload_n G.1 G.2.1 d_Mo_meets_10 rfl (lv_at hl 0 rfl) ?_
    refine lv_iload_n G.1 G.2.1 d_Mo_meets_11 rfl (lv_at hl 1 rfl) ?_
    obtain ⟨mc_8, ms_9, hr_10, h⟩ := h
    refine uxVv (As := [.int v1]) (rest := []) G hP hD hS (cx_Mo_look l D g ad mc_8 ms_9 y _ _ s_2 a0 v1 H.size (us H) h_a0 h) (fun _ h => absurd h List.not_mem_nil) w9_Mo_look q4240 ⟨Nat.le_of_ble_eq_true rfl, Nat.le_of_ble_eq_true rfl⟩ rfl rfl h_a0 (q := (RMo, TMo, 131)) rfl rfl hl.1 rfl (Nat.le_of_ble_eq_true rfl) rfl hr_10 d_Mo_meets_12 (fun y_5 s_4 d_6 e_7 H locs q9 ce h hP hD hS hce hcv hcl => ?_) (fun y_5 s_4 d_6 e_7 H locs h hP hD hS => ?_)
    · skip
      obtain ⟨hd, h⟩ := h
      exact hretX h hP hD hS hd.1 hd.2 hce hcv hcl
    obtain ⟨hd, h⟩ := h
    refine lv_aload_n G.1 G.2.1 d_Mo_meets_15 rfl (lv_at hl 0 rfl) ?_
    refine ugf (v := .ref (yP y_5 a0 119)) G hP h_a0 iMo rfl 119 (by decide) rfl q3183 rfl rfl d_Mo_meets_16 ?_
    refine lv_iload_n G.1 G.2.1 d_Mo_meets_19 rfl (lv_at hl 1 rfl) ?_
    refine uiald G hP (kdp h_a0 rfl) (typ h_a0 rfl) h d_Mo_meets_20 (fun x_11 h => ?_)
    refine W.eq (g2 := F0 m 21 ls [.int x_11]) rfl ?_
    exact hret _ (y_5, s_4, 0 + d_6, 0 + e_7) _ _ _ _ _ ls h hP hD hS (Nat.le_refl _) (Nat.le_refl _) hd.1 hd.2 d_Mo_meets_21
  · skip
    have h := h.2 c5
    refine lv_iconst (v := (-1)) G.1 G.2.1 d_Mo_meets_8 (by decide) ?_
    exact hret _ (y, s_2, 0, 0) _ _ _ _ _ ls h hP hD hS (Nat.le_refl _) (Nat.le_refl _) hd.1 hd.2 d_Mo_meets_9
def y_Mo_finds : MethodName := ⟨"ClassWorksModel", "finds", "(II)I"⟩
abbrev b_Mo_finds : ByteArray := prog_14_method_202_code
theorem d_Mo_finds_0 : decode b_Mo_finds 0 = .ok (.aload_n 0, 1) := by decide +kernel
theorem d_Mo_finds_1 : decode b_Mo_finds 1 = .ok (.iload_n 1, 1) := by decide +kernel
theorem d_Mo_finds_2 : decode b_Mo_finds 2 = .ok (.invokevirtual 1329, 3) := by decide +kernel
theorem d_Mo_finds_5 : decode b_Mo_finds 5 = .ok (.ifCond .eq 14, 3) := by decide +kernel
theorem d_Mo_finds_8 : decode b_Mo_finds 8 = .ok (.iload_n 2, 1) := by decide +kernel
theorem d_Mo_finds_9 : decode b_Mo_finds 9 = .ok (.ifCond .lt 10, 3) := by decide +kernel
theorem d_Mo_finds_12 : decode b_Mo_finds 12 = .ok (.iload_n 2, 1) := by decide +kernel
theorem d_Mo_finds_13 : decode b_Mo_finds 13 = .ok (.sipush 255, 3) := by decide +kernel
theorem d_Mo_finds_16 : decode b_Mo_finds 16 = .ok (.if_icmp .le 5, 3) := by decide +kernel
theorem d_Mo_finds_19 : decode b_Mo_finds 19 = .ok (.iconst (-1), 1) := by decide +kernel
theorem d_Mo_finds_20 : decode b_Mo_finds 20 = .ok (.ireturn, 1) := by decide +kernel
theorem d_Mo_finds_21 : decode b_Mo_finds 21 = .ok (.aload_n 0, 1) := by decide +kernel
theorem d_Mo_finds_22 : decode b_Mo_finds 22 = .ok (.iload_n 1, 1) := by decide +kernel
theorem d_Mo_finds_23 : decode b_Mo_finds 23 = .ok (.invokevirtual 1332, 3) := by decide +kernel
theorem d_Mo_finds_26 : decode b_Mo_finds 26 = .ok (.aload_n 0, 1) := by decide +kernel
theorem d_Mo_finds_27 : decode b_Mo_finds 27 = .ok (.iconst 0, 1) := by decide +kernel
theorem d_Mo_finds_28 : decode b_Mo_finds 28 = .ok (.invokevirtual 1335, 3) := by decide +kernel
theorem d_Mo_finds_31 : decode b_Mo_finds 31 = .ok (.aload_n 0, 1) := by decide +kernel
theorem d_Mo_finds_32 : decode b_Mo_finds 32 = .ok (.getfield 1323, 3) := by decide +kernel
theorem d_Mo_finds_35 : decode b_Mo_finds 35 = .ok (.istore_n 3, 1) := by decide +kernel
theorem d_Mo_finds_36 : decode b_Mo_finds 36 = .ok (.aload_n 0, 1) := by decide +kernel
theorem d_Mo_finds_37 : decode b_Mo_finds 37 = .ok (.getfield 1326, 3) := by decide +kernel
theorem d_Mo_finds_40 : decode b_Mo_finds 40 = .ok (.istore 4, 2) := by decide +kernel
theorem d_Mo_finds_42 : decode b_Mo_finds 42 = .ok (.aload_n 0, 1) := by decide +kernel
theorem d_Mo_finds_43 : decode b_Mo_finds 43 = .ok (.iload_n 2, 1) := by decide +kernel
theorem d_Mo_finds_44 : decode b_Mo_finds 44 = .ok (.invokevirtual 1335, 3) := by decide +kernel
theorem d_Mo_finds_47 : decode b_Mo_finds 47 = .ok (.aload_n 0, 1) := by decide +kernel
theorem d_Mo_finds_48 : decode b_Mo_finds 48 = .ok (.getfield 1323, 3) := by decide +kernel
theorem d_Mo_finds_51 : decode b_Mo_finds 51 = .ok (.iload_n 3, 1) := by decide +kernel
theorem d_Mo_finds_52 : decode b_Mo_finds 52 = .ok (.if_icmp .ne 12, 3) := by decide +kernel
theorem d_Mo_finds_55 : decode b_Mo_finds 55 = .ok (.aload_n 0, 1) := by decide +kernel
theorem d_Mo_finds_56 : decode b_Mo_finds 56 = .ok (.getfield 1326, 3) := by decide +kernel
theorem d_Mo_finds_59 : decode b_Mo_finds 59 = .ok (.iload 4, 2) := by decide +kernel
theorem d_Mo_finds_61 : decode b_Mo_finds 61 = .ok (.if_icmp .eq 7, 3) := by decide +kernel
theorem d_Mo_finds_64 : decode b_Mo_finds 64 = .ok (.iconst 1, 1) := by decide +kernel
theorem d_Mo_finds_65 : decode b_Mo_finds 65 = .ok (.goto 4, 3) := by decide +kernel
theorem d_Mo_finds_68 : decode b_Mo_finds 68 = .ok (.iconst 0, 1) := by decide +kernel
theorem d_Mo_finds_69 : decode b_Mo_finds 69 = .ok (.ireturn, 1) := by decide +kernel
abbrev ra_Mo_finds (mc ms : Nat) : Room := { frames := 476, cells := mc, slots := ms, locals := 11590 }
def wja_Mo_finds_19 (mc ms : Nat) (Post : Ly → St → Int32 → Nat → Nat → Prop) (PX : Ly → St → Nat → Nat → Prop) (a0 : Nat) (y_j19 : Ly) (s_j19 : St) (d_j19 e_j19 : Nat) : Prop := (d_j19 ≤ mc ∧ e_j19 ≤ ms) ∧ Post y_j19 s_j19 (-1) d_j19 e_j19
def wja_Mo_finds_69 (mc ms : Nat) (Post : Ly → St → Int32 → Nat → Nat → Prop) (PX : Ly → St → Nat → Nat → Prop) (a0 : Nat) (y_j69 : Ly) (s_j69 : St) (d_j69 e_j69 : Nat) (z0j69 : Int32) : Prop := (d_j69 ≤ mc ∧ e_j69 ≤ ms) ∧ Post y_j69 s_j69 z0j69 d_j69 e_j69
def wja_Mo_finds_64 (mc ms : Nat) (Post : Ly → St → Int32 → Nat → Nat → Prop) (PX : Ly → St → Nat → Nat → Prop) (a0 : Nat) (y_j64 : Ly) (s_j64 : St) (d_j64 e_j64 : Nat) : Prop := (d_j64 ≤ mc ∧ e_j64 ≤ ms) ∧ wja_Mo_finds_69 mc ms Post PX a0 y_j64 s_j64 d_j64 e_j64 1
def wx_Mo_finds (mc ms : Nat) (y : Ly) (Post : Ly → St → Int32 → Nat → Nat → Prop) (PX : Ly → St → Nat → Nat → Prop) (σ : St) (a0 : Nat) (v1 : Int32) (v2 : Int32) : Prop := wu_Mo_isTrial y (fun (s_2 : St) (r_1 : Int32) => ((r_1 = 0 → wja_Mo_finds_19 mc ms Post PX a0 y s_2 0 0) ∧ (¬ (r_1 = 0) → ((v2 < 0 → wja_Mo_finds_19 mc ms Post PX a0 y s_2 0 0) ∧ (¬ (v2 < 0) → ((v2 ≤ 255 → wu_Mo_draftTrial y (fun (s_4 : St) => ∃ mc_10 ms_11 : Nat, (0 + mc_10 ≤ mc ∧ 0 + ms_11 ≤ ms) ∧ wx_Mo_tryDraft mc_10 ms_11 y (fun (y_7 : Ly) (s_6 : St) (d_8 e_9 : Nat) => (0 + d_8 ≤ mc ∧ 0 + e_9 ≤ ms) ∧ ∃ mc_18 ms_19 : Nat, (0 + d_8 + mc_18 ≤ mc ∧ 0 + e_9 + ms_19 ≤ ms) ∧ wx_Mo_tryDraft mc_18 ms_19 y_7 (fun (y_15 : Ly) (s_14 : St) (d_16 e_17 : Nat) => (0 + d_8 + d_16 ≤ mc ∧ 0 + e_9 + e_17 ≤ ms) ∧ ((¬ (sV s_14 a0 124) = (sV s_6 a0 124) → wja_Mo_finds_64 mc ms Post PX a0 y_15 s_14 (0 + d_8 + d_16) (0 + e_9 + e_17)) ∧ ((sV s_14 a0 124) = (sV s_6 a0 124) → (((sV s_14 a0 125) = (sV s_6 a0 125) → wja_Mo_finds_69 mc ms Post PX a0 y_15 s_14 (0 + d_8 + d_16) (0 + e_9 + e_17) 0) ∧ (¬ ((sV s_14 a0 125) = (sV s_6 a0 125)) → wja_Mo_finds_64 mc ms Post PX a0 y_15 s_14 (0 + d_8 + d_16) (0 + e_9 + e_17)))))) (fun (y_15 : Ly) (s_14 : St) (d_16 e_17 : Nat) => ((0 + d_8 + d_16 ≤ mc ∧ 0 + e_9 + e_17 ≤ ms) ∧ PX y_15 s_14 (0 + d_8 + d_16) (0 + e_9 + e_17))) s_6 a0 v2) (fun (y_7 : Ly) (s_6 : St) (d_8 e_9 : Nat) => ((0 + d_8 ≤ mc ∧ 0 + e_9 ≤ ms) ∧ PX y_7 s_6 (0 + d_8) (0 + e_9))) s_4 a0 0) s_2 a0 v1) ∧ (¬ (v2 ≤ 255) → wja_Mo_finds_19 mc ms Post PX a0 y s_2 0 0))))))) σ a0 v1
set_option maxHeartbeats 4000000 in
set_option maxRecDepth 100000 in
theorem cx_Mo_finds (l : Launch) (D : va_G) (g : Nat → ClassId) (ad : Nat → Nat) (mc ms : Nat) (y : Ly) (Post : Ly → St → Int32 → Nat → Nat → Prop) (PX : Ly → St → Nat → Nat → Prop) (σ : St) (a0 : Nat) (v1 : Int32) (v2 : Int32) (sz uz : Nat) (h_a0 : cl a0 = 14) (h : wx_Mo_finds mc ms y Post PX σ a0 v1 v2) : vx_Met l y_Mo_finds (mw y_Mo_finds b_Mo_finds 5 (some .int)) (ra_Mo_finds mc ms) (PCu g D [] [.ref (ad a0), .int v1, .int v2] sz uz (ws g ad y σ)) (va_Qi (fun (r : Int32) (u : Ly × St × Nat × Nat) => Post u.1 u.2.1 r u.2.2.1 u.2.2.2) (QU D (va_A (ws g ad y σ) sz) (fun u => ws g ad u.1 u.2.1) sz uz (fun u => u.2.2.1) (fun u => u.2.2.2)) (va_A (ws g ad y σ) sz)) (XQ D g ad (va_A (ws g ad y σ) sz) sz uz PX) mc ms (va_A (ws g ad y σ) sz) := by
  refine ofIx (by decide +kernel) (Nat.le_of_ble_eq_true rfl) ?_
  intro p e s m args below meth c A Q ls H locs G hsz hP hD hS hl hret hretX
  subst hsz
  have hl : lv_has ls 5 [(0, .ref (ad a0)), (1, .int v1), (2, .int v2)] := hl
  have hd : 0 ≤ mc ∧ 0 ≤ ms := ⟨Nat.zero_le _, Nat.zero_le _⟩
  unfold wx_Mo_finds at h
  refine lv_aload_n G.1 G.2.1 d_Mo_finds_0 rfl (lv_at hl 0 rfl) ?_
  refine lv_iload_n G.1 G.2.1 d_Mo_finds_1 rfl (lv_at hl 1 rfl) ?_
  refine ucVi (As := [.int v1]) (rest := []) G hP hD hS (cu_Mo_isTrial l D g ad y _ σ a0 v1 H.size h_a0 h) w9_Mo_isTrial q4224 ⟨Nat.le_of_ble_eq_true rfl, Nat.le_of_ble_eq_true rfl⟩ rfl rfl h_a0 (q := (RMo, TMo, 131)) rfl rfl hl.1 rfl (Nat.le_of_ble_eq_true rfl) rfl hd d_Mo_finds_2 (fun r_1 s_2 H locs h hP hD hS => ?_)
  have J_19 : ∀ (y_j19 : Ly) (s_j19 : St) (d_j19 e_j19 : Nat) (H : Heap) (locs : List Loc), wja_Mo_finds_19 mc ms Post PX a0 y_j19 s_j19 d_j19 e_j19 → va_P D CL (ws g ad y_j19 s_j19) H → va_D A (ws g ad y_j19 s_j19) → va_S A s.heap H locs → ∀ ls, lv_has ls 5 [] → W p l e (ra_Mo_finds mc ms) s m args below meth c H locs d_j19 e_j19 Q (F0 m 19 ls []) := by
    intro y_j19 s_j19 d_j19 e_j19 H locs h hP hD hS ls hl
    unfold wja_Mo_finds_19 at h
    obtain ⟨hd, h⟩ := h
    refine lv_iconst (v := (-1)) G.1 G.2.1 d_Mo_finds_19 (by decide) ?_
    exact hret _ (y_j19, s_j19, d_j19, e_j19) _ _ _ _ _ ls h hP hD hS (Nat.le_refl _) (Nat.le_refl _) hd.1 hd.2 d_Mo_finds_20
  refine lv_if_eq (tgt := 19) G.1 G.2.1 d_Mo_finds_5 (by decide) (fun c5 => ?_) (fun c5 => ?_)
  · skip
    have h := h.1 c5
    exact J_19 y s_2 0 0 H locs h hP hD hS ls (lv_sub hl [] rfl)
  · skip
    have h := h.2 c5
    refine lv_iload_n G.1 G.2.1 d_Mo_finds_8 rfl (lv_at hl 2 rfl) ?_
    refine lv_if_lt (tgt := 19) G.1 G.2.1 d_Mo_finds_9 (by decide) (fun c9 => ?_) (fun c9 => ?_)
    · skip
      have h := h.1 c9
      exact J_19 y s_2 0 0 H locs h hP hD hS ls (lv_sub hl [] rfl)
    · skip
      have h := h.2 c9
      refine lv_iload_n G.1 G.2.1 d_Mo_finds_12 rfl (lv_at hl 2 rfl) ?_
      refine lv_sipush (v := 255) G.1 G.2.1 d_Mo_finds_13 (by decide) ?_
      refine lv_icmp_le (tgt := 21) G.1 G.2.1 d_Mo_finds_16 (by decide) (fun c16 => ?_) (fun c16 => ?_)
      · skip
        have h := h.1 c16
        refine lv_aload_n G.1 G.2.1 d_Mo_finds_21 rfl (lv_at hl 0 rfl) ?_
        refine lv_iload_n G.1 G.2.1 d_Mo_finds_22 rfl (lv_at hl 1 rfl) ?_
        refine W.eq (g2 := F0 m 23 ls [.int v1, .ref (ad a0)]) rfl ?_
        refine ucVv (As := [.int v1]) (rest := []) G hP hD hS (cu_Mo_draftTrial l D g ad y _ s_2 a0 v1 H.size h_a0 h) w9_Mo_draftTrial q4228 ⟨Nat.le_of_ble_eq_true rfl, Nat.le_of_ble_eq_true rfl⟩ rfl rfl h_a0 (q := (RMo, TMo, 131)) rfl rfl hl.1 rfl (Nat.le_of_ble_eq_true rfl) rfl hd d_Mo_finds_23 (fun s_4 H locs h hP hD hS => ?_)
        refine lv_aload_n G.1 G.2.1 d_Mo_finds_26 rfl (lv_at hl 0 rfl) ?_
        refine lv_iconst (v := 0) G.1 G.2.1 d_Mo_finds_27 (by decide) ?_
        obtain ⟨mc_10, ms_11, hr_12, h⟩ := h
        refine uxVv (As := [.int 0]) (rest := []) G hP hD hS (cx_Mo_tryDraft l D g ad mc_10 ms_11 y _ _ s_4 a0 0 H.size (us H) h_a0 h) (fun _ h => absurd h List.not_mem_nil) w9_Mo_tryDraft q4232 ⟨Nat.le_of_ble_eq_true rfl, Nat.le_of_ble_eq_true rfl⟩ rfl rfl h_a0 (q := (RMo, TMo, 131)) rfl rfl hl.1 rfl (Nat.le_of_ble_eq_true rfl) rfl hr_12 d_Mo_finds_28 (fun y_7 s_6 d_8 e_9 H locs q9 ce h hP hD hS hce hcv hcl => ?_) (fun y_7 s_6 d_8 e_9 H locs h hP hD hS => ?_)
        · skip
          obtain ⟨hd, h⟩ := h
          exact hretX h hP hD hS hd.1 hd.2 hce hcv hcl
        have hl := lv_sub (l' := [(0, .ref (ad a0)), (2, .int v2)]) hl [0, 2] rfl
        obtain ⟨hd, h⟩ := h
        refine lv_aload_n G.1 G.2.1 d_Mo_finds_31 rfl (lv_at hl 0 rfl) ?_
        refine ugf (v := .int (sV s_6 a0 124)) G hP h_a0 iMo rfl 124 (by decide) rfl q3188 rfl rfl d_Mo_finds_32 ?_
        refine lv_istore_n (lv' := [(3, .int (sV s_6 a0 124)), (0, .ref (ad a0)), (2, .int v2)]) G.1 G.2.1 d_Mo_finds_35 rfl hl (by decide) rfl (fun ls hl => ?_)
        refine lv_aload_n G.1 G.2.1 d_Mo_finds_36 rfl (lv_at hl 1 rfl) ?_
        refine ugf (v := .int (sV s_6 a0 125)) G hP h_a0 iMo rfl 125 (by decide) rfl q3189 rfl rfl d_Mo_finds_37 ?_
        refine lv_istore (lv' := [(4, .int (sV s_6 a0 125)), (3, .int (sV s_6 a0 124)), (0, .ref (ad a0)), (2, .int v2)]) G.1 G.2.1 d_Mo_finds_40 hl (by decide) rfl (fun ls hl => ?_)
        refine lv_aload_n G.1 G.2.1 d_Mo_finds_42 rfl (lv_at hl 2 rfl) ?_
        refine lv_iload_n G.1 G.2.1 d_Mo_finds_43 rfl (lv_at hl 3 rfl) ?_
        refine W.eq (g2 := F0 m 44 ls [.int v2, .ref (ad a0)]) rfl ?_
        obtain ⟨mc_18, ms_19, hr_20, h⟩ := h
        refine uxVv (As := [.int v2]) (rest := []) G hP hD hS (cx_Mo_tryDraft l D g ad mc_18 ms_19 y_7 _ _ s_6 a0 v2 H.size (us H) h_a0 h) (fun _ h => absurd h List.not_mem_nil) w9_Mo_tryDraft q4232 ⟨Nat.le_of_ble_eq_true rfl, Nat.le_of_ble_eq_true rfl⟩ rfl rfl h_a0 (q := (RMo, TMo, 131)) rfl rfl hl.1 rfl (Nat.le_of_ble_eq_true rfl) rfl hr_20 d_Mo_finds_44 (fun y_15 s_14 d_16 e_17 H locs q9 ce h hP hD hS hce hcv hcl => ?_) (fun y_15 s_14 d_16 e_17 H locs h hP hD hS => ?_)
        · skip
          obtain ⟨hd, h⟩ := h
          exact hretX h hP hD hS hd.1 hd.2 hce hcv hcl
        have hl := lv_sub (l' := [(4, .int (sV s_6 a0 125)), (3, .int (sV s_6 a0 124)), (0, .ref (ad a0))]) hl [0, 1, 2] rfl
        obtain ⟨hd, h⟩ := h
        refine lv_aload_n G.1 G.2.1 d_Mo_finds_47 rfl (lv_at hl 2 rfl) ?_
        refine ugf (v := .int (sV s_14 a0 124)) G hP h_a0 iMo rfl 124 (by decide) rfl q3188 rfl rfl d_Mo_finds_48 ?_
        refine lv_iload_n G.1 G.2.1 d_Mo_finds_51 rfl (lv_at hl 1 rfl) ?_
        have J_69 : ∀ (y_j69 : Ly) (s_j69 : St) (d_j69 e_j69 : Nat) (z0j69 : Int32) (H : Heap) (locs : List Loc), wja_Mo_finds_69 mc ms Post PX a0 y_j69 s_j69 d_j69 e_j69 z0j69 → va_P D CL (ws g ad y_j69 s_j69) H → va_D A (ws g ad y_j69 s_j69) → va_S A s.heap H locs → ∀ ls, lv_has ls 5 [] → W p l e (ra_Mo_finds mc ms) s m args below meth c H locs d_j69 e_j69 Q (F0 m 69 ls [.int z0j69]) := by
          intro y_j69 s_j69 d_j69 e_j69 z0j69 H locs h hP hD hS ls hl
          unfold wja_Mo_finds_69 at h
          obtain ⟨hd, h⟩ := h
          exact hret _ (y_j69, s_j69, d_j69, e_j69) _ _ _ _ _ ls h hP hD hS (Nat.le_refl _) (Nat.le_refl _) hd.1 hd.2 d_Mo_finds_69
        have J_64 : ∀ (y_j64 : Ly) (s_j64 : St) (d_j64 e_j64 : Nat) (H : Heap) (locs : List Loc), wja_Mo_finds_64 mc ms Post PX a0 y_j64 s_j64 d_j64 e_j64 → va_P D CL (ws g ad y_j64 s_j64) H → va_D A (ws g ad y_j64 s_j64) → va_S A s.heap H locs → ∀ ls, lv_has ls 5 [] → W p l e (ra_Mo_finds mc ms) s m args below meth c H locs d_j64 e_j64 Q (F0 m 64 ls []) := by
          intro y_j64 s_j64 d_j64 e_j64 H locs h hP hD hS ls hl
          unfold wja_Mo_finds_64 at h
          obtain ⟨hd, h⟩ := h
          refine lv_iconst (v := 1) G.1 G.2.1 d_Mo_finds_64 (by decide) ?_
          refine lv_goto (tgt := 69) G.1 G.2.1 d_Mo_finds_65 (by decide) ?_
          exact J_69 y_j64 s_j64 d_j64 e_j64 1 H locs h hP hD hS ls (lv_sub hl [] rfl)
        refine lv_icmp_ne (tgt := 64) G.1 G.2.1 d_Mo_finds_52 (by decide) (fun c52 => ?_) (fun c52 => ?_)
        · skip
          have h := h.1 c52
          exact J_64 y_15 s_14 (0 + d_8 + d_16) (0 + e_9 + e_17) H locs h hP hD hS ls (lv_sub hl [] rfl)
        · skip
          have h := h.2 c52
          refine lv_aload_n G.1 G.2.1 d_Mo_finds_55 rfl (lv_at hl 2 rfl) ?_
          refine ugf (v := .int (sV s_14 a0 125)) G hP h_a0 iMo rfl 125 (by decide) rfl q3189 rfl rfl d_Mo_finds_56 ?_
          refine lv_iload G.1 G.2.1 d_Mo_finds_59 (lv_at hl 0 rfl) ?_
          refine lv_icmp_eq (tgt := 68) G.1 G.2.1 d_Mo_finds_61 (by decide) (fun c61 => ?_) (fun c61 => ?_)
          · skip
            have h := h.1 c61
            refine lv_iconst (v := 0) G.1 G.2.1 d_Mo_finds_68 (by decide) ?_
            exact J_69 y_15 s_14 (0 + d_8 + d_16) (0 + e_9 + e_17) 0 H locs h hP hD hS ls (lv_sub hl [] rfl)
          · skip
            have h := h.2 c61
            exact J_64 y_15 s_14 (0 + d_8 + d_16) (0 + e_9 + e_17) H locs h hP hD hS ls (lv_sub hl [] rfl)
      · skip
        have h := h.2 c16
        exact J_19 y s_2 0 0 H locs h hP hD hS ls (lv_sub hl [] rfl)
theorem q4252 : Cond.methodLink "ClassWorksModel" 1341 y_Mo_isRule ∈ lw_ok := lw_okmem (List.mem_of_getElem? (i := 4252) (by decide +kernel)) rfl
theorem q4254 : Cond.code y_Mo_isRule b_Mo_isRule 1 (some (.boolean)) ∈ lw_ok := lw_okmem (List.mem_of_getElem? (i := 4254) (by decide +kernel)) rfl
theorem q4253 : Cond.static y_Mo_isRule ∈ lw_ok := lw_okmem (List.mem_of_getElem? (i := 4253) (by decide +kernel)) rfl
theorem w9_Mo_isRule : CWv y_Mo_isRule b_Mo_isRule 1 (some (.boolean)) 1 ∧ Cond.static y_Mo_isRule ∈ lw_ok := ⟨⟨q4254, q348, by decide +kernel, by decide +kernel, by decide +kernel⟩, q4253⟩
def y_Mo_hole : MethodName := ⟨"ClassWorksModel", "hole", "(I)I"⟩
abbrev b_Mo_hole : ByteArray := prog_14_method_204_code
theorem d_Mo_hole_0 : decode b_Mo_hole 0 = .ok (.iload_n 1, 1) := by decide +kernel
theorem d_Mo_hole_1 : decode b_Mo_hole 1 = .ok (.ifCond .ge 5, 3) := by decide +kernel
theorem d_Mo_hole_4 : decode b_Mo_hole 4 = .ok (.iconst (-1), 1) := by decide +kernel
theorem d_Mo_hole_5 : decode b_Mo_hole 5 = .ok (.ireturn, 1) := by decide +kernel
theorem d_Mo_hole_6 : decode b_Mo_hole 6 = .ok (.lconst 0, 1) := by decide +kernel
theorem d_Mo_hole_7 : decode b_Mo_hole 7 = .ok (.lstore_n 2, 1) := by decide +kernel
theorem d_Mo_hole_8 : decode b_Mo_hole 8 = .ok (.iconst 0, 1) := by decide +kernel
theorem d_Mo_hole_9 : decode b_Mo_hole 9 = .ok (.istore 4, 2) := by decide +kernel
theorem d_Mo_hole_11 : decode b_Mo_hole 11 = .ok (.iload 4, 2) := by decide +kernel
theorem d_Mo_hole_13 : decode b_Mo_hole 13 = .ok (.aload_n 0, 1) := by decide +kernel
theorem d_Mo_hole_14 : decode b_Mo_hole 14 = .ok (.getfield 1314, 3) := by decide +kernel
theorem d_Mo_hole_17 : decode b_Mo_hole 17 = .ok (.if_icmp .ge 27, 3) := by decide +kernel
theorem d_Mo_hole_20 : decode b_Mo_hole 20 = .ok (.aload_n 0, 1) := by decide +kernel
theorem d_Mo_hole_21 : decode b_Mo_hole 21 = .ok (.iload 4, 2) := by decide +kernel
theorem d_Mo_hole_23 : decode b_Mo_hole 23 = .ok (.invokevirtual 1338, 3) := by decide +kernel
theorem d_Mo_hole_26 : decode b_Mo_hole 26 = .ok (.lload_n 2, 1) := by decide +kernel
theorem d_Mo_hole_27 : decode b_Mo_hole 27 = .ok (.lconst 1, 1) := by decide +kernel
theorem d_Mo_hole_28 : decode b_Mo_hole 28 = .ok (.aload_n 0, 1) := by decide +kernel
theorem d_Mo_hole_29 : decode b_Mo_hole 29 = .ok (.getfield 381, 3) := by decide +kernel
theorem d_Mo_hole_32 : decode b_Mo_hole 32 = .ok (.iload 4, 2) := by decide +kernel
theorem d_Mo_hole_34 : decode b_Mo_hole 34 = .ok (.iaload, 1) := by decide +kernel
theorem d_Mo_hole_35 : decode b_Mo_hole 35 = .ok (.lshl, 1) := by decide +kernel
theorem d_Mo_hole_36 : decode b_Mo_hole 36 = .ok (.lor, 1) := by decide +kernel
theorem d_Mo_hole_37 : decode b_Mo_hole 37 = .ok (.lstore_n 2, 1) := by decide +kernel
theorem d_Mo_hole_38 : decode b_Mo_hole 38 = .ok (.iinc 4 1, 3) := by decide +kernel
theorem d_Mo_hole_41 : decode b_Mo_hole 41 = .ok (.goto (-30), 3) := by decide +kernel
theorem d_Mo_hole_44 : decode b_Mo_hole 44 = .ok (.iload_n 1, 1) := by decide +kernel
theorem d_Mo_hole_45 : decode b_Mo_hole 45 = .ok (.istore 4, 2) := by decide +kernel
theorem d_Mo_hole_47 : decode b_Mo_hole 47 = .ok (.iconst 1, 1) := by decide +kernel
theorem d_Mo_hole_48 : decode b_Mo_hole 48 = .ok (.istore 5, 2) := by decide +kernel
theorem d_Mo_hole_50 : decode b_Mo_hole 50 = .ok (.iload 5, 2) := by decide +kernel
theorem d_Mo_hole_52 : decode b_Mo_hole 52 = .ok (.bipush 60, 2) := by decide +kernel
theorem d_Mo_hole_54 : decode b_Mo_hole 54 = .ok (.if_icmp .ge 39, 3) := by decide +kernel
theorem d_Mo_hole_57 : decode b_Mo_hole 57 = .ok (.iload 5, 2) := by decide +kernel
theorem d_Mo_hole_59 : decode b_Mo_hole 59 = .ok (.invokestatic 1341, 3) := by decide +kernel
theorem d_Mo_hole_62 : decode b_Mo_hole 62 = .ok (.ifCond .eq 25, 3) := by decide +kernel
theorem d_Mo_hole_65 : decode b_Mo_hole 65 = .ok (.lload_n 2, 1) := by decide +kernel
theorem d_Mo_hole_66 : decode b_Mo_hole 66 = .ok (.iload 5, 2) := by decide +kernel
theorem d_Mo_hole_68 : decode b_Mo_hole 68 = .ok (.lshr, 1) := by decide +kernel
theorem d_Mo_hole_69 : decode b_Mo_hole 69 = .ok (.lconst 1, 1) := by decide +kernel
theorem d_Mo_hole_70 : decode b_Mo_hole 70 = .ok (.land, 1) := by decide +kernel
theorem d_Mo_hole_71 : decode b_Mo_hole 71 = .ok (.lconst 0, 1) := by decide +kernel
theorem d_Mo_hole_72 : decode b_Mo_hole 72 = .ok (.lcmp, 1) := by decide +kernel
theorem d_Mo_hole_73 : decode b_Mo_hole 73 = .ok (.ifCond .ne 14, 3) := by decide +kernel
theorem d_Mo_hole_76 : decode b_Mo_hole 76 = .ok (.iload 4, 2) := by decide +kernel
theorem d_Mo_hole_78 : decode b_Mo_hole 78 = .ok (.ifCond .ne 6, 3) := by decide +kernel
theorem d_Mo_hole_81 : decode b_Mo_hole 81 = .ok (.iload 5, 2) := by decide +kernel
theorem d_Mo_hole_83 : decode b_Mo_hole 83 = .ok (.ireturn, 1) := by decide +kernel
theorem d_Mo_hole_84 : decode b_Mo_hole 84 = .ok (.iinc 4 (-1), 3) := by decide +kernel
theorem d_Mo_hole_87 : decode b_Mo_hole 87 = .ok (.iinc 5 1, 3) := by decide +kernel
theorem d_Mo_hole_90 : decode b_Mo_hole 90 = .ok (.goto (-40), 3) := by decide +kernel
theorem d_Mo_hole_93 : decode b_Mo_hole 93 = .ok (.bipush (-2), 2) := by decide +kernel
theorem d_Mo_hole_95 : decode b_Mo_hole 95 = .ok (.ireturn, 1) := by decide +kernel
abbrev ra_Mo_hole (mc ms : Nat) : Room := { frames := 477, cells := mc, slots := ms, locals := 11614 }
def wja_Mo_hole_87 (mc ms : Nat) (Post : Ly → St → Int32 → Nat → Nat → Prop) (PX : Ly → St → Nat → Nat → Prop) (K_50 : Ly → St → Nat → Nat → Int64 → Int32 → Int32 → Prop) (a0 : Nat) (y_j87 : Ly) (s_j87 : St) (d_j87 e_j87 : Nat) (x2j87 : Int64) (x4j87 : Int32) (x5j87 : Int32) : Prop := (d_j87 ≤ mc ∧ e_j87 ≤ ms) ∧ K_50 y_j87 s_j87 d_j87 e_j87 x2j87 x4j87 (x5j87 + 1)
def wba_Mo_hole_50 (mc ms : Nat) (Post : Ly → St → Int32 → Nat → Nat → Prop) (PX : Ly → St → Nat → Nat → Prop) (K_50 : Ly → St → Nat → Nat → Int64 → Int32 → Int32 → Prop) (a0 : Nat) (y_h50 : Ly) (s_h50 : St) (d_h50 e_h50 : Nat) (x2h50 : Int64) (x4h50 : Int32) (x5h50 : Int32) : Prop := (d_h50 ≤ mc ∧ e_h50 ≤ ms) ∧ ((60 ≤ x5h50 → Post y_h50 s_h50 (-2) d_h50 e_h50) ∧ (¬ (60 ≤ x5h50) → wu_Mo_isRule y_h50 (fun (s_2 : St) (r_1 : Int32) => ((r_1 = 0 → wja_Mo_hole_87 mc ms Post PX K_50 a0 y_h50 s_2 d_h50 e_h50 x2h50 x4h50 x5h50) ∧ (¬ (r_1 = 0) → ((¬ (lg_cmp ((x2h50 >>> (x5h50.toInt64 &&& 63)) &&& 1) 0) = 0 → wja_Mo_hole_87 mc ms Post PX K_50 a0 y_h50 s_2 d_h50 e_h50 x2h50 x4h50 x5h50) ∧ ((lg_cmp ((x2h50 >>> (x5h50.toInt64 &&& 63)) &&& 1) 0) = 0 → ((¬ x4h50 = 0 → wja_Mo_hole_87 mc ms Post PX K_50 a0 y_h50 s_2 d_h50 e_h50 x2h50 (x4h50 + (-1)) x5h50) ∧ (x4h50 = 0 → Post y_h50 s_2 x5h50 d_h50 e_h50))))))) s_h50 x5h50))
def wla_Mo_hole_50 (mc ms : Nat) (Post : Ly → St → Int32 → Nat → Nat → Prop) (PX : Ly → St → Nat → Nat → Prop) (a0 : Nat) (y_h50 : Ly) (s_h50 : St) (d_h50 e_h50 : Nat) (x2h50 : Int64) (x4h50 : Int32) (x5h50 : Int32) : Prop := ∃ (I : Ly → St → Nat → Nat → Int64 → Int32 → Int32 → Prop) (μ : Ly → St → Nat → Nat → Int64 → Int32 → Int32 → Nat), I y_h50 s_h50 d_h50 e_h50 x2h50 x4h50 x5h50 ∧ ∀ (u1 : Ly) (u2 : St) (u3 u4 : Nat) (t0 : Int64) (t1 : Int32) (t2 : Int32), I u1 u2 u3 u4 t0 t1 t2 → wba_Mo_hole_50 mc ms Post PX (fun z1 z2 z3 z4 t0q t1q t2q => I z1 z2 z3 z4 t0q t1q t2q ∧ μ z1 z2 z3 z4 t0q t1q t2q < μ u1 u2 u3 u4 t0 t1 t2) a0 u1 u2 u3 u4 t0 t1 t2
def wba_Mo_hole_11 (mc ms : Nat) (Post : Ly → St → Int32 → Nat → Nat → Prop) (PX : Ly → St → Nat → Nat → Prop) (K_11 : Ly → St → Nat → Nat → Int32 → Int64 → Int32 → Prop) (a0 : Nat) (y_h11 : Ly) (s_h11 : St) (d_h11 e_h11 : Nat) (x1h11 : Int32) (x2h11 : Int64) (x4h11 : Int32) : Prop := (d_h11 ≤ mc ∧ e_h11 ≤ ms) ∧ (((sV s_h11 a0 121) ≤ x4h11 → wla_Mo_hole_50 mc ms Post PX a0 y_h11 s_h11 d_h11 e_h11 x2h11 x1h11 1) ∧ (¬ ((sV s_h11 a0 121) ≤ x4h11) → ∃ mc_8 ms_9 : Nat, (d_h11 + mc_8 ≤ mc ∧ e_h11 + ms_9 ≤ ms) ∧ wx_Mo_look mc_8 ms_9 y_h11 (fun (y_5 : Ly) (s_4 : St) (d_6 e_7 : Nat) => (d_h11 + d_6 ≤ mc ∧ e_h11 + e_7 ≤ ms) ∧ xA y_5 s_4 a0 119 x4h11 (fun x_11 : Int32 => K_11 y_5 s_4 (d_h11 + d_6) (e_h11 + e_7) x1h11 (x2h11 ||| (1 <<< (x_11.toInt64 &&& 63))) (x4h11 + 1))) (fun (y_5 : Ly) (s_4 : St) (d_6 e_7 : Nat) => ((d_h11 + d_6 ≤ mc ∧ e_h11 + e_7 ≤ ms) ∧ PX y_5 s_4 (d_h11 + d_6) (e_h11 + e_7))) s_h11 a0 x4h11))
def wla_Mo_hole_11 (mc ms : Nat) (Post : Ly → St → Int32 → Nat → Nat → Prop) (PX : Ly → St → Nat → Nat → Prop) (a0 : Nat) (y_h11 : Ly) (s_h11 : St) (d_h11 e_h11 : Nat) (x1h11 : Int32) (x2h11 : Int64) (x4h11 : Int32) : Prop := ∃ (I : Ly → St → Nat → Nat → Int32 → Int64 → Int32 → Prop) (μ : Ly → St → Nat → Nat → Int32 → Int64 → Int32 → Nat), I y_h11 s_h11 d_h11 e_h11 x1h11 x2h11 x4h11 ∧ ∀ (u1 : Ly) (u2 : St) (u3 u4 : Nat) (t0 : Int32) (t1 : Int64) (t2 : Int32), I u1 u2 u3 u4 t0 t1 t2 → wba_Mo_hole_11 mc ms Post PX (fun z1 z2 z3 z4 t0q t1q t2q => I z1 z2 z3 z4 t0q t1q t2q ∧ μ z1 z2 z3 z4 t0q t1q t2q < μ u1 u2 u3 u4 t0 t1 t2) a0 u1 u2 u3 u4 t0 t1 t2
def wx_Mo_hole (mc ms : Nat) (y : Ly) (Post : Ly → St → Int32 → Nat → Nat → Prop) (PX : Ly → St → Nat → Nat → Prop) (σ : St) (a0 : Nat) (v1 : Int32) : Prop := ((0 ≤ v1 → wla_Mo_hole_11 mc ms Post PX a0 y σ 0 0 v1 0 0) ∧ (¬ (0 ≤ v1) → Post y σ (-1) 0 0))
set_option maxHeartbeats 4000000 in
set_option maxRecDepth 100000 in
theorem cx_Mo_hole (l : Launch) (D : va_G) (g : Nat → ClassId) (ad : Nat → Nat) (mc ms : Nat) (y : Ly) (Post : Ly → St → Int32 → Nat → Nat → Prop) (PX : Ly → St → Nat → Nat → Prop) (σ : St) (a0 : Nat) (v1 : Int32) (sz uz : Nat) (h_a0 : cl a0 = 14) (h : wx_Mo_hole mc ms y Post PX σ a0 v1) : vx_Met l y_Mo_hole (mw y_Mo_hole b_Mo_hole 6 (some .int)) (ra_Mo_hole mc ms) (PCu g D [] [.ref (ad a0), .int v1] sz uz (ws g ad y σ)) (va_Qi (fun (r : Int32) (u : Ly × St × Nat × Nat) => Post u.1 u.2.1 r u.2.2.1 u.2.2.2) (QU D (va_A (ws g ad y σ) sz) (fun u => ws g ad u.1 u.2.1) sz uz (fun u => u.2.2.1) (fun u => u.2.2.2)) (va_A (ws g ad y σ) sz)) (XQ D g ad (va_A (ws g ad y σ) sz) sz uz PX) mc ms (va_A (ws g ad y σ) sz) := by
  refine ofIx (by decide +kernel) (Nat.le_of_ble_eq_true rfl) ?_
  intro p e s m args below meth c A Q ls H locs G hsz hP hD hS hl hret hretX
  subst hsz
  have hl : lv_has ls 6 [(0, .ref (ad a0)), (1, .int v1)] := hl
  have hd : 0 ≤ mc ∧ 0 ≤ ms := ⟨Nat.zero_le _, Nat.zero_le _⟩
  unfold wx_Mo_hole at h
  refine lv_iload_n G.1 G.2.1 d_Mo_hole_0 rfl (lv_at hl 1 rfl) ?_
  refine lv_if_ge (tgt := 6) G.1 G.2.1 d_Mo_hole_1 (by decide) (fun c1 => ?_) (fun c1 => ?_)
  · skip
    have h := h.1 c1
    refine lv_lconst (v := 0) G.1 G.2.1 d_Mo_hole_6 (by decide) ?_
    refine lv_lstore_n (lv' := [(2, .long 0), (0, .ref (ad a0)), (1, .int v1)]) G.1 G.2.1 d_Mo_hole_7 rfl hl (by decide) rfl (fun ls hl => ?_)
    refine lv_iconst (v := 0) G.1 G.2.1 d_Mo_hole_8 (by decide) ?_
    refine lv_istore (lv' := [(4, .int 0), (2, .long 0), (0, .ref (ad a0)), (1, .int v1)]) G.1 G.2.1 d_Mo_hole_9 hl (by decide) rfl (fun ls hl => ?_)
    unfold wla_Mo_hole_11 at h
    obtain ⟨I_11, μ_11, hI_11, hB_11⟩ := h
    have L_11 : ∀ (n_11 : Nat) (y_h11 : Ly) (s_h11 : St) (d_h11 e_h11 : Nat) (x1h11 : Int32) (x2h11 : Int64) (x4h11 : Int32), μ_11 y_h11 s_h11 d_h11 e_h11 x1h11 x2h11 x4h11 < n_11 → I_11 y_h11 s_h11 d_h11 e_h11 x1h11 x2h11 x4h11 → ∀ (H : Heap) (locs : List Loc), va_P D CL (ws g ad y_h11 s_h11) H → va_D A (ws g ad y_h11 s_h11) → va_S A s.heap H locs → ∀ ls, lv_has ls 6 [(0, .ref (ad a0)), (1, .int x1h11), (2, .long x2h11), (4, .int x4h11)] → W p l e (ra_Mo_hole mc ms) s m args below meth c H locs d_h11 e_h11 Q (F0 m 11 ls []) := by
      intro n_11
      induction n_11 with
      | zero => intro y_h11 s_h11 d_h11 e_h11 x1h11 x2h11 x4h11 hμ; exact absurd hμ (Nat.not_lt_zero _)
      | succ n_11 ih_11 =>
        intro y_h11 s_h11 d_h11 e_h11 x1h11 x2h11 x4h11 hμ_11 hJ H locs hP hD hS ls hl
        obtain ⟨K_11, hK_11, h⟩ : ∃ K : Ly → St → Nat → Nat → Int32 → Int64 → Int32 → Prop, (∀ z1 z2 z3 z4 (t0 : Int32) (t1 : Int64) (t2 : Int32), K z1 z2 z3 z4 t0 t1 t2 → I_11 z1 z2 z3 z4 t0 t1 t2 ∧ μ_11 z1 z2 z3 z4 t0 t1 t2 < μ_11 y_h11 s_h11 d_h11 e_h11 x1h11 x2h11 x4h11) ∧ wba_Mo_hole_11 mc ms Post PX K a0 y_h11 s_h11 d_h11 e_h11 x1h11 x2h11 x4h11 := ⟨_, fun _ _ _ _ _ _ _ h => h, hB_11 y_h11 s_h11 d_h11 e_h11 x1h11 x2h11 x4h11 hJ⟩
        unfold wba_Mo_hole_11 at h
        obtain ⟨hd, h⟩ := h
        refine lv_iload G.1 G.2.1 d_Mo_hole_11 (lv_at hl 3 rfl) ?_
        refine lv_aload_n G.1 G.2.1 d_Mo_hole_13 rfl (lv_at hl 0 rfl) ?_
        refine ugf (v := .int (sV s_h11 a0 121)) G hP h_a0 iMo rfl 121 (by decide) rfl q3185 rfl rfl d_Mo_hole_14 ?_
        refine lv_icmp_ge (tgt := 44) G.1 G.2.1 d_Mo_hole_17 (by decide) (fun c17 => ?_) (fun c17 => ?_)
        · skip
          have h := h.1 c17
          refine lv_iload_n G.1 G.2.1 d_Mo_hole_44 rfl (lv_at hl 1 rfl) ?_
          refine lv_istore (lv' := [(4, .int x1h11), (0, .ref (ad a0)), (1, .int x1h11), (2, .long x2h11)]) G.1 G.2.1 d_Mo_hole_45 hl (by decide) rfl (fun ls hl => ?_)
          refine lv_iconst (v := 1) G.1 G.2.1 d_Mo_hole_47 (by decide) ?_
          refine lv_istore (lv' := [(5, .int 1), (4, .int x1h11), (0, .ref (ad a0)), (1, .int x1h11), (2, .long x2h11)]) G.1 G.2.1 d_Mo_hole_48 hl (by decide) rfl (fun ls hl => ?_)
          unfold wla_Mo_hole_50 at h
          obtain ⟨I_50, μ_50, hI_50, hB_50⟩ := h
          have L_50 : ∀ (n_50 : Nat) (y_h50 : Ly) (s_h50 : St) (d_h50 e_h50 : Nat) (x2h50 : Int64) (x4h50 : Int32) (x5h50 : Int32), μ_50 y_h50 s_h50 d_h50 e_h50 x2h50 x4h50 x5h50 < n_50 → I_50 y_h50 s_h50 d_h50 e_h50 x2h50 x4h50 x5h50 → ∀ (H : Heap) (locs : List Loc), va_P D CL (ws g ad y_h50 s_h50) H → va_D A (ws g ad y_h50 s_h50) → va_S A s.heap H locs → ∀ ls, lv_has ls 6 [(2, .long x2h50), (4, .int x4h50), (5, .int x5h50)] → W p l e (ra_Mo_hole mc ms) s m args below meth c H locs d_h50 e_h50 Q (F0 m 50 ls []) := by
            intro n_50
            induction n_50 with
            | zero => intro y_h50 s_h50 d_h50 e_h50 x2h50 x4h50 x5h50 hμ; exact absurd hμ (Nat.not_lt_zero _)
            | succ n_50 ih_50 =>
              intro y_h50 s_h50 d_h50 e_h50 x2h50 x4h50 x5h50 hμ_50 hJ H locs hP hD hS ls hl
              obtain ⟨K_50, hK_50, h⟩ : ∃ K : Ly → St → Nat → Nat → Int64 → Int32 → Int32 → Prop, (∀ z1 z2 z3 z4 (t0 : Int64) (t1 : Int32) (t2 : Int32), K z1 z2 z3 z4 t0 t1 t2 → I_50 z1 z2 z3 z4 t0 t1 t2 ∧ μ_50 z1 z2 z3 z4 t0 t1 t2 < μ_50 y_h50 s_h50 d_h50 e_h50 x2h50 x4h50 x5h50) ∧ wba_Mo_hole_50 mc ms Post PX K a0 y_h50 s_h50 d_h50 e_h50 x2h50 x4h50 x5h50 := ⟨_, fun _ _ _ _ _ _ _ h => h, hB_50 y_h50 s_h50 d_h50 e_h50 x2h50 x4h50 x5h50 hJ⟩
              unfold wba_Mo_hole_50 at h
              obtain ⟨hd, h⟩ := h
              refine lv_iload G.1 G.2.1 d_Mo_hole_50 (lv_at hl 2 rfl) ?_
              refine lv_bipush (v := 60) G.1 G.2.1 d_Mo_hole_52 (by decide) ?_
              refine lv_icmp_ge (tgt := 93) G.1 G.2.1 d_Mo_hole_54 (by decide) (fun c54 => ?_) (fun c54 => ?_)
              · skip
                have h := h.1 c54
                refine lv_bipush (v := (-2)) G.1 G.2.1 d_Mo_hole_93 (by decide) ?_
                exact hret _ (y_h50, s_h50, d_h50, e_h50) _ _ _ _ _ ls h hP hD hS (Nat.le_refl _) (Nat.le_refl _) hd.1 hd.2 d_Mo_hole_95
              · skip
                have h := h.2 c54
                refine lv_iload G.1 G.2.1 d_Mo_hole_57 (lv_at hl 2 rfl) ?_
                refine ucSi (As := [.int x5h50]) (rest := []) G hP hD hS (cu_Mo_isRule l D g ad y_h50 _ s_h50 x5h50 H.size  h) w9_Mo_isRule q4252 ⟨Nat.le_of_ble_eq_true rfl, Nat.le_of_ble_eq_true rfl⟩ rfl rfl hl.1 rfl (Nat.le_of_ble_eq_true rfl) rfl hd d_Mo_hole_59 (fun r_1 s_2 H locs h hP hD hS => ?_)
                have J_87 : ∀ (y_j87 : Ly) (s_j87 : St) (d_j87 e_j87 : Nat) (x2j87 : Int64) (x4j87 : Int32) (x5j87 : Int32) (H : Heap) (locs : List Loc), wja_Mo_hole_87 mc ms Post PX K_50 a0 y_j87 s_j87 d_j87 e_j87 x2j87 x4j87 x5j87 → va_P D CL (ws g ad y_j87 s_j87) H → va_D A (ws g ad y_j87 s_j87) → va_S A s.heap H locs → ∀ ls, lv_has ls 6 [(2, .long x2j87), (4, .int x4j87), (5, .int x5j87)] → W p l e (ra_Mo_hole mc ms) s m args below meth c H locs d_j87 e_j87 Q (F0 m 87 ls []) := by
                  intro y_j87 s_j87 d_j87 e_j87 x2j87 x4j87 x5j87 H locs h hP hD hS ls hl
                  unfold wja_Mo_hole_87 at h
                  obtain ⟨hd, h⟩ := h
                  refine lv_iinc (v := x5j87 + 1) (lv' := [(5, .int (x5j87 + 1)), (2, .long x2j87), (4, .int x4j87)]) G.1 G.2.1 d_Mo_hole_87 hl (k := 2) rfl rfl (by decide) rfl (fun ls hl => ?_)
                  refine lv_goto (tgt := 50) G.1 G.2.1 d_Mo_hole_90 (by decide) ?_
                  have h := hK_50 y_j87 s_j87 d_j87 e_j87 x2j87 x4j87 (x5j87 + 1) h
                  exact ih_50 y_j87 s_j87 d_j87 e_j87 x2j87 x4j87 (x5j87 + 1) (Nat.lt_of_lt_of_le h.2 (Nat.le_of_lt_succ hμ_50)) h.1 H locs hP hD hS ls (lv_sub hl [1, 2, 0] rfl)
                refine lv_if_eq (tgt := 87) G.1 G.2.1 d_Mo_hole_62 (by decide) (fun c62 => ?_) (fun c62 => ?_)
                · skip
                  have h := h.1 c62
                  exact J_87 y_h50 s_2 d_h50 e_h50 x2h50 x4h50 x5h50 H locs h hP hD hS ls (lv_sub hl [0, 1, 2] rfl)
                · skip
                  have h := h.2 c62
                  refine lv_lload_n G.1 G.2.1 d_Mo_hole_65 rfl (lv_at hl 0 rfl) ?_
                  refine lv_iload G.1 G.2.1 d_Mo_hole_66 (lv_at hl 2 rfl) ?_
                  refine lv_lshr G.1 G.2.1 d_Mo_hole_68 rfl ?_
                  refine lv_lconst (v := 1) G.1 G.2.1 d_Mo_hole_69 (by decide) ?_
                  refine lv_land G.1 G.2.1 d_Mo_hole_70 ?_
                  refine W.eq (g2 := F0 m 71 ls [.long ((x2h50 >>> (x5h50.toInt64 &&& 63)) &&& 1)]) rfl ?_
                  refine lv_lconst (v := 0) G.1 G.2.1 d_Mo_hole_71 (by decide) ?_
                  refine W.lcmp G.1 G.2.1 d_Mo_hole_72 ?_
                  refine lv_if_ne (tgt := 87) G.1 G.2.1 d_Mo_hole_73 (by decide) (fun c73 => ?_) (fun c73 => ?_)
                  · skip
                    have h := h.1 c73
                    exact J_87 y_h50 s_2 d_h50 e_h50 x2h50 x4h50 x5h50 H locs h hP hD hS ls (lv_sub hl [0, 1, 2] rfl)
                  · skip
                    have h := h.2 c73
                    refine lv_iload G.1 G.2.1 d_Mo_hole_76 (lv_at hl 1 rfl) ?_
                    refine lv_if_ne (tgt := 84) G.1 G.2.1 d_Mo_hole_78 (by decide) (fun c78 => ?_) (fun c78 => ?_)
                    · skip
                      have h := h.1 c78
                      refine lv_iinc (v := x4h50 + (-1)) (lv' := [(4, .int (x4h50 + (-1))), (2, .long x2h50), (5, .int x5h50)]) G.1 G.2.1 d_Mo_hole_84 hl (k := 1) rfl rfl (by decide) rfl (fun ls hl => ?_)
                      exact J_87 y_h50 s_2 d_h50 e_h50 x2h50 (x4h50 + (-1)) x5h50 H locs h hP hD hS ls (lv_sub hl [1, 0, 2] rfl)
                    · skip
                      have h := h.2 c78
                      refine lv_iload G.1 G.2.1 d_Mo_hole_81 (lv_at hl 2 rfl) ?_
                      exact hret _ (y_h50, s_2, d_h50, e_h50) _ _ _ _ _ ls h hP hD hS (Nat.le_refl _) (Nat.le_refl _) hd.1 hd.2 d_Mo_hole_83
          exact L_50 _ y_h11 s_h11 d_h11 e_h11 x2h11 x1h11 1 (Nat.lt_succ_self _) hI_50 H locs hP hD hS ls (lv_sub hl [4, 1, 0] rfl)
        · skip
          have h := h.2 c17
          refine lv_aload_n G.1 G.2.1 d_Mo_hole_20 rfl (lv_at hl 0 rfl) ?_
          refine lv_iload G.1 G.2.1 d_Mo_hole_21 (lv_at hl 3 rfl) ?_
          obtain ⟨mc_8, ms_9, hr_10, h⟩ := h
          refine uxVv (As := [.int x4h11]) (rest := []) G hP hD hS (cx_Mo_look l D g ad mc_8 ms_9 y_h11 _ _ s_h11 a0 x4h11 H.size (us H) h_a0 h) (fun _ h => absurd h List.not_mem_nil) w9_Mo_look q4240 ⟨Nat.le_of_ble_eq_true rfl, Nat.le_of_ble_eq_true rfl⟩ rfl rfl h_a0 (q := (RMo, TMo, 131)) rfl rfl hl.1 rfl (Nat.le_of_ble_eq_true rfl) rfl hr_10 d_Mo_hole_23 (fun y_5 s_4 d_6 e_7 H locs q9 ce h hP hD hS hce hcv hcl => ?_) (fun y_5 s_4 d_6 e_7 H locs h hP hD hS => ?_)
          · skip
            obtain ⟨hd, h⟩ := h
            exact hretX h hP hD hS hd.1 hd.2 hce hcv hcl
          obtain ⟨hd, h⟩ := h
          refine lv_lload_n G.1 G.2.1 d_Mo_hole_26 rfl (lv_at hl 2 rfl) ?_
          refine lv_lconst (v := 1) G.1 G.2.1 d_Mo_hole_27 (by decide) ?_
          refine lv_aload_n G.1 G.2.1 d_Mo_hole_28 rfl (lv_at hl 0 rfl) ?_
          refine ugf (v := .ref (yP y_5 a0 119)) G hP h_a0 iMo rfl 119 (by decide) rfl q3183 rfl rfl d_Mo_hole_29 ?_
          refine W.eq (g2 := F0 m 32 ls [.ref (yP y_5 a0 119), .long 1, .long x2h11]) rfl ?_
          refine lv_iload G.1 G.2.1 d_Mo_hole_32 (lv_at hl 3 rfl) ?_
          refine uiald G hP (kdp h_a0 rfl) (typ h_a0 rfl) h d_Mo_hole_34 (fun x_11 h => ?_)
          refine lv_lshl G.1 G.2.1 d_Mo_hole_35 rfl ?_
          refine lv_lor G.1 G.2.1 d_Mo_hole_36 ?_
          refine lv_lstore_n (lv' := [(2, .long (x2h11 ||| (1 <<< (x_11.toInt64 &&& 63)))), (0, .ref (ad a0)), (1, .int x1h11), (4, .int x4h11)]) G.1 G.2.1 d_Mo_hole_37 rfl hl (by decide) rfl (fun ls hl => ?_)
          refine lv_iinc (v := x4h11 + 1) (lv' := [(4, .int (x4h11 + 1)), (2, .long (x2h11 ||| (1 <<< (x_11.toInt64 &&& 63)))), (0, .ref (ad a0)), (1, .int x1h11)]) G.1 G.2.1 d_Mo_hole_38 hl (k := 3) rfl rfl (by decide) rfl (fun ls hl => ?_)
          refine lv_goto (tgt := 11) G.1 G.2.1 d_Mo_hole_41 (by decide) ?_
          have h := hK_11 y_5 s_4 (d_h11 + d_6) (e_h11 + e_7) x1h11 (x2h11 ||| (1 <<< (x_11.toInt64 &&& 63))) (x4h11 + 1) h
          exact ih_11 y_5 s_4 (d_h11 + d_6) (e_h11 + e_7) x1h11 (x2h11 ||| (1 <<< (x_11.toInt64 &&& 63))) (x4h11 + 1) (Nat.lt_of_lt_of_le h.2 (Nat.le_of_lt_succ hμ_11)) h.1 H locs hP hD hS ls (lv_sub hl [2, 3, 1, 0] rfl)
    exact L_11 _ y σ 0 0 v1 0 0 (Nat.lt_succ_self _) hI_11 H locs hP hD hS ls (lv_sub hl [2, 3, 1, 0] rfl)
  · skip
    have h := h.2 c1
    refine lv_iconst (v := (-1)) G.1 G.2.1 d_Mo_hole_4 (by decide) ?_
    exact hret _ (y, σ, 0, 0) _ _ _ _ _ ls h hP hD hS (Nat.le_refl _) (Nat.le_refl _) hd.1 hd.2 d_Mo_hole_5
theorem q4259 : Cond.methodLink "ClassWorksModel" 1344 y_Mo_together ∈ lw_ok := lw_okmem (List.mem_of_getElem? (i := 4259) (by decide +kernel)) rfl
theorem q4262 : Cond.code y_Mo_together b_Mo_together 6 (some (.long)) ∈ lw_ok := lw_okmem (List.mem_of_getElem? (i := 4262) (by decide +kernel)) rfl
theorem q4261 : Cond.instanceMethod y_Mo_together ∈ lw_ok := lw_okmem (List.mem_of_getElem? (i := 4261) (by decide +kernel)) rfl
theorem q324 : Cond.selects y_Mo_together.cls y_Mo_together y_Mo_together ∈ lw_ok := lw_okmem (List.mem_of_getElem? (i := 324) (by decide +kernel)) rfl
theorem w9_Mo_together : CWv y_Mo_together b_Mo_together 6 (some (.long)) 2 ∧ Cond.instanceMethod y_Mo_together ∈ lw_ok ∧ Cond.selects y_Mo_together.cls y_Mo_together y_Mo_together ∈ lw_ok := ⟨⟨q4262, q348, by decide +kernel, by decide +kernel, by decide +kernel⟩, q4261, q324⟩
def y_Mo_least : MethodName := ⟨"ClassWorksModel", "least", "()I"⟩
abbrev b_Mo_least : ByteArray := prog_14_method_206_code
theorem d_Mo_least_0 : decode b_Mo_least 0 = .ok (.iconst 0, 1) := by decide +kernel
theorem d_Mo_least_1 : decode b_Mo_least 1 = .ok (.istore_n 1, 1) := by decide +kernel
theorem d_Mo_least_2 : decode b_Mo_least 2 = .ok (.iload_n 1, 1) := by decide +kernel
theorem d_Mo_least_3 : decode b_Mo_least 3 = .ok (.aload_n 0, 1) := by decide +kernel
theorem d_Mo_least_4 : decode b_Mo_least 4 = .ok (.getfield 1314, 3) := by decide +kernel
theorem d_Mo_least_7 : decode b_Mo_least 7 = .ok (.if_icmp .ge 14, 3) := by decide +kernel
theorem d_Mo_least_10 : decode b_Mo_least 10 = .ok (.aload_n 0, 1) := by decide +kernel
theorem d_Mo_least_11 : decode b_Mo_least 11 = .ok (.iload_n 1, 1) := by decide +kernel
theorem d_Mo_least_12 : decode b_Mo_least 12 = .ok (.invokevirtual 1338, 3) := by decide +kernel
theorem d_Mo_least_15 : decode b_Mo_least 15 = .ok (.iinc 1 1, 3) := by decide +kernel
theorem d_Mo_least_18 : decode b_Mo_least 18 = .ok (.goto (-16), 3) := by decide +kernel
theorem d_Mo_least_21 : decode b_Mo_least 21 = .ok (.aload_n 0, 1) := by decide +kernel
theorem d_Mo_least_22 : decode b_Mo_least 22 = .ok (.bipush (-2), 2) := by decide +kernel
theorem d_Mo_least_24 : decode b_Mo_least 24 = .ok (.iconst 0, 1) := by decide +kernel
theorem d_Mo_least_25 : decode b_Mo_least 25 = .ok (.invokevirtual 1344, 3) := by decide +kernel
theorem d_Mo_least_28 : decode b_Mo_least 28 = .ok (.lstore_n 1, 1) := by decide +kernel
theorem d_Mo_least_29 : decode b_Mo_least 29 = .ok (.aload_n 0, 1) := by decide +kernel
theorem d_Mo_least_30 : decode b_Mo_least 30 = .ok (.bipush (-2), 2) := by decide +kernel
theorem d_Mo_least_32 : decode b_Mo_least 32 = .ok (.iconst 1, 1) := by decide +kernel
theorem d_Mo_least_33 : decode b_Mo_least 33 = .ok (.invokevirtual 1344, 3) := by decide +kernel
theorem d_Mo_least_36 : decode b_Mo_least 36 = .ok (.lstore_n 3, 1) := by decide +kernel
theorem d_Mo_least_37 : decode b_Mo_least 37 = .ok (.aload_n 0, 1) := by decide +kernel
theorem d_Mo_least_38 : decode b_Mo_least 38 = .ok (.getfield 1314, 3) := by decide +kernel
theorem d_Mo_least_41 : decode b_Mo_least 41 = .ok (.iconst 1, 1) := by decide +kernel
theorem d_Mo_least_42 : decode b_Mo_least 42 = .ok (.isub, 1) := by decide +kernel
theorem d_Mo_least_43 : decode b_Mo_least 43 = .ok (.istore 5, 2) := by decide +kernel
theorem d_Mo_least_45 : decode b_Mo_least 45 = .ok (.iload 5, 2) := by decide +kernel
theorem d_Mo_least_47 : decode b_Mo_least 47 = .ok (.ifCond .lt 146, 3) := by decide +kernel
theorem d_Mo_least_50 : decode b_Mo_least 50 = .ok (.aload_n 0, 1) := by decide +kernel
theorem d_Mo_least_51 : decode b_Mo_least 51 = .ok (.iload 5, 2) := by decide +kernel
theorem d_Mo_least_53 : decode b_Mo_least 53 = .ok (.iconst 0, 1) := by decide +kernel
theorem d_Mo_least_54 : decode b_Mo_least 54 = .ok (.invokevirtual 1344, 3) := by decide +kernel
theorem d_Mo_least_57 : decode b_Mo_least 57 = .ok (.lload_n 1, 1) := by decide +kernel
theorem d_Mo_least_58 : decode b_Mo_least 58 = .ok (.lcmp, 1) := by decide +kernel
theorem d_Mo_least_59 : decode b_Mo_least 59 = .ok (.ifCond .ne 128, 3) := by decide +kernel
theorem d_Mo_least_62 : decode b_Mo_least 62 = .ok (.aload_n 0, 1) := by decide +kernel
theorem d_Mo_least_63 : decode b_Mo_least 63 = .ok (.iload 5, 2) := by decide +kernel
theorem d_Mo_least_65 : decode b_Mo_least 65 = .ok (.iconst 1, 1) := by decide +kernel
theorem d_Mo_least_66 : decode b_Mo_least 66 = .ok (.invokevirtual 1344, 3) := by decide +kernel
theorem d_Mo_least_69 : decode b_Mo_least 69 = .ok (.lload_n 3, 1) := by decide +kernel
theorem d_Mo_least_70 : decode b_Mo_least 70 = .ok (.lcmp, 1) := by decide +kernel
theorem d_Mo_least_71 : decode b_Mo_least 71 = .ok (.ifCond .ne 116, 3) := by decide +kernel
theorem d_Mo_least_74 : decode b_Mo_least 74 = .ok (.iload 5, 2) := by decide +kernel
theorem d_Mo_least_76 : decode b_Mo_least 76 = .ok (.istore 6, 2) := by decide +kernel
theorem d_Mo_least_78 : decode b_Mo_least 78 = .ok (.iload 6, 2) := by decide +kernel
theorem d_Mo_least_80 : decode b_Mo_least 80 = .ok (.aload_n 0, 1) := by decide +kernel
theorem d_Mo_least_81 : decode b_Mo_least 81 = .ok (.getfield 1314, 3) := by decide +kernel
theorem d_Mo_least_84 : decode b_Mo_least 84 = .ok (.iconst 1, 1) := by decide +kernel
theorem d_Mo_least_85 : decode b_Mo_least 85 = .ok (.isub, 1) := by decide +kernel
theorem d_Mo_least_86 : decode b_Mo_least 86 = .ok (.if_icmp .ge 91, 3) := by decide +kernel
theorem d_Mo_least_89 : decode b_Mo_least 89 = .ok (.aload_n 0, 1) := by decide +kernel
theorem d_Mo_least_90 : decode b_Mo_least 90 = .ok (.getfield 372, 3) := by decide +kernel
theorem d_Mo_least_93 : decode b_Mo_least 93 = .ok (.sipush 1204, 3) := by decide +kernel
theorem d_Mo_least_96 : decode b_Mo_least 96 = .ok (.iload 6, 2) := by decide +kernel
theorem d_Mo_least_98 : decode b_Mo_least 98 = .ok (.iconst 1, 1) := by decide +kernel
theorem d_Mo_least_99 : decode b_Mo_least 99 = .ok (.iadd, 1) := by decide +kernel
theorem d_Mo_least_100 : decode b_Mo_least 100 = .ok (.imul, 1) := by decide +kernel
theorem d_Mo_least_101 : decode b_Mo_least 101 = .ok (.aload_n 0, 1) := by decide +kernel
theorem d_Mo_least_102 : decode b_Mo_least 102 = .ok (.getfield 372, 3) := by decide +kernel
theorem d_Mo_least_105 : decode b_Mo_least 105 = .ok (.sipush 1204, 3) := by decide +kernel
theorem d_Mo_least_108 : decode b_Mo_least 108 = .ok (.iload 6, 2) := by decide +kernel
theorem d_Mo_least_110 : decode b_Mo_least 110 = .ok (.imul, 1) := by decide +kernel
theorem d_Mo_least_111 : decode b_Mo_least 111 = .ok (.aload_n 0, 1) := by decide +kernel
theorem d_Mo_least_112 : decode b_Mo_least 112 = .ok (.getfield 375, 3) := by decide +kernel
theorem d_Mo_least_115 : decode b_Mo_least 115 = .ok (.iload 6, 2) := by decide +kernel
theorem d_Mo_least_117 : decode b_Mo_least 117 = .ok (.iconst 1, 1) := by decide +kernel
theorem d_Mo_least_118 : decode b_Mo_least 118 = .ok (.iadd, 1) := by decide +kernel
theorem d_Mo_least_119 : decode b_Mo_least 119 = .ok (.iaload, 1) := by decide +kernel
theorem d_Mo_least_120 : decode b_Mo_least 120 = .ok (.invokestatic 11, 3) := by decide +kernel
theorem d_Mo_least_123 : decode b_Mo_least 123 = .ok (.aload_n 0, 1) := by decide +kernel
theorem d_Mo_least_124 : decode b_Mo_least 124 = .ok (.getfield 375, 3) := by decide +kernel
theorem d_Mo_least_127 : decode b_Mo_least 127 = .ok (.iload 6, 2) := by decide +kernel
theorem d_Mo_least_129 : decode b_Mo_least 129 = .ok (.aload_n 0, 1) := by decide +kernel
theorem d_Mo_least_130 : decode b_Mo_least 130 = .ok (.getfield 375, 3) := by decide +kernel
theorem d_Mo_least_133 : decode b_Mo_least 133 = .ok (.iload 6, 2) := by decide +kernel
theorem d_Mo_least_135 : decode b_Mo_least 135 = .ok (.iconst 1, 1) := by decide +kernel
theorem d_Mo_least_136 : decode b_Mo_least 136 = .ok (.iadd, 1) := by decide +kernel
theorem d_Mo_least_137 : decode b_Mo_least 137 = .ok (.iaload, 1) := by decide +kernel
theorem d_Mo_least_138 : decode b_Mo_least 138 = .ok (.iastore, 1) := by decide +kernel
theorem d_Mo_least_139 : decode b_Mo_least 139 = .ok (.aload_n 0, 1) := by decide +kernel
theorem d_Mo_least_140 : decode b_Mo_least 140 = .ok (.getfield 381, 3) := by decide +kernel
theorem d_Mo_least_143 : decode b_Mo_least 143 = .ok (.iload 6, 2) := by decide +kernel
theorem d_Mo_least_145 : decode b_Mo_least 145 = .ok (.aload_n 0, 1) := by decide +kernel
theorem d_Mo_least_146 : decode b_Mo_least 146 = .ok (.getfield 381, 3) := by decide +kernel
theorem d_Mo_least_149 : decode b_Mo_least 149 = .ok (.iload 6, 2) := by decide +kernel
theorem d_Mo_least_151 : decode b_Mo_least 151 = .ok (.iconst 1, 1) := by decide +kernel
theorem d_Mo_least_152 : decode b_Mo_least 152 = .ok (.iadd, 1) := by decide +kernel
theorem d_Mo_least_153 : decode b_Mo_least 153 = .ok (.iaload, 1) := by decide +kernel
theorem d_Mo_least_154 : decode b_Mo_least 154 = .ok (.iastore, 1) := by decide +kernel
theorem d_Mo_least_155 : decode b_Mo_least 155 = .ok (.aload_n 0, 1) := by decide +kernel
theorem d_Mo_least_156 : decode b_Mo_least 156 = .ok (.getfield 384, 3) := by decide +kernel
theorem d_Mo_least_159 : decode b_Mo_least 159 = .ok (.iload 6, 2) := by decide +kernel
theorem d_Mo_least_161 : decode b_Mo_least 161 = .ok (.aload_n 0, 1) := by decide +kernel
theorem d_Mo_least_162 : decode b_Mo_least 162 = .ok (.getfield 384, 3) := by decide +kernel
theorem d_Mo_least_165 : decode b_Mo_least 165 = .ok (.iload 6, 2) := by decide +kernel
theorem d_Mo_least_167 : decode b_Mo_least 167 = .ok (.iconst 1, 1) := by decide +kernel
theorem d_Mo_least_168 : decode b_Mo_least 168 = .ok (.iadd, 1) := by decide +kernel
theorem d_Mo_least_169 : decode b_Mo_least 169 = .ok (.iaload, 1) := by decide +kernel
theorem d_Mo_least_170 : decode b_Mo_least 170 = .ok (.iastore, 1) := by decide +kernel
theorem d_Mo_least_171 : decode b_Mo_least 171 = .ok (.iinc 6 1, 3) := by decide +kernel
theorem d_Mo_least_174 : decode b_Mo_least 174 = .ok (.goto (-96), 3) := by decide +kernel
theorem d_Mo_least_177 : decode b_Mo_least 177 = .ok (.aload_n 0, 1) := by decide +kernel
theorem d_Mo_least_178 : decode b_Mo_least 178 = .ok (.dup, 1) := by decide +kernel
theorem d_Mo_least_179 : decode b_Mo_least 179 = .ok (.getfield 1314, 3) := by decide +kernel
theorem d_Mo_least_182 : decode b_Mo_least 182 = .ok (.iconst 1, 1) := by decide +kernel
theorem d_Mo_least_183 : decode b_Mo_least 183 = .ok (.isub, 1) := by decide +kernel
theorem d_Mo_least_184 : decode b_Mo_least 184 = .ok (.putfield 1314, 3) := by decide +kernel
theorem d_Mo_least_187 : decode b_Mo_least 187 = .ok (.iinc 5 (-1), 3) := by decide +kernel
theorem d_Mo_least_190 : decode b_Mo_least 190 = .ok (.goto (-145), 3) := by decide +kernel
theorem d_Mo_least_193 : decode b_Mo_least 193 = .ok (.aload_n 0, 1) := by decide +kernel
theorem d_Mo_least_194 : decode b_Mo_least 194 = .ok (.getfield 1314, 3) := by decide +kernel
theorem d_Mo_least_197 : decode b_Mo_least 197 = .ok (.ireturn, 1) := by decide +kernel
abbrev ra_Mo_least (mc ms : Nat) : Room := { frames := 477, cells := mc, slots := ms, locals := 11614 }
def wja_Mo_least_187 (mc ms : Nat) (Post : Ly → St → Int32 → Nat → Nat → Prop) (PX : Ly → St → Nat → Nat → Prop) (K_45 : Ly → St → Nat → Nat → Int64 → Int64 → Int32 → Prop) (a0 : Nat) (y_j187 : Ly) (s_j187 : St) (d_j187 e_j187 : Nat) (x1j187 : Int64) (x3j187 : Int64) (x5j187 : Int32) : Prop := (d_j187 ≤ mc ∧ e_j187 ≤ ms) ∧ K_45 y_j187 s_j187 d_j187 e_j187 x1j187 x3j187 (x5j187 + (-1))
def wba_Mo_least_78 (mc ms : Nat) (Post : Ly → St → Int32 → Nat → Nat → Prop) (PX : Ly → St → Nat → Nat → Prop) (K_45 : Ly → St → Nat → Nat → Int64 → Int64 → Int32 → Prop) (K_78 : Ly → St → Nat → Nat → Int64 → Int64 → Int32 → Int32 → Prop) (a0 : Nat) (y_h78 : Ly) (s_h78 : St) (d_h78 e_h78 : Nat) (x1h78 : Int64) (x3h78 : Int64) (x5h78 : Int32) (x6h78 : Int32) : Prop := (d_h78 ≤ mc ∧ e_h78 ≤ ms) ∧ ((((sV s_h78 a0 121) - 1) ≤ x6h78 → xP (uV s_h78 a0 121 ((sV s_h78 a0 121) - 1)) (fun s_9 : St => wja_Mo_least_187 mc ms Post PX K_45 a0 y_h78 s_9 d_h78 e_h78 x1h78 x3h78 x5h78)) ∧ (¬ (((sV s_h78 a0 121) - 1) ≤ x6h78) → xA y_h78 s_h78 a0 117 (x6h78 + 1) (fun x_10 : Int32 => xC y_h78 s_h78 a0 116 a0 116 .byte (1204 * (x6h78 + 1)) (1204 * x6h78) x_10 (fun s_11 : St => xA y_h78 s_11 a0 117 (x6h78 + 1) (fun x_12 : Int32 => xS y_h78 s_11 a0 117 x6h78 x_12 (fun s_13 : St => xA y_h78 s_13 a0 119 (x6h78 + 1) (fun x_14 : Int32 => xS y_h78 s_13 a0 119 x6h78 x_14 (fun s_15 : St => xA y_h78 s_15 a0 120 (x6h78 + 1) (fun x_16 : Int32 => xS y_h78 s_15 a0 120 x6h78 x_16 (fun s_17 : St => K_78 y_h78 s_17 d_h78 e_h78 x1h78 x3h78 x5h78 (x6h78 + 1)))))))))))
def wla_Mo_least_78 (mc ms : Nat) (Post : Ly → St → Int32 → Nat → Nat → Prop) (PX : Ly → St → Nat → Nat → Prop) (K_45 : Ly → St → Nat → Nat → Int64 → Int64 → Int32 → Prop) (a0 : Nat) (y_h78 : Ly) (s_h78 : St) (d_h78 e_h78 : Nat) (x1h78 : Int64) (x3h78 : Int64) (x5h78 : Int32) (x6h78 : Int32) : Prop := ∃ (I : Ly → St → Nat → Nat → Int64 → Int64 → Int32 → Int32 → Prop) (μ : Ly → St → Nat → Nat → Int64 → Int64 → Int32 → Int32 → Nat), I y_h78 s_h78 d_h78 e_h78 x1h78 x3h78 x5h78 x6h78 ∧ ∀ (u1 : Ly) (u2 : St) (u3 u4 : Nat) (t0 : Int64) (t1 : Int64) (t2 : Int32) (t3 : Int32), I u1 u2 u3 u4 t0 t1 t2 t3 → wba_Mo_least_78 mc ms Post PX K_45 (fun z1 z2 z3 z4 t0q t1q t2q t3q => I z1 z2 z3 z4 t0q t1q t2q t3q ∧ μ z1 z2 z3 z4 t0q t1q t2q t3q < μ u1 u2 u3 u4 t0 t1 t2 t3) a0 u1 u2 u3 u4 t0 t1 t2 t3
def wba_Mo_least_45 (mc ms : Nat) (Post : Ly → St → Int32 → Nat → Nat → Prop) (PX : Ly → St → Nat → Nat → Prop) (K_45 : Ly → St → Nat → Nat → Int64 → Int64 → Int32 → Prop) (a0 : Nat) (y_h45 : Ly) (s_h45 : St) (d_h45 e_h45 : Nat) (x1h45 : Int64) (x3h45 : Int64) (x5h45 : Int32) : Prop := (d_h45 ≤ mc ∧ e_h45 ≤ ms) ∧ ((x5h45 < 0 → Post y_h45 s_h45 (sV s_h45 a0 121) d_h45 e_h45) ∧ (¬ (x5h45 < 0) → wu_Mo_together y_h45 (fun (s_6 : St) (r_5 : Int64) => ((¬ (lg_cmp r_5 x1h45) = 0 → wja_Mo_least_187 mc ms Post PX K_45 a0 y_h45 s_6 d_h45 e_h45 x1h45 x3h45 x5h45) ∧ ((lg_cmp r_5 x1h45) = 0 → wu_Mo_together y_h45 (fun (s_8 : St) (r_7 : Int64) => ((¬ (lg_cmp r_7 x3h45) = 0 → wja_Mo_least_187 mc ms Post PX K_45 a0 y_h45 s_8 d_h45 e_h45 x1h45 x3h45 x5h45) ∧ ((lg_cmp r_7 x3h45) = 0 → wla_Mo_least_78 mc ms Post PX K_45 a0 y_h45 s_8 d_h45 e_h45 x1h45 x3h45 x5h45 x5h45))) s_6 a0 x5h45 1))) s_h45 a0 x5h45 0))
def wla_Mo_least_45 (mc ms : Nat) (Post : Ly → St → Int32 → Nat → Nat → Prop) (PX : Ly → St → Nat → Nat → Prop) (a0 : Nat) (y_h45 : Ly) (s_h45 : St) (d_h45 e_h45 : Nat) (x1h45 : Int64) (x3h45 : Int64) (x5h45 : Int32) : Prop := ∃ (I : Ly → St → Nat → Nat → Int64 → Int64 → Int32 → Prop) (μ : Ly → St → Nat → Nat → Int64 → Int64 → Int32 → Nat), I y_h45 s_h45 d_h45 e_h45 x1h45 x3h45 x5h45 ∧ ∀ (u1 : Ly) (u2 : St) (u3 u4 : Nat) (t0 : Int64) (t1 : Int64) (t2 : Int32), I u1 u2 u3 u4 t0 t1 t2 → wba_Mo_least_45 mc ms Post PX (fun z1 z2 z3 z4 t0q t1q t2q => I z1 z2 z3 z4 t0q t1q t2q ∧ μ z1 z2 z3 z4 t0q t1q t2q < μ u1 u2 u3 u4 t0 t1 t2) a0 u1 u2 u3 u4 t0 t1 t2
def wba_Mo_least_2 (mc ms : Nat) (Post : Ly → St → Int32 → Nat → Nat → Prop) (PX : Ly → St → Nat → Nat → Prop) (K_2 : Ly → St → Nat → Nat → Int32 → Prop) (a0 : Nat) (y_h2 : Ly) (s_h2 : St) (d_h2 e_h2 : Nat) (x1h2 : Int32) : Prop := (d_h2 ≤ mc ∧ e_h2 ≤ ms) ∧ (((sV s_h2 a0 121) ≤ x1h2 → wu_Mo_together y_h2 (fun (s_2 : St) (r_1 : Int64) => wu_Mo_together y_h2 (fun (s_4 : St) (r_3 : Int64) => wla_Mo_least_45 mc ms Post PX a0 y_h2 s_4 d_h2 e_h2 r_1 r_3 ((sV s_4 a0 121) - 1)) s_2 a0 (-2) 1) s_h2 a0 (-2) 0) ∧ (¬ ((sV s_h2 a0 121) ≤ x1h2) → ∃ mc_23 ms_24 : Nat, (d_h2 + mc_23 ≤ mc ∧ e_h2 + ms_24 ≤ ms) ∧ wx_Mo_look mc_23 ms_24 y_h2 (fun (y_20 : Ly) (s_19 : St) (d_21 e_22 : Nat) => (d_h2 + d_21 ≤ mc ∧ e_h2 + e_22 ≤ ms) ∧ K_2 y_20 s_19 (d_h2 + d_21) (e_h2 + e_22) (x1h2 + 1)) (fun (y_20 : Ly) (s_19 : St) (d_21 e_22 : Nat) => ((d_h2 + d_21 ≤ mc ∧ e_h2 + e_22 ≤ ms) ∧ PX y_20 s_19 (d_h2 + d_21) (e_h2 + e_22))) s_h2 a0 x1h2))
def wla_Mo_least_2 (mc ms : Nat) (Post : Ly → St → Int32 → Nat → Nat → Prop) (PX : Ly → St → Nat → Nat → Prop) (a0 : Nat) (y_h2 : Ly) (s_h2 : St) (d_h2 e_h2 : Nat) (x1h2 : Int32) : Prop := ∃ (I : Ly → St → Nat → Nat → Int32 → Prop) (μ : Ly → St → Nat → Nat → Int32 → Nat), I y_h2 s_h2 d_h2 e_h2 x1h2 ∧ ∀ (u1 : Ly) (u2 : St) (u3 u4 : Nat) (t0 : Int32), I u1 u2 u3 u4 t0 → wba_Mo_least_2 mc ms Post PX (fun z1 z2 z3 z4 t0q => I z1 z2 z3 z4 t0q ∧ μ z1 z2 z3 z4 t0q < μ u1 u2 u3 u4 t0) a0 u1 u2 u3 u4 t0
def wx_Mo_least (mc ms : Nat) (y : Ly) (Post : Ly → St → Int32 → Nat → Nat → Prop) (PX : Ly → St → Nat → Nat → Prop) (σ : St) (a0 : Nat) : Prop := wla_Mo_least_2 mc ms Post PX a0 y σ 0 0 0
set_option maxHeartbeats 4000000 in
set_option maxRecDepth 100000 in
theorem cx_Mo_least (l : Launch) (D : va_G) (g : Nat → ClassId) (ad : Nat → Nat) (mc ms : Nat) (y : Ly) (Post : Ly → St → Int32 → Nat → Nat → Prop) (PX : Ly → St → Nat → Nat → Prop) (σ : St) (a0 : Nat) (sz uz : Nat) (h_a0 : cl a0 = 14) (h : wx_Mo_least mc ms y Post PX σ a0) : vx_Met l y_Mo_least (mw y_Mo_least b_Mo_least 7 (some .int)) (ra_Mo_least mc ms) (PCu g D [] [.ref (ad a0)] sz uz (ws g ad y σ)) (va_Qi (fun (r : Int32) (u : Ly × St × Nat × Nat) => Post u.1 u.2.1 r u.2.2.1 u.2.2.2) (QU D (va_A (ws g ad y σ) sz) (fun u => ws g ad u.1 u.2.1) sz uz (fun u => u.2.2.1) (fun u => u.2.2.2)) (va_A (ws g ad y σ) sz)) (XQ D g ad (va_A (ws g ad y σ) sz) sz uz PX) mc ms (va_A (ws g ad y σ) sz) := by
  refine ofIx (by decide +kernel) (Nat.le_of_ble_eq_true rfl) ?_
  intro p e s m args below meth c A Q ls H locs G hsz hP hD hS hl hret hretX
  subst hsz
  have hl : lv_has ls 7 [(0, .ref (ad a0))] := hl
  have hd : 0 ≤ mc ∧ 0 ≤ ms := ⟨Nat.zero_le _, Nat.zero_le _⟩
  unfold wx_Mo_least at h
  refine lv_iconst (v := 0) G.1 G.2.1 d_Mo_least_0 (by decide) ?_
  refine lv_istore_n (lv' := [(1, .int 0), (0, .ref (ad a0))]) G.1 G.2.1 d_Mo_least_1 rfl hl (by decide) rfl (fun ls hl => ?_)
  unfold wla_Mo_least_2 at h
  obtain ⟨I_2, μ_2, hI_2, hB_2⟩ := h
  have L_2 : ∀ (n_2 : Nat) (y_h2 : Ly) (s_h2 : St) (d_h2 e_h2 : Nat) (x1h2 : Int32), μ_2 y_h2 s_h2 d_h2 e_h2 x1h2 < n_2 → I_2 y_h2 s_h2 d_h2 e_h2 x1h2 → ∀ (H : Heap) (locs : List Loc), va_P D CL (ws g ad y_h2 s_h2) H → va_D A (ws g ad y_h2 s_h2) → va_S A s.heap H locs → ∀ ls, lv_has ls 7 [(0, .ref (ad a0)), (1, .int x1h2)] → W p l e (ra_Mo_least mc ms) s m args below meth c H locs d_h2 e_h2 Q (F0 m 2 ls []) := by
    intro n_2
    induction n_2 with
    | zero => intro y_h2 s_h2 d_h2 e_h2 x1h2 hμ; exact absurd hμ (Nat.not_lt_zero _)
    | succ n_2 ih_2 =>
      intro y_h2 s_h2 d_h2 e_h2 x1h2 hμ_2 hJ H locs hP hD hS ls hl
      obtain ⟨K_2, hK_2, h⟩ : ∃ K : Ly → St → Nat → Nat → Int32 → Prop, (∀ z1 z2 z3 z4 (t0 : Int32), K z1 z2 z3 z4 t0 → I_2 z1 z2 z3 z4 t0 ∧ μ_2 z1 z2 z3 z4 t0 < μ_2 y_h2 s_h2 d_h2 e_h2 x1h2) ∧ wba_Mo_least_2 mc ms Post PX K a0 y_h2 s_h2 d_h2 e_h2 x1h2 := ⟨_, fun _ _ _ _ _ h => h, hB_2 y_h2 s_h2 d_h2 e_h2 x1h2 hJ⟩
      unfold wba_Mo_least_2 at h
      obtain ⟨hd, h⟩ := h
      refine lv_iload_n G.1 G.2.1 d_Mo_least_2 rfl (lv_at hl 1 rfl) ?_
      refine lv_aload_n G.1 G.2.1 d_Mo_least_3 rfl (lv_at hl 0 rfl) ?_
      refine ugf (v := .int (sV s_h2 a0 121)) G hP h_a0 iMo rfl 121 (by decide) rfl q3185 rfl rfl d_Mo_least_4 ?_
      refine lv_icmp_ge (tgt := 21) G.1 G.2.1 d_Mo_least_7 (by decide) (fun c7 => ?_) (fun c7 => ?_)
      · skip
        have h := h.1 c7
        refine lv_aload_n G.1 G.2.1 d_Mo_least_21 rfl (lv_at hl 0 rfl) ?_
        refine lv_bipush (v := (-2)) G.1 G.2.1 d_Mo_least_22 (by decide) ?_
        refine lv_iconst (v := 0) G.1 G.2.1 d_Mo_least_24 (by decide) ?_
        refine ucVl (As := [.int (-2), .int 0]) (rest := []) G hP hD hS (cu_Mo_together l D g ad y_h2 _ s_h2 a0 (-2) 0 H.size h_a0 h) w9_Mo_together q4259 ⟨Nat.le_of_ble_eq_true rfl, Nat.le_of_ble_eq_true rfl⟩ rfl rfl h_a0 (q := (RMo, TMo, 131)) rfl rfl hl.1 rfl (Nat.le_of_ble_eq_true rfl) rfl hd d_Mo_least_25 (fun r_1 s_2 H locs h hP hD hS => ?_)
        refine lv_lstore_n (lv' := [(1, .long r_1), (0, .ref (ad a0))]) G.1 G.2.1 d_Mo_least_28 rfl hl (by decide) rfl (fun ls hl => ?_)
        refine lv_aload_n G.1 G.2.1 d_Mo_least_29 rfl (lv_at hl 1 rfl) ?_
        refine lv_bipush (v := (-2)) G.1 G.2.1 d_Mo_least_30 (by decide) ?_
        refine W.eq (g2 := F0 m 32 ls [.int (-2), .ref (ad a0)]) rfl ?_
        refine lv_iconst (v := 1) G.1 G.2.1 d_Mo_least_32 (by decide) ?_
        refine ucVl (As := [.int (-2), .int 1]) (rest := []) G hP hD hS (cu_Mo_together l D g ad y_h2 _ s_2 a0 (-2) 1 H.size h_a0 h) w9_Mo_together q4259 ⟨Nat.le_of_ble_eq_true rfl, Nat.le_of_ble_eq_true rfl⟩ rfl rfl h_a0 (q := (RMo, TMo, 131)) rfl rfl hl.1 rfl (Nat.le_of_ble_eq_true rfl) rfl hd d_Mo_least_33 (fun r_3 s_4 H locs h hP hD hS => ?_)
        refine lv_lstore_n (lv' := [(3, .long r_3), (1, .long r_1), (0, .ref (ad a0))]) G.1 G.2.1 d_Mo_least_36 rfl hl (by decide) rfl (fun ls hl => ?_)
        refine lv_aload_n G.1 G.2.1 d_Mo_least_37 rfl (lv_at hl 2 rfl) ?_
        refine ugf (v := .int (sV s_4 a0 121)) G hP h_a0 iMo rfl 121 (by decide) rfl q3185 rfl rfl d_Mo_least_38 ?_
        refine lv_iconst (v := 1) G.1 G.2.1 d_Mo_least_41 (by decide) ?_
        refine lv_isub G.1 G.2.1 d_Mo_least_42 ?_
        refine lv_istore (lv' := [(5, .int ((sV s_4 a0 121) - 1)), (3, .long r_3), (1, .long r_1), (0, .ref (ad a0))]) G.1 G.2.1 d_Mo_least_43 hl (by decide) rfl (fun ls hl => ?_)
        unfold wla_Mo_least_45 at h
        obtain ⟨I_45, μ_45, hI_45, hB_45⟩ := h
        have L_45 : ∀ (n_45 : Nat) (y_h45 : Ly) (s_h45 : St) (d_h45 e_h45 : Nat) (x1h45 : Int64) (x3h45 : Int64) (x5h45 : Int32), μ_45 y_h45 s_h45 d_h45 e_h45 x1h45 x3h45 x5h45 < n_45 → I_45 y_h45 s_h45 d_h45 e_h45 x1h45 x3h45 x5h45 → ∀ (H : Heap) (locs : List Loc), va_P D CL (ws g ad y_h45 s_h45) H → va_D A (ws g ad y_h45 s_h45) → va_S A s.heap H locs → ∀ ls, lv_has ls 7 [(0, .ref (ad a0)), (1, .long x1h45), (3, .long x3h45), (5, .int x5h45)] → W p l e (ra_Mo_least mc ms) s m args below meth c H locs d_h45 e_h45 Q (F0 m 45 ls []) := by
          intro n_45
          induction n_45 with
          | zero => intro y_h45 s_h45 d_h45 e_h45 x1h45 x3h45 x5h45 hμ; exact absurd hμ (Nat.not_lt_zero _)
          | succ n_45 ih_45 =>
            intro y_h45 s_h45 d_h45 e_h45 x1h45 x3h45 x5h45 hμ_45 hJ H locs hP hD hS ls hl
            obtain ⟨K_45, hK_45, h⟩ : ∃ K : Ly → St → Nat → Nat → Int64 → Int64 → Int32 → Prop, (∀ z1 z2 z3 z4 (t0 : Int64) (t1 : Int64) (t2 : Int32), K z1 z2 z3 z4 t0 t1 t2 → I_45 z1 z2 z3 z4 t0 t1 t2 ∧ μ_45 z1 z2 z3 z4 t0 t1 t2 < μ_45 y_h45 s_h45 d_h45 e_h45 x1h45 x3h45 x5h45) ∧ wba_Mo_least_45 mc ms Post PX K a0 y_h45 s_h45 d_h45 e_h45 x1h45 x3h45 x5h45 := ⟨_, fun _ _ _ _ _ _ _ h => h, hB_45 y_h45 s_h45 d_h45 e_h45 x1h45 x3h45 x5h45 hJ⟩
            unfold wba_Mo_least_45 at h
            obtain ⟨hd, h⟩ := h
            refine lv_iload G.1 G.2.1 d_Mo_least_45 (lv_at hl 3 rfl) ?_
            refine lv_if_lt (tgt := 193) G.1 G.2.1 d_Mo_least_47 (by decide) (fun c47 => ?_) (fun c47 => ?_)
            · skip
              have h := h.1 c47
              refine lv_aload_n G.1 G.2.1 d_Mo_least_193 rfl (lv_at hl 0 rfl) ?_
              refine ugf (v := .int (sV s_h45 a0 121)) G hP h_a0 iMo rfl 121 (by decide) rfl q3185 rfl rfl d_Mo_least_194 ?_
              exact hret _ (y_h45, s_h45, d_h45, e_h45) _ _ _ _ _ ls h hP hD hS (Nat.le_refl _) (Nat.le_refl _) hd.1 hd.2 d_Mo_least_197
            · skip
              have h := h.2 c47
              refine lv_aload_n G.1 G.2.1 d_Mo_least_50 rfl (lv_at hl 0 rfl) ?_
              refine lv_iload G.1 G.2.1 d_Mo_least_51 (lv_at hl 3 rfl) ?_
              refine lv_iconst (v := 0) G.1 G.2.1 d_Mo_least_53 (by decide) ?_
              refine ucVl (As := [.int x5h45, .int 0]) (rest := []) G hP hD hS (cu_Mo_together l D g ad y_h45 _ s_h45 a0 x5h45 0 H.size h_a0 h) w9_Mo_together q4259 ⟨Nat.le_of_ble_eq_true rfl, Nat.le_of_ble_eq_true rfl⟩ rfl rfl h_a0 (q := (RMo, TMo, 131)) rfl rfl hl.1 rfl (Nat.le_of_ble_eq_true rfl) rfl hd d_Mo_least_54 (fun r_5 s_6 H locs h hP hD hS => ?_)
              refine lv_lload_n G.1 G.2.1 d_Mo_least_57 rfl (lv_at hl 1 rfl) ?_
              refine W.lcmp G.1 G.2.1 d_Mo_least_58 ?_
              have J_187 : ∀ (y_j187 : Ly) (s_j187 : St) (d_j187 e_j187 : Nat) (x1j187 : Int64) (x3j187 : Int64) (x5j187 : Int32) (H : Heap) (locs : List Loc), wja_Mo_least_187 mc ms Post PX K_45 a0 y_j187 s_j187 d_j187 e_j187 x1j187 x3j187 x5j187 → va_P D CL (ws g ad y_j187 s_j187) H → va_D A (ws g ad y_j187 s_j187) → va_S A s.heap H locs → ∀ ls, lv_has ls 7 [(0, .ref (ad a0)), (1, .long x1j187), (3, .long x3j187), (5, .int x5j187)] → W p l e (ra_Mo_least mc ms) s m args below meth c H locs d_j187 e_j187 Q (F0 m 187 ls []) := by
                intro y_j187 s_j187 d_j187 e_j187 x1j187 x3j187 x5j187 H locs h hP hD hS ls hl
                unfold wja_Mo_least_187 at h
                obtain ⟨hd, h⟩ := h
                refine lv_iinc (v := x5j187 + (-1)) (lv' := [(5, .int (x5j187 + (-1))), (0, .ref (ad a0)), (1, .long x1j187), (3, .long x3j187)]) G.1 G.2.1 d_Mo_least_187 hl (k := 3) rfl rfl (by decide) rfl (fun ls hl => ?_)
                refine lv_goto (tgt := 45) G.1 G.2.1 d_Mo_least_190 (by decide) ?_
                have h := hK_45 y_j187 s_j187 d_j187 e_j187 x1j187 x3j187 (x5j187 + (-1)) h
                exact ih_45 y_j187 s_j187 d_j187 e_j187 x1j187 x3j187 (x5j187 + (-1)) (Nat.lt_of_lt_of_le h.2 (Nat.le_of_lt_succ hμ_45)) h.1 H locs hP hD hS ls (lv_sub hl [1, 2, 3, 0] rfl)
              refine lv_if_ne (tgt := 187) G.1 G.2.1 d_Mo_least_59 (by decide) (fun c59 => ?_) (fun c59 => ?_)
              · skip
                have h := h.1 c59
                exact J_187 y_h45 s_6 d_h45 e_h45 x1h45 x3h45 x5h45 H locs h hP hD hS ls (lv_sub hl [0, 1, 2, 3] rfl)
              · skip
                have h := h.2 c59
                refine lv_aload_n G.1 G.2.1 d_Mo_least_62 rfl (lv_at hl 0 rfl) ?_
                refine lv_iload G.1 G.2.1 d_Mo_least_63 (lv_at hl 3 rfl) ?_
                refine W.eq (g2 := F0 m 65 ls [.int x5h45, .ref (ad a0)]) rfl ?_
                refine lv_iconst (v := 1) G.1 G.2.1 d_Mo_least_65 (by decide) ?_
                refine ucVl (As := [.int x5h45, .int 1]) (rest := []) G hP hD hS (cu_Mo_together l D g ad y_h45 _ s_6 a0 x5h45 1 H.size h_a0 h) w9_Mo_together q4259 ⟨Nat.le_of_ble_eq_true rfl, Nat.le_of_ble_eq_true rfl⟩ rfl rfl h_a0 (q := (RMo, TMo, 131)) rfl rfl hl.1 rfl (Nat.le_of_ble_eq_true rfl) rfl hd d_Mo_least_66 (fun r_7 s_8 H locs h hP hD hS => ?_)
                refine lv_lload_n G.1 G.2.1 d_Mo_least_69 rfl (lv_at hl 2 rfl) ?_
                refine W.lcmp G.1 G.2.1 d_Mo_least_70 ?_
                refine lv_if_ne (tgt := 187) G.1 G.2.1 d_Mo_least_71 (by decide) (fun c71 => ?_) (fun c71 => ?_)
                · skip
                  have h := h.1 c71
                  exact J_187 y_h45 s_8 d_h45 e_h45 x1h45 x3h45 x5h45 H locs h hP hD hS ls (lv_sub hl [0, 1, 2, 3] rfl)
                · skip
                  have h := h.2 c71
                  refine lv_iload G.1 G.2.1 d_Mo_least_74 (lv_at hl 3 rfl) ?_
                  refine lv_istore (lv' := [(6, .int x5h45), (0, .ref (ad a0)), (1, .long x1h45), (3, .long x3h45), (5, .int x5h45)]) G.1 G.2.1 d_Mo_least_76 hl (by decide) rfl (fun ls hl => ?_)
                  unfold wla_Mo_least_78 at h
                  obtain ⟨I_78, μ_78, hI_78, hB_78⟩ := h
                  have L_78 : ∀ (n_78 : Nat) (y_h78 : Ly) (s_h78 : St) (d_h78 e_h78 : Nat) (x1h78 : Int64) (x3h78 : Int64) (x5h78 : Int32) (x6h78 : Int32), μ_78 y_h78 s_h78 d_h78 e_h78 x1h78 x3h78 x5h78 x6h78 < n_78 → I_78 y_h78 s_h78 d_h78 e_h78 x1h78 x3h78 x5h78 x6h78 → ∀ (H : Heap) (locs : List Loc), va_P D CL (ws g ad y_h78 s_h78) H → va_D A (ws g ad y_h78 s_h78) → va_S A s.heap H locs → ∀ ls, lv_has ls 7 [(0, .ref (ad a0)), (1, .long x1h78), (3, .long x3h78), (5, .int x5h78), (6, .int x6h78)] → W p l e (ra_Mo_least mc ms) s m args below meth c H locs d_h78 e_h78 Q (F0 m 78 ls []) := by
                    intro n_78
                    induction n_78 with
                    | zero => intro y_h78 s_h78 d_h78 e_h78 x1h78 x3h78 x5h78 x6h78 hμ; exact absurd hμ (Nat.not_lt_zero _)
                    | succ n_78 ih_78 =>
                      intro y_h78 s_h78 d_h78 e_h78 x1h78 x3h78 x5h78 x6h78 hμ_78 hJ H locs hP hD hS ls hl
                      obtain ⟨K_78, hK_78, h⟩ : ∃ K : Ly → St → Nat → Nat → Int64 → Int64 → Int32 → Int32 → Prop, (∀ z1 z2 z3 z4 (t0 : Int64) (t1 : Int64) (t2 : Int32) (t3 : Int32), K z1 z2 z3 z4 t0 t1 t2 t3 → I_78 z1 z2 z3 z4 t0 t1 t2 t3 ∧ μ_78 z1 z2 z3 z4 t0 t1 t2 t3 < μ_78 y_h78 s_h78 d_h78 e_h78 x1h78 x3h78 x5h78 x6h78) ∧ wba_Mo_least_78 mc ms Post PX K_45 K a0 y_h78 s_h78 d_h78 e_h78 x1h78 x3h78 x5h78 x6h78 := ⟨_, fun _ _ _ _ _ _ _ _ h => h, hB_78 y_h78 s_h78 d_h78 e_h78 x1h78 x3h78 x5h78 x6h78 hJ⟩
                      unfold wba_Mo_least_78 at h
                      obtain ⟨hd, h⟩ := h
                      refine lv_iload G.1 G.2.1 d_Mo_least_78 (lv_at hl 4 rfl) ?_
                      refine lv_aload_n G.1 G.2.1 d_Mo_least_80 rfl (lv_at hl 0 rfl) ?_
                      refine ugf (v := .int (sV s_h78 a0 121)) G hP h_a0 iMo rfl 121 (by decide) rfl q3185 rfl rfl d_Mo_least_81 ?_
                      refine lv_iconst (v := 1) G.1 G.2.1 d_Mo_least_84 (by decide) ?_
                      refine lv_isub G.1 G.2.1 d_Mo_least_85 ?_
                      refine lv_icmp_ge (tgt := 177) G.1 G.2.1 d_Mo_least_86 (by decide) (fun c86 => ?_) (fun c86 => ?_)
                      · skip
                        have h := h.1 c86
                        refine lv_aload_n G.1 G.2.1 d_Mo_least_177 rfl (lv_at hl 0 rfl) ?_
                        refine lv_dup G.1 G.2.1 d_Mo_least_178 rfl ?_
                        refine ugf (v := .int (sV s_h78 a0 121)) G hP h_a0 iMo rfl 121 (by decide) rfl q3185 rfl rfl d_Mo_least_179 ?_
                        refine lv_iconst (v := 1) G.1 G.2.1 d_Mo_least_182 (by decide) ?_
                        refine lv_isub G.1 G.2.1 d_Mo_least_183 ?_
                        refine W.eq (g2 := F0 m 184 ls [.int ((sV s_h78 a0 121) - 1), .ref (ad a0)]) rfl ?_
                        refine upf G hP hD hS h 121 putV h_a0 iMo tMo tMo_ok nMo rfl (by decide) rfl q3185 rfl rfl fV rfl rfl d_Mo_least_184 (fun s_9 H locs h hP hD hS => ?_)
                        exact J_187 y_h78 s_9 d_h78 e_h78 x1h78 x3h78 x5h78 H locs h hP hD hS ls (lv_sub hl [0, 1, 2, 3] rfl)
                      · skip
                        have h := h.2 c86
                        refine lv_aload_n G.1 G.2.1 d_Mo_least_89 rfl (lv_at hl 0 rfl) ?_
                        refine ugf (v := .ref (yP y_h78 a0 116)) G hP h_a0 iMo rfl 116 (by decide) rfl q3180 rfl rfl d_Mo_least_90 ?_
                        refine lv_sipush (v := 1204) G.1 G.2.1 d_Mo_least_93 (by decide) ?_
                        refine lv_iload G.1 G.2.1 d_Mo_least_96 (lv_at hl 4 rfl) ?_
                        refine lv_iconst (v := 1) G.1 G.2.1 d_Mo_least_98 (by decide) ?_
                        refine W.eq (g2 := F0 m 99 ls [.int 1, .int x6h78, .int 1204, .ref (yP y_h78 a0 116)]) rfl ?_
                        refine lv_iadd G.1 G.2.1 d_Mo_least_99 ?_
                        refine lv_imul G.1 G.2.1 d_Mo_least_100 ?_
                        refine lv_aload_n G.1 G.2.1 d_Mo_least_101 rfl (lv_at hl 0 rfl) ?_
                        refine ugf (v := .ref (yP y_h78 a0 116)) G hP h_a0 iMo rfl 116 (by decide) rfl q3180 rfl rfl d_Mo_least_102 ?_
                        refine lv_sipush (v := 1204) G.1 G.2.1 d_Mo_least_105 (by decide) ?_
                        refine lv_iload G.1 G.2.1 d_Mo_least_108 (lv_at hl 4 rfl) ?_
                        refine lv_imul G.1 G.2.1 d_Mo_least_110 ?_
                        refine lv_aload_n G.1 G.2.1 d_Mo_least_111 rfl (lv_at hl 0 rfl) ?_
                        refine ugf (v := .ref (yP y_h78 a0 117)) G hP h_a0 iMo rfl 117 (by decide) rfl q3181 rfl rfl d_Mo_least_112 ?_
                        refine lv_iload G.1 G.2.1 d_Mo_least_115 (lv_at hl 4 rfl) ?_
                        refine lv_iconst (v := 1) G.1 G.2.1 d_Mo_least_117 (by decide) ?_
                        refine lv_iadd G.1 G.2.1 d_Mo_least_118 ?_
                        refine W.eq (g2 := F0 m 119 ls [.int (x6h78 + 1), .ref (yP y_h78 a0 117), .int (1204 * x6h78), .ref (yP y_h78 a0 116), .int (1204 * (x6h78 + 1)), .ref (yP y_h78 a0 116)]) rfl ?_
                        refine uiald G hP (kdp h_a0 rfl) (typ h_a0 rfl) h d_Mo_least_119 (fun x_10 h => ?_)
                        refine ucpy G hP hD hS (kdp h_a0 rfl) (typ h_a0 rfl) (kdp h_a0 rfl) (typ h_a0 rfl) rfl rfl h hl.1 q2595 q488 q487 q338 (Nat.le_of_ble_eq_true rfl) (Nat.le_of_ble_eq_true rfl) d_Mo_least_120 (fun s_11 H locs h hP hD hS => ?_)
                        refine lv_aload_n G.1 G.2.1 d_Mo_least_123 rfl (lv_at hl 0 rfl) ?_
                        refine ugf (v := .ref (yP y_h78 a0 117)) G hP h_a0 iMo rfl 117 (by decide) rfl q3181 rfl rfl d_Mo_least_124 ?_
                        refine lv_iload G.1 G.2.1 d_Mo_least_127 (lv_at hl 4 rfl) ?_
                        refine lv_aload_n G.1 G.2.1 d_Mo_least_129 rfl (lv_at hl 0 rfl) ?_
                        refine ugf (v := .ref (yP y_h78 a0 117)) G hP h_a0 iMo rfl 117 (by decide) rfl q3181 rfl rfl d_Mo_least_130 ?_
                        refine lv_iload G.1 G.2.1 d_Mo_least_133 (lv_at hl 4 rfl) ?_
                        refine lv_iconst (v := 1) G.1 G.2.1 d_Mo_least_135 (by decide) ?_
                        refine lv_iadd G.1 G.2.1 d_Mo_least_136 ?_
                        refine uiald G hP (kdp h_a0 rfl) (typ h_a0 rfl) h d_Mo_least_137 (fun x_12 h => ?_)
                        refine uiast G hP hD hS (kdp h_a0 rfl) (typ h_a0 rfl) h d_Mo_least_138 (fun s_13 H locs h hP hD hS => ?_)
                        refine W.eq (g2 := F0 m 139 ls []) rfl ?_
                        refine lv_aload_n G.1 G.2.1 d_Mo_least_139 rfl (lv_at hl 0 rfl) ?_
                        refine ugf (v := .ref (yP y_h78 a0 119)) G hP h_a0 iMo rfl 119 (by decide) rfl q3183 rfl rfl d_Mo_least_140 ?_
                        refine lv_iload G.1 G.2.1 d_Mo_least_143 (lv_at hl 4 rfl) ?_
                        refine lv_aload_n G.1 G.2.1 d_Mo_least_145 rfl (lv_at hl 0 rfl) ?_
                        refine ugf (v := .ref (yP y_h78 a0 119)) G hP h_a0 iMo rfl 119 (by decide) rfl q3183 rfl rfl d_Mo_least_146 ?_
                        refine lv_iload G.1 G.2.1 d_Mo_least_149 (lv_at hl 4 rfl) ?_
                        refine lv_iconst (v := 1) G.1 G.2.1 d_Mo_least_151 (by decide) ?_
                        refine lv_iadd G.1 G.2.1 d_Mo_least_152 ?_
                        refine uiald G hP (kdp h_a0 rfl) (typ h_a0 rfl) h d_Mo_least_153 (fun x_14 h => ?_)
                        refine uiast G hP hD hS (kdp h_a0 rfl) (typ h_a0 rfl) h d_Mo_least_154 (fun s_15 H locs h hP hD hS => ?_)
                        refine lv_aload_n G.1 G.2.1 d_Mo_least_155 rfl (lv_at hl 0 rfl) ?_
                        refine ugf (v := .ref (yP y_h78 a0 120)) G hP h_a0 iMo rfl 120 (by decide) rfl q3184 rfl rfl d_Mo_least_156 ?_
                        refine W.eq (g2 := F0 m 159 ls [.ref (yP y_h78 a0 120)]) rfl ?_
                        refine lv_iload G.1 G.2.1 d_Mo_least_159 (lv_at hl 4 rfl) ?_
                        refine lv_aload_n G.1 G.2.1 d_Mo_least_161 rfl (lv_at hl 0 rfl) ?_
                        refine ugf (v := .ref (yP y_h78 a0 120)) G hP h_a0 iMo rfl 120 (by decide) rfl q3184 rfl rfl d_Mo_least_162 ?_
                        refine lv_iload G.1 G.2.1 d_Mo_least_165 (lv_at hl 4 rfl) ?_
                        refine lv_iconst (v := 1) G.1 G.2.1 d_Mo_least_167 (by decide) ?_
                        refine lv_iadd G.1 G.2.1 d_Mo_least_168 ?_
                        refine uiald G hP (kdp h_a0 rfl) (typ h_a0 rfl) h d_Mo_least_169 (fun x_16 h => ?_)
                        refine uiast G hP hD hS (kdp h_a0 rfl) (typ h_a0 rfl) h d_Mo_least_170 (fun s_17 H locs h hP hD hS => ?_)
                        refine lv_iinc (v := x6h78 + 1) (lv' := [(6, .int (x6h78 + 1)), (0, .ref (ad a0)), (1, .long x1h78), (3, .long x3h78), (5, .int x5h78)]) G.1 G.2.1 d_Mo_least_171 hl (k := 4) rfl rfl (by decide) rfl (fun ls hl => ?_)
                        refine lv_goto (tgt := 78) G.1 G.2.1 d_Mo_least_174 (by decide) ?_
                        have h := hK_78 y_h78 s_17 d_h78 e_h78 x1h78 x3h78 x5h78 (x6h78 + 1) h
                        exact ih_78 y_h78 s_17 d_h78 e_h78 x1h78 x3h78 x5h78 (x6h78 + 1) (Nat.lt_of_lt_of_le h.2 (Nat.le_of_lt_succ hμ_78)) h.1 H locs hP hD hS ls (lv_sub hl [1, 2, 3, 4, 0] rfl)
                  exact L_78 _ y_h45 s_8 d_h45 e_h45 x1h45 x3h45 x5h45 x5h45 (Nat.lt_succ_self _) hI_78 H locs hP hD hS ls (lv_sub hl [1, 2, 3, 4, 0] rfl)
        exact L_45 _ y_h2 s_4 d_h2 e_h2 r_1 r_3 ((sV s_4 a0 121) - 1) (Nat.lt_succ_self _) hI_45 H locs hP hD hS ls (lv_sub hl [3, 2, 1, 0] rfl)
      · skip
        have h := h.2 c7
        refine lv_aload_n G.1 G.2.1 d_Mo_least_10 rfl (lv_at hl 0 rfl) ?_
        refine lv_iload_n G.1 G.2.1 d_Mo_least_11 rfl (lv_at hl 1 rfl) ?_
        obtain ⟨mc_23, ms_24, hr_25, h⟩ := h
        refine uxVv (As := [.int x1h2]) (rest := []) G hP hD hS (cx_Mo_look l D g ad mc_23 ms_24 y_h2 _ _ s_h2 a0 x1h2 H.size (us H) h_a0 h) (fun _ h => absurd h List.not_mem_nil) w9_Mo_look q4240 ⟨Nat.le_of_ble_eq_true rfl, Nat.le_of_ble_eq_true rfl⟩ rfl rfl h_a0 (q := (RMo, TMo, 131)) rfl rfl hl.1 rfl (Nat.le_of_ble_eq_true rfl) rfl hr_25 d_Mo_least_12 (fun y_20 s_19 d_21 e_22 H locs q9 ce h hP hD hS hce hcv hcl => ?_) (fun y_20 s_19 d_21 e_22 H locs h hP hD hS => ?_)
        · skip
          obtain ⟨hd, h⟩ := h
          exact hretX h hP hD hS hd.1 hd.2 hce hcv hcl
        obtain ⟨hd, h⟩ := h
        refine lv_iinc (v := x1h2 + 1) (lv' := [(1, .int (x1h2 + 1)), (0, .ref (ad a0))]) G.1 G.2.1 d_Mo_least_15 hl (k := 1) rfl rfl (by decide) rfl (fun ls hl => ?_)
        refine lv_goto (tgt := 2) G.1 G.2.1 d_Mo_least_18 (by decide) ?_
        have h := hK_2 y_20 s_19 (d_h2 + d_21) (e_h2 + e_22) (x1h2 + 1) h
        exact ih_2 y_20 s_19 (d_h2 + d_21) (e_h2 + e_22) (x1h2 + 1) (Nat.lt_of_lt_of_le h.2 (Nat.le_of_lt_succ hμ_2)) h.1 H locs hP hD hS ls (lv_sub hl [1, 0] rfl)
  exact L_2 _ y σ 0 0 0 (Nat.lt_succ_self _) hI_2 H locs hP hD hS ls (lv_sub hl [1, 0] rfl)
theorem q3190 : Cond.fieldLink "ClassWorksModel" 390 "ClassWorksModel" "fewestSo" "[I" ∈ lw_ok := lw_okmem (List.mem_of_getElem? (i := 3190) (by decide +kernel)) rfl
theorem q4267 : Cond.methodLink "ClassWorksModel" 1347 y_Mo_addTrial ∈ lw_ok := lw_okmem (List.mem_of_getElem? (i := 4267) (by decide +kernel)) rfl
theorem q4270 : Cond.code y_Mo_addTrial b_Mo_addTrial 4 (none) ∈ lw_ok := lw_okmem (List.mem_of_getElem? (i := 4270) (by decide +kernel)) rfl
theorem q4269 : Cond.instanceMethod y_Mo_addTrial ∈ lw_ok := lw_okmem (List.mem_of_getElem? (i := 4269) (by decide +kernel)) rfl
theorem q325 : Cond.selects y_Mo_addTrial.cls y_Mo_addTrial y_Mo_addTrial ∈ lw_ok := lw_okmem (List.mem_of_getElem? (i := 325) (by decide +kernel)) rfl
theorem w9_Mo_addTrial : CWv y_Mo_addTrial b_Mo_addTrial 4 (none) 1 ∧ Cond.instanceMethod y_Mo_addTrial ∈ lw_ok ∧ Cond.selects y_Mo_addTrial.cls y_Mo_addTrial y_Mo_addTrial ∈ lw_ok := ⟨⟨q4270, q348, by decide +kernel, by decide +kernel, by decide +kernel⟩, q4269, q325⟩
def y_Mo_fewest : MethodName := ⟨"ClassWorksModel", "fewest", "()I"⟩
abbrev b_Mo_fewest : ByteArray := prog_14_method_207_code
theorem d_Mo_fewest_0 : decode b_Mo_fewest 0 = .ok (.iconst 0, 1) := by decide +kernel
theorem d_Mo_fewest_1 : decode b_Mo_fewest 1 = .ok (.istore_n 1, 1) := by decide +kernel
theorem d_Mo_fewest_2 : decode b_Mo_fewest 2 = .ok (.iload_n 1, 1) := by decide +kernel
theorem d_Mo_fewest_3 : decode b_Mo_fewest 3 = .ok (.aload_n 0, 1) := by decide +kernel
theorem d_Mo_fewest_4 : decode b_Mo_fewest 4 = .ok (.getfield 1314, 3) := by decide +kernel
theorem d_Mo_fewest_7 : decode b_Mo_fewest 7 = .ok (.if_icmp .ge 14, 3) := by decide +kernel
theorem d_Mo_fewest_10 : decode b_Mo_fewest 10 = .ok (.aload_n 0, 1) := by decide +kernel
theorem d_Mo_fewest_11 : decode b_Mo_fewest 11 = .ok (.iload_n 1, 1) := by decide +kernel
theorem d_Mo_fewest_12 : decode b_Mo_fewest 12 = .ok (.invokevirtual 1338, 3) := by decide +kernel
theorem d_Mo_fewest_15 : decode b_Mo_fewest 15 = .ok (.iinc 1 1, 3) := by decide +kernel
theorem d_Mo_fewest_18 : decode b_Mo_fewest 18 = .ok (.goto (-16), 3) := by decide +kernel
theorem d_Mo_fewest_21 : decode b_Mo_fewest 21 = .ok (.aload_n 0, 1) := by decide +kernel
theorem d_Mo_fewest_22 : decode b_Mo_fewest 22 = .ok (.bipush (-2), 2) := by decide +kernel
theorem d_Mo_fewest_24 : decode b_Mo_fewest 24 = .ok (.iconst 1, 1) := by decide +kernel
theorem d_Mo_fewest_25 : decode b_Mo_fewest 25 = .ok (.invokevirtual 1344, 3) := by decide +kernel
theorem d_Mo_fewest_28 : decode b_Mo_fewest 28 = .ok (.l2i, 1) := by decide +kernel
theorem d_Mo_fewest_29 : decode b_Mo_fewest 29 = .ok (.istore_n 1, 1) := by decide +kernel
theorem d_Mo_fewest_30 : decode b_Mo_fewest 30 = .ok (.iconst 0, 1) := by decide +kernel
theorem d_Mo_fewest_31 : decode b_Mo_fewest 31 = .ok (.istore_n 2, 1) := by decide +kernel
theorem d_Mo_fewest_32 : decode b_Mo_fewest 32 = .ok (.iload_n 2, 1) := by decide +kernel
theorem d_Mo_fewest_33 : decode b_Mo_fewest 33 = .ok (.sipush 256, 3) := by decide +kernel
theorem d_Mo_fewest_36 : decode b_Mo_fewest 36 = .ok (.if_icmp .ge 26, 3) := by decide +kernel
theorem d_Mo_fewest_39 : decode b_Mo_fewest 39 = .ok (.aload_n 0, 1) := by decide +kernel
theorem d_Mo_fewest_40 : decode b_Mo_fewest 40 = .ok (.getfield 390, 3) := by decide +kernel
theorem d_Mo_fewest_43 : decode b_Mo_fewest 43 = .ok (.iload_n 2, 1) := by decide +kernel
theorem d_Mo_fewest_44 : decode b_Mo_fewest 44 = .ok (.iload_n 2, 1) := by decide +kernel
theorem d_Mo_fewest_45 : decode b_Mo_fewest 45 = .ok (.ifCond .ne 7, 3) := by decide +kernel
theorem d_Mo_fewest_48 : decode b_Mo_fewest 48 = .ok (.iconst 0, 1) := by decide +kernel
theorem d_Mo_fewest_49 : decode b_Mo_fewest 49 = .ok (.goto 6, 3) := by decide +kernel
theorem d_Mo_fewest_52 : decode b_Mo_fewest 52 = .ok (.sipush 1000, 3) := by decide +kernel
theorem d_Mo_fewest_55 : decode b_Mo_fewest 55 = .ok (.iastore, 1) := by decide +kernel
theorem d_Mo_fewest_56 : decode b_Mo_fewest 56 = .ok (.iinc 2 1, 3) := by decide +kernel
theorem d_Mo_fewest_59 : decode b_Mo_fewest 59 = .ok (.goto (-27), 3) := by decide +kernel
theorem d_Mo_fewest_62 : decode b_Mo_fewest 62 = .ok (.iconst 0, 1) := by decide +kernel
theorem d_Mo_fewest_63 : decode b_Mo_fewest 63 = .ok (.istore_n 2, 1) := by decide +kernel
theorem d_Mo_fewest_64 : decode b_Mo_fewest 64 = .ok (.iload_n 2, 1) := by decide +kernel
theorem d_Mo_fewest_65 : decode b_Mo_fewest 65 = .ok (.bipush 60, 2) := by decide +kernel
theorem d_Mo_fewest_67 : decode b_Mo_fewest 67 = .ok (.if_icmp .ge 153, 3) := by decide +kernel
theorem d_Mo_fewest_70 : decode b_Mo_fewest 70 = .ok (.iconst 0, 1) := by decide +kernel
theorem d_Mo_fewest_71 : decode b_Mo_fewest 71 = .ok (.istore_n 3, 1) := by decide +kernel
theorem d_Mo_fewest_72 : decode b_Mo_fewest 72 = .ok (.iconst 0, 1) := by decide +kernel
theorem d_Mo_fewest_73 : decode b_Mo_fewest 73 = .ok (.istore 4, 2) := by decide +kernel
theorem d_Mo_fewest_75 : decode b_Mo_fewest 75 = .ok (.iload 4, 2) := by decide +kernel
theorem d_Mo_fewest_77 : decode b_Mo_fewest 77 = .ok (.sipush 256, 3) := by decide +kernel
theorem d_Mo_fewest_80 : decode b_Mo_fewest 80 = .ok (.if_icmp .ge 33, 3) := by decide +kernel
theorem d_Mo_fewest_83 : decode b_Mo_fewest 83 = .ok (.aload_n 0, 1) := by decide +kernel
theorem d_Mo_fewest_84 : decode b_Mo_fewest 84 = .ok (.getfield 393, 3) := by decide +kernel
theorem d_Mo_fewest_87 : decode b_Mo_fewest 87 = .ok (.iload 4, 2) := by decide +kernel
theorem d_Mo_fewest_89 : decode b_Mo_fewest 89 = .ok (.aload_n 0, 1) := by decide +kernel
theorem d_Mo_fewest_90 : decode b_Mo_fewest 90 = .ok (.getfield 390, 3) := by decide +kernel
theorem d_Mo_fewest_93 : decode b_Mo_fewest 93 = .ok (.iload 4, 2) := by decide +kernel
theorem d_Mo_fewest_95 : decode b_Mo_fewest 95 = .ok (.iaload, 1) := by decide +kernel
theorem d_Mo_fewest_96 : decode b_Mo_fewest 96 = .ok (.iastore, 1) := by decide +kernel
theorem d_Mo_fewest_97 : decode b_Mo_fewest 97 = .ok (.aload_n 0, 1) := by decide +kernel
theorem d_Mo_fewest_98 : decode b_Mo_fewest 98 = .ok (.getfield 396, 3) := by decide +kernel
theorem d_Mo_fewest_101 : decode b_Mo_fewest 101 = .ok (.iload 4, 2) := by decide +kernel
theorem d_Mo_fewest_103 : decode b_Mo_fewest 103 = .ok (.sipush 1000, 3) := by decide +kernel
theorem d_Mo_fewest_106 : decode b_Mo_fewest 106 = .ok (.iastore, 1) := by decide +kernel
theorem d_Mo_fewest_107 : decode b_Mo_fewest 107 = .ok (.iinc 4 1, 3) := by decide +kernel
theorem d_Mo_fewest_110 : decode b_Mo_fewest 110 = .ok (.goto (-35), 3) := by decide +kernel
theorem d_Mo_fewest_113 : decode b_Mo_fewest 113 = .ok (.iconst 0, 1) := by decide +kernel
theorem d_Mo_fewest_114 : decode b_Mo_fewest 114 = .ok (.istore 4, 2) := by decide +kernel
theorem d_Mo_fewest_116 : decode b_Mo_fewest 116 = .ok (.iload 4, 2) := by decide +kernel
theorem d_Mo_fewest_118 : decode b_Mo_fewest 118 = .ok (.aload_n 0, 1) := by decide +kernel
theorem d_Mo_fewest_119 : decode b_Mo_fewest 119 = .ok (.getfield 1314, 3) := by decide +kernel
theorem d_Mo_fewest_122 : decode b_Mo_fewest 122 = .ok (.if_icmp .ge 33, 3) := by decide +kernel
theorem d_Mo_fewest_125 : decode b_Mo_fewest 125 = .ok (.aload_n 0, 1) := by decide +kernel
theorem d_Mo_fewest_126 : decode b_Mo_fewest 126 = .ok (.getfield 381, 3) := by decide +kernel
theorem d_Mo_fewest_129 : decode b_Mo_fewest 129 = .ok (.iload 4, 2) := by decide +kernel
theorem d_Mo_fewest_131 : decode b_Mo_fewest 131 = .ok (.iaload, 1) := by decide +kernel
theorem d_Mo_fewest_132 : decode b_Mo_fewest 132 = .ok (.iload_n 2, 1) := by decide +kernel
theorem d_Mo_fewest_133 : decode b_Mo_fewest 133 = .ok (.if_icmp .ne 16, 3) := by decide +kernel
theorem d_Mo_fewest_136 : decode b_Mo_fewest 136 = .ok (.iconst 1, 1) := by decide +kernel
theorem d_Mo_fewest_137 : decode b_Mo_fewest 137 = .ok (.istore_n 3, 1) := by decide +kernel
theorem d_Mo_fewest_138 : decode b_Mo_fewest 138 = .ok (.aload_n 0, 1) := by decide +kernel
theorem d_Mo_fewest_139 : decode b_Mo_fewest 139 = .ok (.aload_n 0, 1) := by decide +kernel
theorem d_Mo_fewest_140 : decode b_Mo_fewest 140 = .ok (.getfield 384, 3) := by decide +kernel
theorem d_Mo_fewest_143 : decode b_Mo_fewest 143 = .ok (.iload 4, 2) := by decide +kernel
theorem d_Mo_fewest_145 : decode b_Mo_fewest 145 = .ok (.iaload, 1) := by decide +kernel
theorem d_Mo_fewest_146 : decode b_Mo_fewest 146 = .ok (.invokevirtual 1347, 3) := by decide +kernel
theorem d_Mo_fewest_149 : decode b_Mo_fewest 149 = .ok (.iinc 4 1, 3) := by decide +kernel
theorem d_Mo_fewest_152 : decode b_Mo_fewest 152 = .ok (.goto (-36), 3) := by decide +kernel
theorem d_Mo_fewest_155 : decode b_Mo_fewest 155 = .ok (.iconst 0, 1) := by decide +kernel
theorem d_Mo_fewest_156 : decode b_Mo_fewest 156 = .ok (.istore 4, 2) := by decide +kernel
theorem d_Mo_fewest_158 : decode b_Mo_fewest 158 = .ok (.iload 4, 2) := by decide +kernel
theorem d_Mo_fewest_160 : decode b_Mo_fewest 160 = .ok (.sipush 256, 3) := by decide +kernel
theorem d_Mo_fewest_163 : decode b_Mo_fewest 163 = .ok (.if_icmp .ge 51, 3) := by decide +kernel
theorem d_Mo_fewest_166 : decode b_Mo_fewest 166 = .ok (.iload_n 3, 1) := by decide +kernel
theorem d_Mo_fewest_167 : decode b_Mo_fewest 167 = .ok (.ifCond .eq 47, 3) := by decide +kernel
theorem d_Mo_fewest_170 : decode b_Mo_fewest 170 = .ok (.aload_n 0, 1) := by decide +kernel
theorem d_Mo_fewest_171 : decode b_Mo_fewest 171 = .ok (.getfield 390, 3) := by decide +kernel
theorem d_Mo_fewest_174 : decode b_Mo_fewest 174 = .ok (.iload 4, 2) := by decide +kernel
theorem d_Mo_fewest_176 : decode b_Mo_fewest 176 = .ok (.iload_n 2, 1) := by decide +kernel
theorem d_Mo_fewest_177 : decode b_Mo_fewest 177 = .ok (.ifCond .ne 23, 3) := by decide +kernel
theorem d_Mo_fewest_180 : decode b_Mo_fewest 180 = .ok (.aload_n 0, 1) := by decide +kernel
theorem d_Mo_fewest_181 : decode b_Mo_fewest 181 = .ok (.getfield 393, 3) := by decide +kernel
theorem d_Mo_fewest_184 : decode b_Mo_fewest 184 = .ok (.iload 4, 2) := by decide +kernel
theorem d_Mo_fewest_186 : decode b_Mo_fewest 186 = .ok (.iaload, 1) := by decide +kernel
theorem d_Mo_fewest_187 : decode b_Mo_fewest 187 = .ok (.aload_n 0, 1) := by decide +kernel
theorem d_Mo_fewest_188 : decode b_Mo_fewest 188 = .ok (.getfield 396, 3) := by decide +kernel
theorem d_Mo_fewest_191 : decode b_Mo_fewest 191 = .ok (.iload 4, 2) := by decide +kernel
theorem d_Mo_fewest_193 : decode b_Mo_fewest 193 = .ok (.iaload, 1) := by decide +kernel
theorem d_Mo_fewest_194 : decode b_Mo_fewest 194 = .ok (.invokestatic 710, 3) := by decide +kernel
theorem d_Mo_fewest_197 : decode b_Mo_fewest 197 = .ok (.goto 10, 3) := by decide +kernel
theorem d_Mo_fewest_200 : decode b_Mo_fewest 200 = .ok (.aload_n 0, 1) := by decide +kernel
theorem d_Mo_fewest_201 : decode b_Mo_fewest 201 = .ok (.getfield 396, 3) := by decide +kernel
theorem d_Mo_fewest_204 : decode b_Mo_fewest 204 = .ok (.iload 4, 2) := by decide +kernel
theorem d_Mo_fewest_206 : decode b_Mo_fewest 206 = .ok (.iaload, 1) := by decide +kernel
theorem d_Mo_fewest_207 : decode b_Mo_fewest 207 = .ok (.iastore, 1) := by decide +kernel
theorem d_Mo_fewest_208 : decode b_Mo_fewest 208 = .ok (.iinc 4 1, 3) := by decide +kernel
theorem d_Mo_fewest_211 : decode b_Mo_fewest 211 = .ok (.goto (-53), 3) := by decide +kernel
theorem d_Mo_fewest_214 : decode b_Mo_fewest 214 = .ok (.iinc 2 1, 3) := by decide +kernel
theorem d_Mo_fewest_217 : decode b_Mo_fewest 217 = .ok (.goto (-153), 3) := by decide +kernel
theorem d_Mo_fewest_220 : decode b_Mo_fewest 220 = .ok (.aload_n 0, 1) := by decide +kernel
theorem d_Mo_fewest_221 : decode b_Mo_fewest 221 = .ok (.getfield 390, 3) := by decide +kernel
theorem d_Mo_fewest_224 : decode b_Mo_fewest 224 = .ok (.iload_n 1, 1) := by decide +kernel
theorem d_Mo_fewest_225 : decode b_Mo_fewest 225 = .ok (.iaload, 1) := by decide +kernel
theorem d_Mo_fewest_226 : decode b_Mo_fewest 226 = .ok (.ireturn, 1) := by decide +kernel
abbrev ra_Mo_fewest (mc ms : Nat) : Room := { frames := 477, cells := mc, slots := ms, locals := 11614 }
def wja_Mo_fewest_214 (mc ms : Nat) (Post : Ly → St → Int32 → Nat → Nat → Prop) (PX : Ly → St → Nat → Nat → Prop) (K_64 : Ly → St → Nat → Nat → Int32 → Int32 → Prop) (a0 : Nat) (y_j214 : Ly) (s_j214 : St) (d_j214 e_j214 : Nat) (x1j214 : Int32) (x2j214 : Int32) : Prop := (d_j214 ≤ mc ∧ e_j214 ≤ ms) ∧ K_64 y_j214 s_j214 d_j214 e_j214 x1j214 (x2j214 + 1)
def wja_Mo_fewest_207 (mc ms : Nat) (Post : Ly → St → Int32 → Nat → Nat → Prop) (PX : Ly → St → Nat → Nat → Prop) (K_64 : Ly → St → Nat → Nat → Int32 → Int32 → Prop) (K_158 : Ly → St → Nat → Nat → Int32 → Int32 → Int32 → Int32 → Prop) (a0 : Nat) (y_j207 : Ly) (s_j207 : St) (d_j207 e_j207 : Nat) (x1j207 : Int32) (x2j207 : Int32) (x3j207 : Int32) (x4j207 : Int32) (z1j207 : Int32) (z2j207 : Int32) : Prop := (d_j207 ≤ mc ∧ e_j207 ≤ ms) ∧ xS y_j207 s_j207 a0 126 z1j207 z2j207 (fun s_4 : St => K_158 y_j207 s_4 d_j207 e_j207 x1j207 x2j207 x3j207 (x4j207 + 1))
def wba_Mo_fewest_158 (mc ms : Nat) (Post : Ly → St → Int32 → Nat → Nat → Prop) (PX : Ly → St → Nat → Nat → Prop) (K_64 : Ly → St → Nat → Nat → Int32 → Int32 → Prop) (K_158 : Ly → St → Nat → Nat → Int32 → Int32 → Int32 → Int32 → Prop) (a0 : Nat) (y_h158 : Ly) (s_h158 : St) (d_h158 e_h158 : Nat) (x1h158 : Int32) (x2h158 : Int32) (x3h158 : Int32) (x4h158 : Int32) : Prop := (d_h158 ≤ mc ∧ e_h158 ≤ ms) ∧ ((256 ≤ x4h158 → wja_Mo_fewest_214 mc ms Post PX K_64 a0 y_h158 s_h158 d_h158 e_h158 x1h158 x2h158) ∧ (¬ (256 ≤ x4h158) → ((x3h158 = 0 → wja_Mo_fewest_214 mc ms Post PX K_64 a0 y_h158 s_h158 d_h158 e_h158 x1h158 x2h158) ∧ (¬ (x3h158 = 0) → ((¬ x2h158 = 0 → xA y_h158 s_h158 a0 128 x4h158 (fun x_5 : Int32 => wja_Mo_fewest_207 mc ms Post PX K_64 K_158 a0 y_h158 s_h158 d_h158 e_h158 x1h158 x2h158 x3h158 x4h158 x4h158 x_5)) ∧ (x2h158 = 0 → xA y_h158 s_h158 a0 127 x4h158 (fun x_6 : Int32 => xA y_h158 s_h158 a0 128 x4h158 (fun x_7 : Int32 => wja_Mo_fewest_207 mc ms Post PX K_64 K_158 a0 y_h158 s_h158 d_h158 e_h158 x1h158 x2h158 x3h158 x4h158 x4h158 (if x_7 < x_6 then x_7 else x_6)))))))))
def wla_Mo_fewest_158 (mc ms : Nat) (Post : Ly → St → Int32 → Nat → Nat → Prop) (PX : Ly → St → Nat → Nat → Prop) (K_64 : Ly → St → Nat → Nat → Int32 → Int32 → Prop) (a0 : Nat) (y_h158 : Ly) (s_h158 : St) (d_h158 e_h158 : Nat) (x1h158 : Int32) (x2h158 : Int32) (x3h158 : Int32) (x4h158 : Int32) : Prop := ∃ (I : Ly → St → Nat → Nat → Int32 → Int32 → Int32 → Int32 → Prop) (μ : Ly → St → Nat → Nat → Int32 → Int32 → Int32 → Int32 → Nat), I y_h158 s_h158 d_h158 e_h158 x1h158 x2h158 x3h158 x4h158 ∧ ∀ (u1 : Ly) (u2 : St) (u3 u4 : Nat) (t0 : Int32) (t1 : Int32) (t2 : Int32) (t3 : Int32), I u1 u2 u3 u4 t0 t1 t2 t3 → wba_Mo_fewest_158 mc ms Post PX K_64 (fun z1 z2 z3 z4 t0q t1q t2q t3q => I z1 z2 z3 z4 t0q t1q t2q t3q ∧ μ z1 z2 z3 z4 t0q t1q t2q t3q < μ u1 u2 u3 u4 t0 t1 t2 t3) a0 u1 u2 u3 u4 t0 t1 t2 t3
def wja_Mo_fewest_149 (mc ms : Nat) (Post : Ly → St → Int32 → Nat → Nat → Prop) (PX : Ly → St → Nat → Nat → Prop) (K_64 : Ly → St → Nat → Nat → Int32 → Int32 → Prop) (K_116 : Ly → St → Nat → Nat → Int32 → Int32 → Int32 → Int32 → Prop) (a0 : Nat) (y_j149 : Ly) (s_j149 : St) (d_j149 e_j149 : Nat) (x1j149 : Int32) (x2j149 : Int32) (x3j149 : Int32) (x4j149 : Int32) : Prop := (d_j149 ≤ mc ∧ e_j149 ≤ ms) ∧ K_116 y_j149 s_j149 d_j149 e_j149 x1j149 x2j149 x3j149 (x4j149 + 1)
def wba_Mo_fewest_116 (mc ms : Nat) (Post : Ly → St → Int32 → Nat → Nat → Prop) (PX : Ly → St → Nat → Nat → Prop) (K_64 : Ly → St → Nat → Nat → Int32 → Int32 → Prop) (K_116 : Ly → St → Nat → Nat → Int32 → Int32 → Int32 → Int32 → Prop) (a0 : Nat) (y_h116 : Ly) (s_h116 : St) (d_h116 e_h116 : Nat) (x1h116 : Int32) (x2h116 : Int32) (x3h116 : Int32) (x4h116 : Int32) : Prop := (d_h116 ≤ mc ∧ e_h116 ≤ ms) ∧ (((sV s_h116 a0 121) ≤ x4h116 → wla_Mo_fewest_158 mc ms Post PX K_64 a0 y_h116 s_h116 d_h116 e_h116 x1h116 x2h116 x3h116 0) ∧ (¬ ((sV s_h116 a0 121) ≤ x4h116) → xA y_h116 s_h116 a0 119 x4h116 (fun x_8 : Int32 => ((¬ x_8 = x2h116 → wja_Mo_fewest_149 mc ms Post PX K_64 K_116 a0 y_h116 s_h116 d_h116 e_h116 x1h116 x2h116 x3h116 x4h116) ∧ (x_8 = x2h116 → xA y_h116 s_h116 a0 120 x4h116 (fun x_9 : Int32 => wu_Mo_addTrial y_h116 (fun (s_11 : St) => wja_Mo_fewest_149 mc ms Post PX K_64 K_116 a0 y_h116 s_11 d_h116 e_h116 x1h116 x2h116 1 x4h116) s_h116 a0 x_9))))))
def wla_Mo_fewest_116 (mc ms : Nat) (Post : Ly → St → Int32 → Nat → Nat → Prop) (PX : Ly → St → Nat → Nat → Prop) (K_64 : Ly → St → Nat → Nat → Int32 → Int32 → Prop) (a0 : Nat) (y_h116 : Ly) (s_h116 : St) (d_h116 e_h116 : Nat) (x1h116 : Int32) (x2h116 : Int32) (x3h116 : Int32) (x4h116 : Int32) : Prop := ∃ (I : Ly → St → Nat → Nat → Int32 → Int32 → Int32 → Int32 → Prop) (μ : Ly → St → Nat → Nat → Int32 → Int32 → Int32 → Int32 → Nat), I y_h116 s_h116 d_h116 e_h116 x1h116 x2h116 x3h116 x4h116 ∧ ∀ (u1 : Ly) (u2 : St) (u3 u4 : Nat) (t0 : Int32) (t1 : Int32) (t2 : Int32) (t3 : Int32), I u1 u2 u3 u4 t0 t1 t2 t3 → wba_Mo_fewest_116 mc ms Post PX K_64 (fun z1 z2 z3 z4 t0q t1q t2q t3q => I z1 z2 z3 z4 t0q t1q t2q t3q ∧ μ z1 z2 z3 z4 t0q t1q t2q t3q < μ u1 u2 u3 u4 t0 t1 t2 t3) a0 u1 u2 u3 u4 t0 t1 t2 t3
def wba_Mo_fewest_75 (mc ms : Nat) (Post : Ly → St → Int32 → Nat → Nat → Prop) (PX : Ly → St → Nat → Nat → Prop) (K_64 : Ly → St → Nat → Nat → Int32 → Int32 → Prop) (K_75 : Ly → St → Nat → Nat → Int32 → Int32 → Int32 → Int32 → Prop) (a0 : Nat) (y_h75 : Ly) (s_h75 : St) (d_h75 e_h75 : Nat) (x1h75 : Int32) (x2h75 : Int32) (x3h75 : Int32) (x4h75 : Int32) : Prop := (d_h75 ≤ mc ∧ e_h75 ≤ ms) ∧ ((256 ≤ x4h75 → wla_Mo_fewest_116 mc ms Post PX K_64 a0 y_h75 s_h75 d_h75 e_h75 x1h75 x2h75 x3h75 0) ∧ (¬ (256 ≤ x4h75) → xA y_h75 s_h75 a0 126 x4h75 (fun x_12 : Int32 => xS y_h75 s_h75 a0 127 x4h75 x_12 (fun s_13 : St => xS y_h75 s_13 a0 128 x4h75 1000 (fun s_14 : St => K_75 y_h75 s_14 d_h75 e_h75 x1h75 x2h75 x3h75 (x4h75 + 1))))))
def wla_Mo_fewest_75 (mc ms : Nat) (Post : Ly → St → Int32 → Nat → Nat → Prop) (PX : Ly → St → Nat → Nat → Prop) (K_64 : Ly → St → Nat → Nat → Int32 → Int32 → Prop) (a0 : Nat) (y_h75 : Ly) (s_h75 : St) (d_h75 e_h75 : Nat) (x1h75 : Int32) (x2h75 : Int32) (x3h75 : Int32) (x4h75 : Int32) : Prop := ∃ (I : Ly → St → Nat → Nat → Int32 → Int32 → Int32 → Int32 → Prop) (μ : Ly → St → Nat → Nat → Int32 → Int32 → Int32 → Int32 → Nat), I y_h75 s_h75 d_h75 e_h75 x1h75 x2h75 x3h75 x4h75 ∧ ∀ (u1 : Ly) (u2 : St) (u3 u4 : Nat) (t0 : Int32) (t1 : Int32) (t2 : Int32) (t3 : Int32), I u1 u2 u3 u4 t0 t1 t2 t3 → wba_Mo_fewest_75 mc ms Post PX K_64 (fun z1 z2 z3 z4 t0q t1q t2q t3q => I z1 z2 z3 z4 t0q t1q t2q t3q ∧ μ z1 z2 z3 z4 t0q t1q t2q t3q < μ u1 u2 u3 u4 t0 t1 t2 t3) a0 u1 u2 u3 u4 t0 t1 t2 t3
def wba_Mo_fewest_64 (mc ms : Nat) (Post : Ly → St → Int32 → Nat → Nat → Prop) (PX : Ly → St → Nat → Nat → Prop) (K_64 : Ly → St → Nat → Nat → Int32 → Int32 → Prop) (a0 : Nat) (y_h64 : Ly) (s_h64 : St) (d_h64 e_h64 : Nat) (x1h64 : Int32) (x2h64 : Int32) : Prop := (d_h64 ≤ mc ∧ e_h64 ≤ ms) ∧ ((60 ≤ x2h64 → xA y_h64 s_h64 a0 126 x1h64 (fun x_3 : Int32 => Post y_h64 s_h64 x_3 d_h64 e_h64)) ∧ (¬ (60 ≤ x2h64) → wla_Mo_fewest_75 mc ms Post PX K_64 a0 y_h64 s_h64 d_h64 e_h64 x1h64 x2h64 0 0))
def wla_Mo_fewest_64 (mc ms : Nat) (Post : Ly → St → Int32 → Nat → Nat → Prop) (PX : Ly → St → Nat → Nat → Prop) (a0 : Nat) (y_h64 : Ly) (s_h64 : St) (d_h64 e_h64 : Nat) (x1h64 : Int32) (x2h64 : Int32) : Prop := ∃ (I : Ly → St → Nat → Nat → Int32 → Int32 → Prop) (μ : Ly → St → Nat → Nat → Int32 → Int32 → Nat), I y_h64 s_h64 d_h64 e_h64 x1h64 x2h64 ∧ ∀ (u1 : Ly) (u2 : St) (u3 u4 : Nat) (t0 : Int32) (t1 : Int32), I u1 u2 u3 u4 t0 t1 → wba_Mo_fewest_64 mc ms Post PX (fun z1 z2 z3 z4 t0q t1q => I z1 z2 z3 z4 t0q t1q ∧ μ z1 z2 z3 z4 t0q t1q < μ u1 u2 u3 u4 t0 t1) a0 u1 u2 u3 u4 t0 t1
def wja_Mo_fewest_55 (mc ms : Nat) (Post : Ly → St → Int32 → Nat → Nat → Prop) (PX : Ly → St → Nat → Nat → Prop) (K_32 : Ly → St → Nat → Nat → Int32 → Int32 → Prop) (a0 : Nat) (y_j55 : Ly) (s_j55 : St) (d_j55 e_j55 : Nat) (x1j55 : Int32) (x2j55 : Int32) (z1j55 : Int32) (z2j55 : Int32) : Prop := (d_j55 ≤ mc ∧ e_j55 ≤ ms) ∧ xS y_j55 s_j55 a0 126 z1j55 z2j55 (fun s_15 : St => K_32 y_j55 s_15 d_j55 e_j55 x1j55 (x2j55 + 1))
def wba_Mo_fewest_32 (mc ms : Nat) (Post : Ly → St → Int32 → Nat → Nat → Prop) (PX : Ly → St → Nat → Nat → Prop) (K_32 : Ly → St → Nat → Nat → Int32 → Int32 → Prop) (a0 : Nat) (y_h32 : Ly) (s_h32 : St) (d_h32 e_h32 : Nat) (x1h32 : Int32) (x2h32 : Int32) : Prop := (d_h32 ≤ mc ∧ e_h32 ≤ ms) ∧ ((256 ≤ x2h32 → wla_Mo_fewest_64 mc ms Post PX a0 y_h32 s_h32 d_h32 e_h32 x1h32 0) ∧ (¬ (256 ≤ x2h32) → ((¬ x2h32 = 0 → wja_Mo_fewest_55 mc ms Post PX K_32 a0 y_h32 s_h32 d_h32 e_h32 x1h32 x2h32 x2h32 1000) ∧ (x2h32 = 0 → wja_Mo_fewest_55 mc ms Post PX K_32 a0 y_h32 s_h32 d_h32 e_h32 x1h32 x2h32 x2h32 0))))
def wla_Mo_fewest_32 (mc ms : Nat) (Post : Ly → St → Int32 → Nat → Nat → Prop) (PX : Ly → St → Nat → Nat → Prop) (a0 : Nat) (y_h32 : Ly) (s_h32 : St) (d_h32 e_h32 : Nat) (x1h32 : Int32) (x2h32 : Int32) : Prop := ∃ (I : Ly → St → Nat → Nat → Int32 → Int32 → Prop) (μ : Ly → St → Nat → Nat → Int32 → Int32 → Nat), I y_h32 s_h32 d_h32 e_h32 x1h32 x2h32 ∧ ∀ (u1 : Ly) (u2 : St) (u3 u4 : Nat) (t0 : Int32) (t1 : Int32), I u1 u2 u3 u4 t0 t1 → wba_Mo_fewest_32 mc ms Post PX (fun z1 z2 z3 z4 t0q t1q => I z1 z2 z3 z4 t0q t1q ∧ μ z1 z2 z3 z4 t0q t1q < μ u1 u2 u3 u4 t0 t1) a0 u1 u2 u3 u4 t0 t1
def wba_Mo_fewest_2 (mc ms : Nat) (Post : Ly → St → Int32 → Nat → Nat → Prop) (PX : Ly → St → Nat → Nat → Prop) (K_2 : Ly → St → Nat → Nat → Int32 → Prop) (a0 : Nat) (y_h2 : Ly) (s_h2 : St) (d_h2 e_h2 : Nat) (x1h2 : Int32) : Prop := (d_h2 ≤ mc ∧ e_h2 ≤ ms) ∧ (((sV s_h2 a0 121) ≤ x1h2 → wu_Mo_together y_h2 (fun (s_2 : St) (r_1 : Int64) => wla_Mo_fewest_32 mc ms Post PX a0 y_h2 s_2 d_h2 e_h2 r_1.toInt32 0) s_h2 a0 (-2) 1) ∧ (¬ ((sV s_h2 a0 121) ≤ x1h2) → ∃ mc_21 ms_22 : Nat, (d_h2 + mc_21 ≤ mc ∧ e_h2 + ms_22 ≤ ms) ∧ wx_Mo_look mc_21 ms_22 y_h2 (fun (y_18 : Ly) (s_17 : St) (d_19 e_20 : Nat) => (d_h2 + d_19 ≤ mc ∧ e_h2 + e_20 ≤ ms) ∧ K_2 y_18 s_17 (d_h2 + d_19) (e_h2 + e_20) (x1h2 + 1)) (fun (y_18 : Ly) (s_17 : St) (d_19 e_20 : Nat) => ((d_h2 + d_19 ≤ mc ∧ e_h2 + e_20 ≤ ms) ∧ PX y_18 s_17 (d_h2 + d_19) (e_h2 + e_20))) s_h2 a0 x1h2))
def wla_Mo_fewest_2 (mc ms : Nat) (Post : Ly → St → Int32 → Nat → Nat → Prop) (PX : Ly → St → Nat → Nat → Prop) (a0 : Nat) (y_h2 : Ly) (s_h2 : St) (d_h2 e_h2 : Nat) (x1h2 : Int32) : Prop := ∃ (I : Ly → St → Nat → Nat → Int32 → Prop) (μ : Ly → St → Nat → Nat → Int32 → Nat), I y_h2 s_h2 d_h2 e_h2 x1h2 ∧ ∀ (u1 : Ly) (u2 : St) (u3 u4 : Nat) (t0 : Int32), I u1 u2 u3 u4 t0 → wba_Mo_fewest_2 mc ms Post PX (fun z1 z2 z3 z4 t0q => I z1 z2 z3 z4 t0q ∧ μ z1 z2 z3 z4 t0q < μ u1 u2 u3 u4 t0) a0 u1 u2 u3 u4 t0
def wx_Mo_fewest (mc ms : Nat) (y : Ly) (Post : Ly → St → Int32 → Nat → Nat → Prop) (PX : Ly → St → Nat → Nat → Prop) (σ : St) (a0 : Nat) : Prop := wla_Mo_fewest_2 mc ms Post PX a0 y σ 0 0 0
set_option maxHeartbeats 4000000 in
set_option maxRecDepth 100000 in
theorem cx_Mo_fewest (l : Launch) (D : va_G) (g : Nat → ClassId) (ad : Nat → Nat) (mc ms : Nat) (y : Ly) (Post : Ly → St → Int32 → Nat → Nat → Prop) (PX : Ly → St → Nat → Nat → Prop) (σ : St) (a0 : Nat) (sz uz : Nat) (h_a0 : cl a0 = 14) (h : wx_Mo_fewest mc ms y Post PX σ a0) : vx_Met l y_Mo_fewest (mw y_Mo_fewest b_Mo_fewest 5 (some .int)) (ra_Mo_fewest mc ms) (PCu g D [] [.ref (ad a0)] sz uz (ws g ad y σ)) (va_Qi (fun (r : Int32) (u : Ly × St × Nat × Nat) => Post u.1 u.2.1 r u.2.2.1 u.2.2.2) (QU D (va_A (ws g ad y σ) sz) (fun u => ws g ad u.1 u.2.1) sz uz (fun u => u.2.2.1) (fun u => u.2.2.2)) (va_A (ws g ad y σ) sz)) (XQ D g ad (va_A (ws g ad y σ) sz) sz uz PX) mc ms (va_A (ws g ad y σ) sz) := by
  refine ofIx (by decide +kernel) (Nat.le_of_ble_eq_true rfl) ?_
  intro p e s m args below meth c A Q ls H locs G hsz hP hD hS hl hret hretX
  subst hsz
  have hl : lv_has ls 5 [(0, .ref (ad a0))] := hl
  have hd : 0 ≤ mc ∧ 0 ≤ ms := ⟨Nat.zero_le _, Nat.zero_le _⟩
  unfold wx_Mo_fewest at h
  refine lv_iconst (v := 0) G.1 G.2.1 d_Mo_fewest_0 (by decide) ?_
  refine lv_istore_n (lv' := [(1, .int 0), (0, .ref (ad a0))]) G.1 G.2.1 d_Mo_fewest_1 rfl hl (by decide) rfl (fun ls hl => ?_)
  unfold wla_Mo_fewest_2 at h
  obtain ⟨I_2, μ_2, hI_2, hB_2⟩ := h
  have L_2 : ∀ (n_2 : Nat) (y_h2 : Ly) (s_h2 : St) (d_h2 e_h2 : Nat) (x1h2 : Int32), μ_2 y_h2 s_h2 d_h2 e_h2 x1h2 < n_2 → I_2 y_h2 s_h2 d_h2 e_h2 x1h2 → ∀ (H : Heap) (locs : List Loc), va_P D CL (ws g ad y_h2 s_h2) H → va_D A (ws g ad y_h2 s_h2) → va_S A s.heap H locs → ∀ ls, lv_has ls 5 [(0, .ref (ad a0)), (1, .int x1h2)] → W p l e (ra_Mo_fewest mc ms) s m args below meth c H locs d_h2 e_h2 Q (F0 m 2 ls []) := by
    intro n_2
    induction n_2 with
    | zero => intro y_h2 s_h2 d_h2 e_h2 x1h2 hμ; exact absurd hμ (Nat.not_lt_zero _)
    | succ n_2 ih_2 =>
      intro y_h2 s_h2 d_h2 e_h2 x1h2 hμ_2 hJ H locs hP hD hS ls hl
      obtain ⟨K_2, hK_2, h⟩ : ∃ K : Ly → St → Nat → Nat → Int32 → Prop, (∀ z1 z2 z3 z4 (t0 : Int32), K z1 z2 z3 z4 t0 → I_2 z1 z2 z3 z4 t0 ∧ μ_2 z1 z2 z3 z4 t0 < μ_2 y_h2 s_h2 d_h2 e_h2 x1h2) ∧ wba_Mo_fewest_2 mc ms Post PX K a0 y_h2 s_h2 d_h2 e_h2 x1h2 := ⟨_, fun _ _ _ _ _ h => h, hB_2 y_h2 s_h2 d_h2 e_h2 x1h2 hJ⟩
      unfold wba_Mo_fewest_2 at h
      obtain ⟨hd, h⟩ := h
      refine lv_iload_n G.1 G.2.1 d_Mo_fewest_2 rfl (lv_at hl 1 rfl) ?_
      refine lv_aload_n G.1 G.2.1 d_Mo_fewest_3 rfl (lv_at hl 0 rfl) ?_
      refine ugf (v := .int (sV s_h2 a0 121)) G hP h_a0 iMo rfl 121 (by decide) rfl q3185 rfl rfl d_Mo_fewest_4 ?_
      refine lv_icmp_ge (tgt := 21) G.1 G.2.1 d_Mo_fewest_7 (by decide) (fun c7 => ?_) (fun c7 => ?_)
      · skip
        have h := h.1 c7
        refine lv_aload_n G.1 G.2.1 d_Mo_fewest_21 rfl (lv_at hl 0 rfl) ?_
        refine lv_bipush (v := (-2)) G.1 G.2.1 d_Mo_fewest_22 (by decide) ?_
        refine lv_iconst (v := 1) G.1 G.2.1 d_Mo_fewest_24 (by decide) ?_
        refine ucVl (As := [.int (-2), .int 1]) (rest := []) G hP hD hS (cu_Mo_together l D g ad y_h2 _ s_h2 a0 (-2) 1 H.size h_a0 h) w9_Mo_together q4259 ⟨Nat.le_of_ble_eq_true rfl, Nat.le_of_ble_eq_true rfl⟩ rfl rfl h_a0 (q := (RMo, TMo, 131)) rfl rfl hl.1 rfl (Nat.le_of_ble_eq_true rfl) rfl hd d_Mo_fewest_25 (fun r_1 s_2 H locs h hP hD hS => ?_)
        refine lv_l2i G.1 G.2.1 d_Mo_fewest_28 rfl ?_
        refine lv_istore_n (lv' := [(1, .int r_1.toInt32), (0, .ref (ad a0))]) G.1 G.2.1 d_Mo_fewest_29 rfl hl (by decide) rfl (fun ls hl => ?_)
        refine lv_iconst (v := 0) G.1 G.2.1 d_Mo_fewest_30 (by decide) ?_
        refine W.eq (g2 := F0 m 31 ls [.int 0]) rfl ?_
        refine lv_istore_n (lv' := [(2, .int 0), (1, .int r_1.toInt32), (0, .ref (ad a0))]) G.1 G.2.1 d_Mo_fewest_31 rfl hl (by decide) rfl (fun ls hl => ?_)
        unfold wla_Mo_fewest_32 at h
        obtain ⟨I_32, μ_32, hI_32, hB_32⟩ := h
        have L_32 : ∀ (n_32 : Nat) (y_h32 : Ly) (s_h32 : St) (d_h32 e_h32 : Nat) (x1h32 : Int32) (x2h32 : Int32), μ_32 y_h32 s_h32 d_h32 e_h32 x1h32 x2h32 < n_32 → I_32 y_h32 s_h32 d_h32 e_h32 x1h32 x2h32 → ∀ (H : Heap) (locs : List Loc), va_P D CL (ws g ad y_h32 s_h32) H → va_D A (ws g ad y_h32 s_h32) → va_S A s.heap H locs → ∀ ls, lv_has ls 5 [(0, .ref (ad a0)), (1, .int x1h32), (2, .int x2h32)] → W p l e (ra_Mo_fewest mc ms) s m args below meth c H locs d_h32 e_h32 Q (F0 m 32 ls []) := by
          intro n_32
          induction n_32 with
          | zero => intro y_h32 s_h32 d_h32 e_h32 x1h32 x2h32 hμ; exact absurd hμ (Nat.not_lt_zero _)
          | succ n_32 ih_32 =>
            intro y_h32 s_h32 d_h32 e_h32 x1h32 x2h32 hμ_32 hJ H locs hP hD hS ls hl
            obtain ⟨K_32, hK_32, h⟩ : ∃ K : Ly → St → Nat → Nat → Int32 → Int32 → Prop, (∀ z1 z2 z3 z4 (t0 : Int32) (t1 : Int32), K z1 z2 z3 z4 t0 t1 → I_32 z1 z2 z3 z4 t0 t1 ∧ μ_32 z1 z2 z3 z4 t0 t1 < μ_32 y_h32 s_h32 d_h32 e_h32 x1h32 x2h32) ∧ wba_Mo_fewest_32 mc ms Post PX K a0 y_h32 s_h32 d_h32 e_h32 x1h32 x2h32 := ⟨_, fun _ _ _ _ _ _ h => h, hB_32 y_h32 s_h32 d_h32 e_h32 x1h32 x2h32 hJ⟩
            unfold wba_Mo_fewest_32 at h
            obtain ⟨hd, h⟩ := h
            refine lv_iload_n G.1 G.2.1 d_Mo_fewest_32 rfl (lv_at hl 2 rfl) ?_
            refine lv_sipush (v := 256) G.1 G.2.1 d_Mo_fewest_33 (by decide) ?_
            refine lv_icmp_ge (tgt := 62) G.1 G.2.1 d_Mo_fewest_36 (by decide) (fun c36 => ?_) (fun c36 => ?_)
            · skip
              have h := h.1 c36
              refine lv_iconst (v := 0) G.1 G.2.1 d_Mo_fewest_62 (by decide) ?_
              refine lv_istore_n (lv' := [(2, .int 0), (0, .ref (ad a0)), (1, .int x1h32)]) G.1 G.2.1 d_Mo_fewest_63 rfl hl (by decide) rfl (fun ls hl => ?_)
              unfold wla_Mo_fewest_64 at h
              obtain ⟨I_64, μ_64, hI_64, hB_64⟩ := h
              have L_64 : ∀ (n_64 : Nat) (y_h64 : Ly) (s_h64 : St) (d_h64 e_h64 : Nat) (x1h64 : Int32) (x2h64 : Int32), μ_64 y_h64 s_h64 d_h64 e_h64 x1h64 x2h64 < n_64 → I_64 y_h64 s_h64 d_h64 e_h64 x1h64 x2h64 → ∀ (H : Heap) (locs : List Loc), va_P D CL (ws g ad y_h64 s_h64) H → va_D A (ws g ad y_h64 s_h64) → va_S A s.heap H locs → ∀ ls, lv_has ls 5 [(0, .ref (ad a0)), (1, .int x1h64), (2, .int x2h64)] → W p l e (ra_Mo_fewest mc ms) s m args below meth c H locs d_h64 e_h64 Q (F0 m 64 ls []) := by
                intro n_64
                induction n_64 with
                | zero => intro y_h64 s_h64 d_h64 e_h64 x1h64 x2h64 hμ; exact absurd hμ (Nat.not_lt_zero _)
                | succ n_64 ih_64 =>
                  intro y_h64 s_h64 d_h64 e_h64 x1h64 x2h64 hμ_64 hJ H locs hP hD hS ls hl
                  obtain ⟨K_64, hK_64, h⟩ : ∃ K : Ly → St → Nat → Nat → Int32 → Int32 → Prop, (∀ z1 z2 z3 z4 (t0 : Int32) (t1 : Int32), K z1 z2 z3 z4 t0 t1 → I_64 z1 z2 z3 z4 t0 t1 ∧ μ_64 z1 z2 z3 z4 t0 t1 < μ_64 y_h64 s_h64 d_h64 e_h64 x1h64 x2h64) ∧ wba_Mo_fewest_64 mc ms Post PX K a0 y_h64 s_h64 d_h64 e_h64 x1h64 x2h64 := ⟨_, fun _ _ _ _ _ _ h => h, hB_64 y_h64 s_h64 d_h64 e_h64 x1h64 x2h64 hJ⟩
                  unfold wba_Mo_fewest_64 at h
                  obtain ⟨hd, h⟩ := h
                  refine lv_iload_n G.1 G.2.1 d_Mo_fewest_64 rfl (lv_at hl 2 rfl) ?_
                  refine lv_bipush (v := 60) G.1 G.2.1 d_Mo_fewest_65 (by decide) ?_
                  refine lv_icmp_ge (tgt := 220) G.1 G.2.1 d_Mo_fewest_67 (by decide) (fun c67 => ?_) (fun c67 => ?_)
                  · skip
                    have h := h.1 c67
                    refine lv_aload_n G.1 G.2.1 d_Mo_fewest_220 rfl (lv_at hl 0 rfl) ?_
                    refine ugf (v := .ref (yP y_h64 a0 126)) G hP h_a0 iMo rfl 126 (by decide) rfl q3190 rfl rfl d_Mo_fewest_221 ?_
                    refine lv_iload_n G.1 G.2.1 d_Mo_fewest_224 rfl (lv_at hl 1 rfl) ?_
                    refine uiald G hP (kdp h_a0 rfl) (typ h_a0 rfl) h d_Mo_fewest_225 (fun x_3 h => ?_)
                    exact hret _ (y_h64, s_h64, d_h64, e_h64) _ _ _ _ _ ls h hP hD hS (Nat.le_refl _) (Nat.le_refl _) hd.1 hd.2 d_Mo_fewest_226
                  · skip
                    have h := h.2 c67
                    refine lv_iconst (v := 0) G.1 G.2.1 d_Mo_fewest_70 (by decide) ?_
                    refine lv_istore_n (lv' := [(3, .int 0), (0, .ref (ad a0)), (1, .int x1h64), (2, .int x2h64)]) G.1 G.2.1 d_Mo_fewest_71 rfl hl (by decide) rfl (fun ls hl => ?_)
                    refine lv_iconst (v := 0) G.1 G.2.1 d_Mo_fewest_72 (by decide) ?_
                    refine lv_istore (lv' := [(4, .int 0), (3, .int 0), (0, .ref (ad a0)), (1, .int x1h64), (2, .int x2h64)]) G.1 G.2.1 d_Mo_fewest_73 hl (by decide) rfl (fun ls hl => ?_)
                    unfold wla_Mo_fewest_75 at h
                    obtain ⟨I_75, μ_75, hI_75, hB_75⟩ := h
                    have L_75 : ∀ (n_75 : Nat) (y_h75 : Ly) (s_h75 : St) (d_h75 e_h75 : Nat) (x1h75 : Int32) (x2h75 : Int32) (x3h75 : Int32) (x4h75 : Int32), μ_75 y_h75 s_h75 d_h75 e_h75 x1h75 x2h75 x3h75 x4h75 < n_75 → I_75 y_h75 s_h75 d_h75 e_h75 x1h75 x2h75 x3h75 x4h75 → ∀ (H : Heap) (locs : List Loc), va_P D CL (ws g ad y_h75 s_h75) H → va_D A (ws g ad y_h75 s_h75) → va_S A s.heap H locs → ∀ ls, lv_has ls 5 [(0, .ref (ad a0)), (1, .int x1h75), (2, .int x2h75), (3, .int x3h75), (4, .int x4h75)] → W p l e (ra_Mo_fewest mc ms) s m args below meth c H locs d_h75 e_h75 Q (F0 m 75 ls []) := by
                      intro n_75
                      induction n_75 with
                      | zero => intro y_h75 s_h75 d_h75 e_h75 x1h75 x2h75 x3h75 x4h75 hμ; exact absurd hμ (Nat.not_lt_zero _)
                      | succ n_75 ih_75 =>
                        intro y_h75 s_h75 d_h75 e_h75 x1h75 x2h75 x3h75 x4h75 hμ_75 hJ H locs hP hD hS ls hl
                        obtain ⟨K_75, hK_75, h⟩ : ∃ K : Ly → St → Nat → Nat → Int32 → Int32 → Int32 → Int32 → Prop, (∀ z1 z2 z3 z4 (t0 : Int32) (t1 : Int32) (t2 : Int32) (t3 : Int32), K z1 z2 z3 z4 t0 t1 t2 t3 → I_75 z1 z2 z3 z4 t0 t1 t2 t3 ∧ μ_75 z1 z2 z3 z4 t0 t1 t2 t3 < μ_75 y_h75 s_h75 d_h75 e_h75 x1h75 x2h75 x3h75 x4h75) ∧ wba_Mo_fewest_75 mc ms Post PX K_64 K a0 y_h75 s_h75 d_h75 e_h75 x1h75 x2h75 x3h75 x4h75 := ⟨_, fun _ _ _ _ _ _ _ _ h => h, hB_75 y_h75 s_h75 d_h75 e_h75 x1h75 x2h75 x3h75 x4h75 hJ⟩
                        unfold wba_Mo_fewest_75 at h
                        obtain ⟨hd, h⟩ := h
                        refine lv_iload G.1 G.2.1 d_Mo_fewest_75 (lv_at hl 4 rfl) ?_
                        refine lv_sipush (v := 256) G.1 G.2.1 d_Mo_fewest_77 (by decide) ?_
                        refine lv_icmp_ge (tgt := 113) G.1 G.2.1 d_Mo_fewest_80 (by decide) (fun c80 => ?_) (fun c80 => ?_)
                        · skip
                          have h := h.1 c80
                          refine lv_iconst (v := 0) G.1 G.2.1 d_Mo_fewest_113 (by decide) ?_
                          refine lv_istore (lv' := [(4, .int 0), (0, .ref (ad a0)), (1, .int x1h75), (2, .int x2h75), (3, .int x3h75)]) G.1 G.2.1 d_Mo_fewest_114 hl (by decide) rfl (fun ls hl => ?_)
                          unfold wla_Mo_fewest_116 at h
                          obtain ⟨I_116, μ_116, hI_116, hB_116⟩ := h
                          have L_116 : ∀ (n_116 : Nat) (y_h116 : Ly) (s_h116 : St) (d_h116 e_h116 : Nat) (x1h116 : Int32) (x2h116 : Int32) (x3h116 : Int32) (x4h116 : Int32), μ_116 y_h116 s_h116 d_h116 e_h116 x1h116 x2h116 x3h116 x4h116 < n_116 → I_116 y_h116 s_h116 d_h116 e_h116 x1h116 x2h116 x3h116 x4h116 → ∀ (H : Heap) (locs : List Loc), va_P D CL (ws g ad y_h116 s_h116) H → va_D A (ws g ad y_h116 s_h116) → va_S A s.heap H locs → ∀ ls, lv_has ls 5 [(0, .ref (ad a0)), (1, .int x1h116), (2, .int x2h116), (3, .int x3h116), (4, .int x4h116)] → W p l e (ra_Mo_fewest mc ms) s m args below meth c H locs d_h116 e_h116 Q (F0 m 116 ls []) := by
                            intro n_116
                            induction n_116 with
                            | zero => intro y_h116 s_h116 d_h116 e_h116 x1h116 x2h116 x3h116 x4h116 hμ; exact absurd hμ (Nat.not_lt_zero _)
                            | succ n_116 ih_116 =>
                              intro y_h116 s_h116 d_h116 e_h116 x1h116 x2h116 x3h116 x4h116 hμ_116 hJ H locs hP hD hS ls hl
                              obtain ⟨K_116, hK_116, h⟩ : ∃ K : Ly → St → Nat → Nat → Int32 → Int32 → Int32 → Int32 → Prop, (∀ z1 z2 z3 z4 (t0 : Int32) (t1 : Int32) (t2 : Int32) (t3 : Int32), K z1 z2 z3 z4 t0 t1 t2 t3 → I_116 z1 z2 z3 z4 t0 t1 t2 t3 ∧ μ_116 z1 z2 z3 z4 t0 t1 t2 t3 < μ_116 y_h116 s_h116 d_h116 e_h116 x1h116 x2h116 x3h116 x4h116) ∧ wba_Mo_fewest_116 mc ms Post PX K_64 K a0 y_h116 s_h116 d_h116 e_h116 x1h116 x2h116 x3h116 x4h116 := ⟨_, fun _ _ _ _ _ _ _ _ h => h, hB_116 y_h116 s_h116 d_h116 e_h116 x1h116 x2h116 x3h116 x4h116 hJ⟩
                              unfold wba_Mo_fewest_116 at h
                              obtain ⟨hd, h⟩ := h
                              refine lv_iload G.1 G.2.1 d_Mo_fewest_116 (lv_at hl 4 rfl) ?_
                              refine lv_aload_n G.1 G.2.1 d_Mo_fewest_118 rfl (lv_at hl 0 rfl) ?_
                              refine ugf (v := .int (sV s_h116 a0 121)) G hP h_a0 iMo rfl 121 (by decide) rfl q3185 rfl rfl d_Mo_fewest_119 ?_
                              refine lv_icmp_ge (tgt := 155) G.1 G.2.1 d_Mo_fewest_122 (by decide) (fun c122 => ?_) (fun c122 => ?_)
                              · skip
                                have h := h.1 c122
                                refine lv_iconst (v := 0) G.1 G.2.1 d_Mo_fewest_155 (by decide) ?_
                                refine lv_istore (lv' := [(4, .int 0), (0, .ref (ad a0)), (1, .int x1h116), (2, .int x2h116), (3, .int x3h116)]) G.1 G.2.1 d_Mo_fewest_156 hl (by decide) rfl (fun ls hl => ?_)
                                unfold wla_Mo_fewest_158 at h
                                obtain ⟨I_158, μ_158, hI_158, hB_158⟩ := h
                                have L_158 : ∀ (n_158 : Nat) (y_h158 : Ly) (s_h158 : St) (d_h158 e_h158 : Nat) (x1h158 : Int32) (x2h158 : Int32) (x3h158 : Int32) (x4h158 : Int32), μ_158 y_h158 s_h158 d_h158 e_h158 x1h158 x2h158 x3h158 x4h158 < n_158 → I_158 y_h158 s_h158 d_h158 e_h158 x1h158 x2h158 x3h158 x4h158 → ∀ (H : Heap) (locs : List Loc), va_P D CL (ws g ad y_h158 s_h158) H → va_D A (ws g ad y_h158 s_h158) → va_S A s.heap H locs → ∀ ls, lv_has ls 5 [(0, .ref (ad a0)), (1, .int x1h158), (2, .int x2h158), (3, .int x3h158), (4, .int x4h158)] → W p l e (ra_Mo_fewest mc ms) s m args below meth c H locs d_h158 e_h158 Q (F0 m 158 ls []) := by
                                  intro n_158
                                  induction n_158 with
                                  | zero => intro y_h158 s_h158 d_h158 e_h158 x1h158 x2h158 x3h158 x4h158 hμ; exact absurd hμ (Nat.not_lt_zero _)
                                  | succ n_158 ih_158 =>
                                    intro y_h158 s_h158 d_h158 e_h158 x1h158 x2h158 x3h158 x4h158 hμ_158 hJ H locs hP hD hS ls hl
                                    obtain ⟨K_158, hK_158, h⟩ : ∃ K : Ly → St → Nat → Nat → Int32 → Int32 → Int32 → Int32 → Prop, (∀ z1 z2 z3 z4 (t0 : Int32) (t1 : Int32) (t2 : Int32) (t3 : Int32), K z1 z2 z3 z4 t0 t1 t2 t3 → I_158 z1 z2 z3 z4 t0 t1 t2 t3 ∧ μ_158 z1 z2 z3 z4 t0 t1 t2 t3 < μ_158 y_h158 s_h158 d_h158 e_h158 x1h158 x2h158 x3h158 x4h158) ∧ wba_Mo_fewest_158 mc ms Post PX K_64 K a0 y_h158 s_h158 d_h158 e_h158 x1h158 x2h158 x3h158 x4h158 := ⟨_, fun _ _ _ _ _ _ _ _ h => h, hB_158 y_h158 s_h158 d_h158 e_h158 x1h158 x2h158 x3h158 x4h158 hJ⟩
                                    unfold wba_Mo_fewest_158 at h
                                    obtain ⟨hd, h⟩ := h
                                    refine lv_iload G.1 G.2.1 d_Mo_fewest_158 (lv_at hl 4 rfl) ?_
                                    refine lv_sipush (v := 256) G.1 G.2.1 d_Mo_fewest_160 (by decide) ?_
                                    have J_214 : ∀ (y_j214 : Ly) (s_j214 : St) (d_j214 e_j214 : Nat) (x1j214 : Int32) (x2j214 : Int32) (H : Heap) (locs : List Loc), wja_Mo_fewest_214 mc ms Post PX K_64 a0 y_j214 s_j214 d_j214 e_j214 x1j214 x2j214 → va_P D CL (ws g ad y_j214 s_j214) H → va_D A (ws g ad y_j214 s_j214) → va_S A s.heap H locs → ∀ ls, lv_has ls 5 [(0, .ref (ad a0)), (1, .int x1j214), (2, .int x2j214)] → W p l e (ra_Mo_fewest mc ms) s m args below meth c H locs d_j214 e_j214 Q (F0 m 214 ls []) := by
                                      intro y_j214 s_j214 d_j214 e_j214 x1j214 x2j214 H locs h hP hD hS ls hl
                                      unfold wja_Mo_fewest_214 at h
                                      obtain ⟨hd, h⟩ := h
                                      refine lv_iinc (v := x2j214 + 1) (lv' := [(2, .int (x2j214 + 1)), (0, .ref (ad a0)), (1, .int x1j214)]) G.1 G.2.1 d_Mo_fewest_214 hl (k := 2) rfl rfl (by decide) rfl (fun ls hl => ?_)
                                      refine lv_goto (tgt := 64) G.1 G.2.1 d_Mo_fewest_217 (by decide) ?_
                                      have h := hK_64 y_j214 s_j214 d_j214 e_j214 x1j214 (x2j214 + 1) h
                                      exact ih_64 y_j214 s_j214 d_j214 e_j214 x1j214 (x2j214 + 1) (Nat.lt_of_lt_of_le h.2 (Nat.le_of_lt_succ hμ_64)) h.1 H locs hP hD hS ls (lv_sub hl [1, 2, 0] rfl)
                                    refine lv_icmp_ge (tgt := 214) G.1 G.2.1 d_Mo_fewest_163 (by decide) (fun c163 => ?_) (fun c163 => ?_)
                                    · skip
                                      have h := h.1 c163
                                      exact J_214 y_h158 s_h158 d_h158 e_h158 x1h158 x2h158 H locs h hP hD hS ls (lv_sub hl [0, 1, 2] rfl)
                                    · skip
                                      have h := h.2 c163
                                      refine lv_iload_n G.1 G.2.1 d_Mo_fewest_166 rfl (lv_at hl 3 rfl) ?_
                                      refine lv_if_eq (tgt := 214) G.1 G.2.1 d_Mo_fewest_167 (by decide) (fun c167 => ?_) (fun c167 => ?_)
                                      · skip
                                        have h := h.1 c167
                                        exact J_214 y_h158 s_h158 d_h158 e_h158 x1h158 x2h158 H locs h hP hD hS ls (lv_sub hl [0, 1, 2] rfl)
                                      · skip
                                        have h := h.2 c167
                                        refine lv_aload_n G.1 G.2.1 d_Mo_fewest_170 rfl (lv_at hl 0 rfl) ?_
                                        refine ugf (v := .ref (yP y_h158 a0 126)) G hP h_a0 iMo rfl 126 (by decide) rfl q3190 rfl rfl d_Mo_fewest_171 ?_
                                        refine lv_iload G.1 G.2.1 d_Mo_fewest_174 (lv_at hl 4 rfl) ?_
                                        refine lv_iload_n G.1 G.2.1 d_Mo_fewest_176 rfl (lv_at hl 2 rfl) ?_
                                        have J_207 : ∀ (y_j207 : Ly) (s_j207 : St) (d_j207 e_j207 : Nat) (x1j207 : Int32) (x2j207 : Int32) (x3j207 : Int32) (x4j207 : Int32) (z1j207 : Int32) (z2j207 : Int32) (H : Heap) (locs : List Loc), wja_Mo_fewest_207 mc ms Post PX K_64 K_158 a0 y_j207 s_j207 d_j207 e_j207 x1j207 x2j207 x3j207 x4j207 z1j207 z2j207 → va_P D CL (ws g ad y_j207 s_j207) H → va_D A (ws g ad y_j207 s_j207) → va_S A s.heap H locs → ∀ ls, lv_has ls 5 [(0, .ref (ad a0)), (1, .int x1j207), (2, .int x2j207), (3, .int x3j207), (4, .int x4j207)] → W p l e (ra_Mo_fewest mc ms) s m args below meth c H locs d_j207 e_j207 Q (F0 m 207 ls [.int z2j207, .int z1j207, .ref (yP y_j207 a0 126)]) := by
                                          intro y_j207 s_j207 d_j207 e_j207 x1j207 x2j207 x3j207 x4j207 z1j207 z2j207 H locs h hP hD hS ls hl
                                          unfold wja_Mo_fewest_207 at h
                                          obtain ⟨hd, h⟩ := h
                                          refine uiast G hP hD hS (kdp h_a0 rfl) (typ h_a0 rfl) h d_Mo_fewest_207 (fun s_4 H locs h hP hD hS => ?_)
                                          refine lv_iinc (v := x4j207 + 1) (lv' := [(4, .int (x4j207 + 1)), (0, .ref (ad a0)), (1, .int x1j207), (2, .int x2j207), (3, .int x3j207)]) G.1 G.2.1 d_Mo_fewest_208 hl (k := 4) rfl rfl (by decide) rfl (fun ls hl => ?_)
                                          refine lv_goto (tgt := 158) G.1 G.2.1 d_Mo_fewest_211 (by decide) ?_
                                          have h := hK_158 y_j207 s_4 d_j207 e_j207 x1j207 x2j207 x3j207 (x4j207 + 1) h
                                          exact ih_158 y_j207 s_4 d_j207 e_j207 x1j207 x2j207 x3j207 (x4j207 + 1) (Nat.lt_of_lt_of_le h.2 (Nat.le_of_lt_succ hμ_158)) h.1 H locs hP hD hS ls (lv_sub hl [1, 2, 3, 4, 0] rfl)
                                        refine lv_if_ne (tgt := 200) G.1 G.2.1 d_Mo_fewest_177 (by decide) (fun c177 => ?_) (fun c177 => ?_)
                                        · skip
                                          have h := h.1 c177
                                          refine lv_aload_n G.1 G.2.1 d_Mo_fewest_200 rfl (lv_at hl 0 rfl) ?_
                                          refine W.eq (g2 := F0 m 201 ls [.ref (ad a0), .int x4h158, .ref (yP y_h158 a0 126)]) rfl ?_
                                          refine ugf (v := .ref (yP y_h158 a0 128)) G hP h_a0 iMo rfl 128 (by decide) rfl q3192 rfl rfl d_Mo_fewest_201 ?_
                                          refine lv_iload G.1 G.2.1 d_Mo_fewest_204 (lv_at hl 4 rfl) ?_
                                          refine uiald G hP (kdp h_a0 rfl) (typ h_a0 rfl) h d_Mo_fewest_206 (fun x_5 h => ?_)
                                          exact J_207 y_h158 s_h158 d_h158 e_h158 x1h158 x2h158 x3h158 x4h158 x4h158 x_5 H locs h hP hD hS ls (lv_sub hl [0, 1, 2, 3, 4] rfl)
                                        · skip
                                          have h := h.2 c177
                                          refine lv_aload_n G.1 G.2.1 d_Mo_fewest_180 rfl (lv_at hl 0 rfl) ?_
                                          refine W.eq (g2 := F0 m 181 ls [.ref (ad a0), .int x4h158, .ref (yP y_h158 a0 126)]) rfl ?_
                                          refine ugf (v := .ref (yP y_h158 a0 127)) G hP h_a0 iMo rfl 127 (by decide) rfl q3191 rfl rfl d_Mo_fewest_181 ?_
                                          refine lv_iload G.1 G.2.1 d_Mo_fewest_184 (lv_at hl 4 rfl) ?_
                                          refine uiald G hP (kdp h_a0 rfl) (typ h_a0 rfl) h d_Mo_fewest_186 (fun x_6 h => ?_)
                                          refine lv_aload_n G.1 G.2.1 d_Mo_fewest_187 rfl (lv_at hl 0 rfl) ?_
                                          refine ugf (v := .ref (yP y_h158 a0 128)) G hP h_a0 iMo rfl 128 (by decide) rfl q3192 rfl rfl d_Mo_fewest_188 ?_
                                          refine lv_iload G.1 G.2.1 d_Mo_fewest_191 (lv_at hl 4 rfl) ?_
                                          refine uiald G hP (kdp h_a0 rfl) (typ h_a0 rfl) h d_Mo_fewest_193 (fun x_7 h => ?_)
                                          refine va_mmin G.1 G.2.1 (G.2.2.1.trans hl.1.symm) G.2.2.2.2.2.2.1 (G.2.2.2.2.2.1 _ q3640) (G.2.2.2.2.2.1 _ q484) (G.2.2.2.2.2.1 _ q337) (G.2.2.2.2.2.1 _ q485) (Nat.le_of_ble_eq_true rfl) (Nat.le_of_ble_eq_true rfl) hd.1 hd.2 d_Mo_fewest_194 ?_
                                          refine lv_goto (tgt := 207) G.1 G.2.1 d_Mo_fewest_197 (by decide) ?_
                                          exact J_207 y_h158 s_h158 d_h158 e_h158 x1h158 x2h158 x3h158 x4h158 x4h158 (if x_7 < x_6 then x_7 else x_6) H locs h hP hD hS ls (lv_sub hl [0, 1, 2, 3, 4] rfl)
                                exact L_158 _ y_h116 s_h116 d_h116 e_h116 x1h116 x2h116 x3h116 0 (Nat.lt_succ_self _) hI_158 H locs hP hD hS ls (lv_sub hl [1, 2, 3, 4, 0] rfl)
                              · skip
                                have h := h.2 c122
                                refine lv_aload_n G.1 G.2.1 d_Mo_fewest_125 rfl (lv_at hl 0 rfl) ?_
                                refine ugf (v := .ref (yP y_h116 a0 119)) G hP h_a0 iMo rfl 119 (by decide) rfl q3183 rfl rfl d_Mo_fewest_126 ?_
                                refine lv_iload G.1 G.2.1 d_Mo_fewest_129 (lv_at hl 4 rfl) ?_
                                refine uiald G hP (kdp h_a0 rfl) (typ h_a0 rfl) h d_Mo_fewest_131 (fun x_8 h => ?_)
                                refine lv_iload_n G.1 G.2.1 d_Mo_fewest_132 rfl (lv_at hl 2 rfl) ?_
                                have J_149 : ∀ (y_j149 : Ly) (s_j149 : St) (d_j149 e_j149 : Nat) (x1j149 : Int32) (x2j149 : Int32) (x3j149 : Int32) (x4j149 : Int32) (H : Heap) (locs : List Loc), wja_Mo_fewest_149 mc ms Post PX K_64 K_116 a0 y_j149 s_j149 d_j149 e_j149 x1j149 x2j149 x3j149 x4j149 → va_P D CL (ws g ad y_j149 s_j149) H → va_D A (ws g ad y_j149 s_j149) → va_S A s.heap H locs → ∀ ls, lv_has ls 5 [(0, .ref (ad a0)), (1, .int x1j149), (2, .int x2j149), (3, .int x3j149), (4, .int x4j149)] → W p l e (ra_Mo_fewest mc ms) s m args below meth c H locs d_j149 e_j149 Q (F0 m 149 ls []) := by
                                  intro y_j149 s_j149 d_j149 e_j149 x1j149 x2j149 x3j149 x4j149 H locs h hP hD hS ls hl
                                  unfold wja_Mo_fewest_149 at h
                                  obtain ⟨hd, h⟩ := h
                                  refine lv_iinc (v := x4j149 + 1) (lv' := [(4, .int (x4j149 + 1)), (0, .ref (ad a0)), (1, .int x1j149), (2, .int x2j149), (3, .int x3j149)]) G.1 G.2.1 d_Mo_fewest_149 hl (k := 4) rfl rfl (by decide) rfl (fun ls hl => ?_)
                                  refine lv_goto (tgt := 116) G.1 G.2.1 d_Mo_fewest_152 (by decide) ?_
                                  have h := hK_116 y_j149 s_j149 d_j149 e_j149 x1j149 x2j149 x3j149 (x4j149 + 1) h
                                  exact ih_116 y_j149 s_j149 d_j149 e_j149 x1j149 x2j149 x3j149 (x4j149 + 1) (Nat.lt_of_lt_of_le h.2 (Nat.le_of_lt_succ hμ_116)) h.1 H locs hP hD hS ls (lv_sub hl [1, 2, 3, 4, 0] rfl)
                                refine lv_icmp_ne (tgt := 149) G.1 G.2.1 d_Mo_fewest_133 (by decide) (fun c133 => ?_) (fun c133 => ?_)
                                · skip
                                  have h := h.1 c133
                                  exact J_149 y_h116 s_h116 d_h116 e_h116 x1h116 x2h116 x3h116 x4h116 H locs h hP hD hS ls (lv_sub hl [0, 1, 2, 3, 4] rfl)
                                · skip
                                  have h := h.2 c133
                                  refine lv_iconst (v := 1) G.1 G.2.1 d_Mo_fewest_136 (by decide) ?_
                                  refine W.eq (g2 := F0 m 137 ls [.int 1]) rfl ?_
                                  refine lv_istore_n (lv' := [(3, .int 1), (0, .ref (ad a0)), (1, .int x1h116), (2, .int x2h116), (4, .int x4h116)]) G.1 G.2.1 d_Mo_fewest_137 rfl hl (by decide) rfl (fun ls hl => ?_)
                                  refine lv_aload_n G.1 G.2.1 d_Mo_fewest_138 rfl (lv_at hl 1 rfl) ?_
                                  refine lv_aload_n G.1 G.2.1 d_Mo_fewest_139 rfl (lv_at hl 1 rfl) ?_
                                  refine ugf (v := .ref (yP y_h116 a0 120)) G hP h_a0 iMo rfl 120 (by decide) rfl q3184 rfl rfl d_Mo_fewest_140 ?_
                                  refine lv_iload G.1 G.2.1 d_Mo_fewest_143 (lv_at hl 4 rfl) ?_
                                  refine uiald G hP (kdp h_a0 rfl) (typ h_a0 rfl) h d_Mo_fewest_145 (fun x_9 h => ?_)
                                  refine ucVv (As := [.int x_9]) (rest := []) G hP hD hS (cu_Mo_addTrial l D g ad y_h116 _ s_h116 a0 x_9 H.size h_a0 h) w9_Mo_addTrial q4267 ⟨Nat.le_of_ble_eq_true rfl, Nat.le_of_ble_eq_true rfl⟩ rfl rfl h_a0 (q := (RMo, TMo, 131)) rfl rfl hl.1 rfl (Nat.le_of_ble_eq_true rfl) rfl hd d_Mo_fewest_146 (fun s_11 H locs h hP hD hS => ?_)
                                  exact J_149 y_h116 s_11 d_h116 e_h116 x1h116 x2h116 1 x4h116 H locs h hP hD hS ls (lv_sub hl [1, 2, 3, 0, 4] rfl)
                          exact L_116 _ y_h75 s_h75 d_h75 e_h75 x1h75 x2h75 x3h75 0 (Nat.lt_succ_self _) hI_116 H locs hP hD hS ls (lv_sub hl [1, 2, 3, 4, 0] rfl)
                        · skip
                          have h := h.2 c80
                          refine lv_aload_n G.1 G.2.1 d_Mo_fewest_83 rfl (lv_at hl 0 rfl) ?_
                          refine ugf (v := .ref (yP y_h75 a0 127)) G hP h_a0 iMo rfl 127 (by decide) rfl q3191 rfl rfl d_Mo_fewest_84 ?_
                          refine lv_iload G.1 G.2.1 d_Mo_fewest_87 (lv_at hl 4 rfl) ?_
                          refine lv_aload_n G.1 G.2.1 d_Mo_fewest_89 rfl (lv_at hl 0 rfl) ?_
                          refine ugf (v := .ref (yP y_h75 a0 126)) G hP h_a0 iMo rfl 126 (by decide) rfl q3190 rfl rfl d_Mo_fewest_90 ?_
                          refine lv_iload G.1 G.2.1 d_Mo_fewest_93 (lv_at hl 4 rfl) ?_
                          refine uiald G hP (kdp h_a0 rfl) (typ h_a0 rfl) h d_Mo_fewest_95 (fun x_12 h => ?_)
                          refine uiast G hP hD hS (kdp h_a0 rfl) (typ h_a0 rfl) h d_Mo_fewest_96 (fun s_13 H locs h hP hD hS => ?_)
                          refine W.eq (g2 := F0 m 97 ls []) rfl ?_
                          refine lv_aload_n G.1 G.2.1 d_Mo_fewest_97 rfl (lv_at hl 0 rfl) ?_
                          refine ugf (v := .ref (yP y_h75 a0 128)) G hP h_a0 iMo rfl 128 (by decide) rfl q3192 rfl rfl d_Mo_fewest_98 ?_
                          refine lv_iload G.1 G.2.1 d_Mo_fewest_101 (lv_at hl 4 rfl) ?_
                          refine lv_sipush (v := 1000) G.1 G.2.1 d_Mo_fewest_103 (by decide) ?_
                          refine uiast G hP hD hS (kdp h_a0 rfl) (typ h_a0 rfl) h d_Mo_fewest_106 (fun s_14 H locs h hP hD hS => ?_)
                          refine lv_iinc (v := x4h75 + 1) (lv' := [(4, .int (x4h75 + 1)), (0, .ref (ad a0)), (1, .int x1h75), (2, .int x2h75), (3, .int x3h75)]) G.1 G.2.1 d_Mo_fewest_107 hl (k := 4) rfl rfl (by decide) rfl (fun ls hl => ?_)
                          refine lv_goto (tgt := 75) G.1 G.2.1 d_Mo_fewest_110 (by decide) ?_
                          have h := hK_75 y_h75 s_14 d_h75 e_h75 x1h75 x2h75 x3h75 (x4h75 + 1) h
                          exact ih_75 y_h75 s_14 d_h75 e_h75 x1h75 x2h75 x3h75 (x4h75 + 1) (Nat.lt_of_lt_of_le h.2 (Nat.le_of_lt_succ hμ_75)) h.1 H locs hP hD hS ls (lv_sub hl [1, 2, 3, 4, 0] rfl)
                    exact L_75 _ y_h64 s_h64 d_h64 e_h64 x1h64 x2h64 0 0 (Nat.lt_succ_self _) hI_75 H locs hP hD hS ls (lv_sub hl [2, 3, 4, 1, 0] rfl)
              exact L_64 _ y_h32 s_h32 d_h32 e_h32 x1h32 0 (Nat.lt_succ_self _) hI_64 H locs hP hD hS ls (lv_sub hl [1, 2, 0] rfl)
            · skip
              have h := h.2 c36
              refine lv_aload_n G.1 G.2.1 d_Mo_fewest_39 rfl (lv_at hl 0 rfl) ?_
              refine ugf (v := .ref (yP y_h32 a0 126)) G hP h_a0 iMo rfl 126 (by decide) rfl q3190 rfl rfl d_Mo_fewest_40 ?_
              refine lv_iload_n G.1 G.2.1 d_Mo_fewest_43 rfl (lv_at hl 2 rfl) ?_
              refine lv_iload_n G.1 G.2.1 d_Mo_fewest_44 rfl (lv_at hl 2 rfl) ?_
              have J_55 : ∀ (y_j55 : Ly) (s_j55 : St) (d_j55 e_j55 : Nat) (x1j55 : Int32) (x2j55 : Int32) (z1j55 : Int32) (z2j55 : Int32) (H : Heap) (locs : List Loc), wja_Mo_fewest_55 mc ms Post PX K_32 a0 y_j55 s_j55 d_j55 e_j55 x1j55 x2j55 z1j55 z2j55 → va_P D CL (ws g ad y_j55 s_j55) H → va_D A (ws g ad y_j55 s_j55) → va_S A s.heap H locs → ∀ ls, lv_has ls 5 [(0, .ref (ad a0)), (1, .int x1j55), (2, .int x2j55)] → W p l e (ra_Mo_fewest mc ms) s m args below meth c H locs d_j55 e_j55 Q (F0 m 55 ls [.int z2j55, .int z1j55, .ref (yP y_j55 a0 126)]) := by
                intro y_j55 s_j55 d_j55 e_j55 x1j55 x2j55 z1j55 z2j55 H locs h hP hD hS ls hl
                unfold wja_Mo_fewest_55 at h
                obtain ⟨hd, h⟩ := h
                refine uiast G hP hD hS (kdp h_a0 rfl) (typ h_a0 rfl) h d_Mo_fewest_55 (fun s_15 H locs h hP hD hS => ?_)
                refine lv_iinc (v := x2j55 + 1) (lv' := [(2, .int (x2j55 + 1)), (0, .ref (ad a0)), (1, .int x1j55)]) G.1 G.2.1 d_Mo_fewest_56 hl (k := 2) rfl rfl (by decide) rfl (fun ls hl => ?_)
                refine lv_goto (tgt := 32) G.1 G.2.1 d_Mo_fewest_59 (by decide) ?_
                have h := hK_32 y_j55 s_15 d_j55 e_j55 x1j55 (x2j55 + 1) h
                exact ih_32 y_j55 s_15 d_j55 e_j55 x1j55 (x2j55 + 1) (Nat.lt_of_lt_of_le h.2 (Nat.le_of_lt_succ hμ_32)) h.1 H locs hP hD hS ls (lv_sub hl [1, 2, 0] rfl)
              refine lv_if_ne (tgt := 52) G.1 G.2.1 d_Mo_fewest_45 (by decide) (fun c45 => ?_) (fun c45 => ?_)
              · skip
                have h := h.1 c45
                refine lv_sipush (v := 1000) G.1 G.2.1 d_Mo_fewest_52 (by decide) ?_
                exact J_55 y_h32 s_h32 d_h32 e_h32 x1h32 x2h32 x2h32 1000 H locs h hP hD hS ls (lv_sub hl [0, 1, 2] rfl)
              · skip
                have h := h.2 c45
                refine lv_iconst (v := 0) G.1 G.2.1 d_Mo_fewest_48 (by decide) ?_
                refine lv_goto (tgt := 55) G.1 G.2.1 d_Mo_fewest_49 (by decide) ?_
                exact J_55 y_h32 s_h32 d_h32 e_h32 x1h32 x2h32 x2h32 0 H locs h hP hD hS ls (lv_sub hl [0, 1, 2] rfl)
        exact L_32 _ y_h2 s_2 d_h2 e_h2 r_1.toInt32 0 (Nat.lt_succ_self _) hI_32 H locs hP hD hS ls (lv_sub hl [2, 1, 0] rfl)
      · skip
        have h := h.2 c7
        refine lv_aload_n G.1 G.2.1 d_Mo_fewest_10 rfl (lv_at hl 0 rfl) ?_
        refine lv_iload_n G.1 G.2.1 d_Mo_fewest_11 rfl (lv_at hl 1 rfl) ?_
        obtain ⟨mc_21, ms_22, hr_23, h⟩ := h
        refine uxVv (As := [.int x1h2]) (rest := []) G hP hD hS (cx_Mo_look l D g ad mc_21 ms_22 y_h2 _ _ s_h2 a0 x1h2 H.size (us H) h_a0 h) (fun _ h => absurd h List.not_mem_nil) w9_Mo_look q4240 ⟨Nat.le_of_ble_eq_true rfl, Nat.le_of_ble_eq_true rfl⟩ rfl rfl h_a0 (q := (RMo, TMo, 131)) rfl rfl hl.1 rfl (Nat.le_of_ble_eq_true rfl) rfl hr_23 d_Mo_fewest_12 (fun y_18 s_17 d_19 e_20 H locs q9 ce h hP hD hS hce hcv hcl => ?_) (fun y_18 s_17 d_19 e_20 H locs h hP hD hS => ?_)
        · skip
          obtain ⟨hd, h⟩ := h
          exact hretX h hP hD hS hd.1 hd.2 hce hcv hcl
        obtain ⟨hd, h⟩ := h
        refine lv_iinc (v := x1h2 + 1) (lv' := [(1, .int (x1h2 + 1)), (0, .ref (ad a0))]) G.1 G.2.1 d_Mo_fewest_15 hl (k := 1) rfl rfl (by decide) rfl (fun ls hl => ?_)
        refine lv_goto (tgt := 2) G.1 G.2.1 d_Mo_fewest_18 (by decide) ?_
        have h := hK_2 y_18 s_17 (d_h2 + d_19) (e_h2 + e_20) (x1h2 + 1) h
        exact ih_2 y_18 s_17 (d_h2 + d_19) (e_h2 + e_20) (x1h2 + 1) (Nat.lt_of_lt_of_le h.2 (Nat.le_of_lt_succ hμ_2)) h.1 H locs hP hD hS ls (lv_sub hl [1, 0] rfl)
  exact L_2 _ y σ 0 0 0 (Nat.lt_succ_self _) hI_2 H locs hP hD hS ls (lv_sub hl [1, 0] rfl)
def y_Mo_shrink : MethodName := ⟨"ClassWorksModel", "shrink", "(II)I"⟩
abbrev b_Mo_shrink : ByteArray := prog_14_method_211_code
theorem d_Mo_shrink_0 : decode b_Mo_shrink 0 = .ok (.aload_n 0, 1) := by decide +kernel
theorem d_Mo_shrink_1 : decode b_Mo_shrink 1 = .ok (.iload_n 1, 1) := by decide +kernel
theorem d_Mo_shrink_2 : decode b_Mo_shrink 2 = .ok (.invokevirtual 1329, 3) := by decide +kernel
theorem d_Mo_shrink_5 : decode b_Mo_shrink 5 = .ok (.ifCond .eq 14, 3) := by decide +kernel
theorem d_Mo_shrink_8 : decode b_Mo_shrink 8 = .ok (.iload_n 2, 1) := by decide +kernel
theorem d_Mo_shrink_9 : decode b_Mo_shrink 9 = .ok (.ifCond .lt 10, 3) := by decide +kernel
theorem d_Mo_shrink_12 : decode b_Mo_shrink 12 = .ok (.iload_n 2, 1) := by decide +kernel
theorem d_Mo_shrink_13 : decode b_Mo_shrink 13 = .ok (.sipush 255, 3) := by decide +kernel
theorem d_Mo_shrink_16 : decode b_Mo_shrink 16 = .ok (.if_icmp .le 5, 3) := by decide +kernel
theorem d_Mo_shrink_19 : decode b_Mo_shrink 19 = .ok (.iconst (-1), 1) := by decide +kernel
theorem d_Mo_shrink_20 : decode b_Mo_shrink 20 = .ok (.ireturn, 1) := by decide +kernel
theorem d_Mo_shrink_21 : decode b_Mo_shrink 21 = .ok (.aload_n 0, 1) := by decide +kernel
theorem d_Mo_shrink_22 : decode b_Mo_shrink 22 = .ok (.iload_n 1, 1) := by decide +kernel
theorem d_Mo_shrink_23 : decode b_Mo_shrink 23 = .ok (.invokevirtual 1332, 3) := by decide +kernel
theorem d_Mo_shrink_26 : decode b_Mo_shrink 26 = .ok (.aload_n 0, 1) := by decide +kernel
theorem d_Mo_shrink_27 : decode b_Mo_shrink 27 = .ok (.iconst 0, 1) := by decide +kernel
theorem d_Mo_shrink_28 : decode b_Mo_shrink 28 = .ok (.invokevirtual 1335, 3) := by decide +kernel
theorem d_Mo_shrink_31 : decode b_Mo_shrink 31 = .ok (.aload_n 0, 1) := by decide +kernel
theorem d_Mo_shrink_32 : decode b_Mo_shrink 32 = .ok (.getfield 1323, 3) := by decide +kernel
theorem d_Mo_shrink_35 : decode b_Mo_shrink 35 = .ok (.istore_n 3, 1) := by decide +kernel
theorem d_Mo_shrink_36 : decode b_Mo_shrink 36 = .ok (.aload_n 0, 1) := by decide +kernel
theorem d_Mo_shrink_37 : decode b_Mo_shrink 37 = .ok (.getfield 1326, 3) := by decide +kernel
theorem d_Mo_shrink_40 : decode b_Mo_shrink 40 = .ok (.istore 4, 2) := by decide +kernel
theorem d_Mo_shrink_42 : decode b_Mo_shrink 42 = .ok (.aload_n 0, 1) := by decide +kernel
theorem d_Mo_shrink_43 : decode b_Mo_shrink 43 = .ok (.iload_n 2, 1) := by decide +kernel
theorem d_Mo_shrink_44 : decode b_Mo_shrink 44 = .ok (.invokevirtual 1335, 3) := by decide +kernel
theorem d_Mo_shrink_47 : decode b_Mo_shrink 47 = .ok (.aload_n 0, 1) := by decide +kernel
theorem d_Mo_shrink_48 : decode b_Mo_shrink 48 = .ok (.getfield 1323, 3) := by decide +kernel
theorem d_Mo_shrink_51 : decode b_Mo_shrink 51 = .ok (.istore 5, 2) := by decide +kernel
theorem d_Mo_shrink_53 : decode b_Mo_shrink 53 = .ok (.aload_n 0, 1) := by decide +kernel
theorem d_Mo_shrink_54 : decode b_Mo_shrink 54 = .ok (.getfield 1326, 3) := by decide +kernel
theorem d_Mo_shrink_57 : decode b_Mo_shrink 57 = .ok (.istore 6, 2) := by decide +kernel
theorem d_Mo_shrink_59 : decode b_Mo_shrink 59 = .ok (.aload_n 0, 1) := by decide +kernel
theorem d_Mo_shrink_60 : decode b_Mo_shrink 60 = .ok (.iload_n 1, 1) := by decide +kernel
theorem d_Mo_shrink_61 : decode b_Mo_shrink 61 = .ok (.invokevirtual 1350, 3) := by decide +kernel
theorem d_Mo_shrink_64 : decode b_Mo_shrink 64 = .ok (.iconst 2, 1) := by decide +kernel
theorem d_Mo_shrink_65 : decode b_Mo_shrink 65 = .ok (.isub, 1) := by decide +kernel
theorem d_Mo_shrink_66 : decode b_Mo_shrink 66 = .ok (.istore 7, 2) := by decide +kernel
theorem d_Mo_shrink_68 : decode b_Mo_shrink 68 = .ok (.iload 7, 2) := by decide +kernel
theorem d_Mo_shrink_70 : decode b_Mo_shrink 70 = .ok (.ifCond .lt 151, 3) := by decide +kernel
theorem d_Mo_shrink_73 : decode b_Mo_shrink 73 = .ok (.aload_n 0, 1) := by decide +kernel
theorem d_Mo_shrink_74 : decode b_Mo_shrink 74 = .ok (.iload_n 1, 1) := by decide +kernel
theorem d_Mo_shrink_75 : decode b_Mo_shrink 75 = .ok (.invokevirtual 1350, 3) := by decide +kernel
theorem d_Mo_shrink_78 : decode b_Mo_shrink 78 = .ok (.istore 8, 2) := by decide +kernel
theorem d_Mo_shrink_80 : decode b_Mo_shrink 80 = .ok (.aload_n 0, 1) := by decide +kernel
theorem d_Mo_shrink_81 : decode b_Mo_shrink 81 = .ok (.iconst 0, 1) := by decide +kernel
theorem d_Mo_shrink_82 : decode b_Mo_shrink 82 = .ok (.putfield 1317, 3) := by decide +kernel
theorem d_Mo_shrink_85 : decode b_Mo_shrink 85 = .ok (.iconst 0, 1) := by decide +kernel
theorem d_Mo_shrink_86 : decode b_Mo_shrink 86 = .ok (.istore 9, 2) := by decide +kernel
theorem d_Mo_shrink_88 : decode b_Mo_shrink 88 = .ok (.iload 9, 2) := by decide +kernel
theorem d_Mo_shrink_90 : decode b_Mo_shrink 90 = .ok (.iload 8, 2) := by decide +kernel
theorem d_Mo_shrink_92 : decode b_Mo_shrink 92 = .ok (.if_icmp .ge 23, 3) := by decide +kernel
theorem d_Mo_shrink_95 : decode b_Mo_shrink 95 = .ok (.iload 9, 2) := by decide +kernel
theorem d_Mo_shrink_97 : decode b_Mo_shrink 97 = .ok (.iload 7, 2) := by decide +kernel
theorem d_Mo_shrink_99 : decode b_Mo_shrink 99 = .ok (.if_icmp .eq 10, 3) := by decide +kernel
theorem d_Mo_shrink_102 : decode b_Mo_shrink 102 = .ok (.aload_n 0, 1) := by decide +kernel
theorem d_Mo_shrink_103 : decode b_Mo_shrink 103 = .ok (.iload_n 1, 1) := by decide +kernel
theorem d_Mo_shrink_104 : decode b_Mo_shrink 104 = .ok (.iload 9, 2) := by decide +kernel
theorem d_Mo_shrink_106 : decode b_Mo_shrink 106 = .ok (.invokevirtual 1353, 3) := by decide +kernel
theorem d_Mo_shrink_109 : decode b_Mo_shrink 109 = .ok (.iinc 9 1, 3) := by decide +kernel
theorem d_Mo_shrink_112 : decode b_Mo_shrink 112 = .ok (.goto (-24), 3) := by decide +kernel
theorem d_Mo_shrink_115 : decode b_Mo_shrink 115 = .ok (.aload_n 0, 1) := by decide +kernel
theorem d_Mo_shrink_116 : decode b_Mo_shrink 116 = .ok (.iconst 0, 1) := by decide +kernel
theorem d_Mo_shrink_117 : decode b_Mo_shrink 117 = .ok (.invokevirtual 1335, 3) := by decide +kernel
theorem d_Mo_shrink_120 : decode b_Mo_shrink 120 = .ok (.aload_n 0, 1) := by decide +kernel
theorem d_Mo_shrink_121 : decode b_Mo_shrink 121 = .ok (.getfield 1323, 3) := by decide +kernel
theorem d_Mo_shrink_124 : decode b_Mo_shrink 124 = .ok (.iload_n 3, 1) := by decide +kernel
theorem d_Mo_shrink_125 : decode b_Mo_shrink 125 = .ok (.if_icmp .ne 16, 3) := by decide +kernel
theorem d_Mo_shrink_128 : decode b_Mo_shrink 128 = .ok (.aload_n 0, 1) := by decide +kernel
theorem d_Mo_shrink_129 : decode b_Mo_shrink 129 = .ok (.getfield 1326, 3) := by decide +kernel
theorem d_Mo_shrink_132 : decode b_Mo_shrink 132 = .ok (.iload 4, 2) := by decide +kernel
theorem d_Mo_shrink_134 : decode b_Mo_shrink 134 = .ok (.if_icmp .ne 7, 3) := by decide +kernel
theorem d_Mo_shrink_137 : decode b_Mo_shrink 137 = .ok (.iconst 1, 1) := by decide +kernel
theorem d_Mo_shrink_138 : decode b_Mo_shrink 138 = .ok (.goto 4, 3) := by decide +kernel
theorem d_Mo_shrink_141 : decode b_Mo_shrink 141 = .ok (.iconst 0, 1) := by decide +kernel
theorem d_Mo_shrink_142 : decode b_Mo_shrink 142 = .ok (.istore 9, 2) := by decide +kernel
theorem d_Mo_shrink_144 : decode b_Mo_shrink 144 = .ok (.iload 9, 2) := by decide +kernel
theorem d_Mo_shrink_146 : decode b_Mo_shrink 146 = .ok (.ifCond .eq 33, 3) := by decide +kernel
theorem d_Mo_shrink_149 : decode b_Mo_shrink 149 = .ok (.aload_n 0, 1) := by decide +kernel
theorem d_Mo_shrink_150 : decode b_Mo_shrink 150 = .ok (.iload_n 2, 1) := by decide +kernel
theorem d_Mo_shrink_151 : decode b_Mo_shrink 151 = .ok (.invokevirtual 1335, 3) := by decide +kernel
theorem d_Mo_shrink_154 : decode b_Mo_shrink 154 = .ok (.aload_n 0, 1) := by decide +kernel
theorem d_Mo_shrink_155 : decode b_Mo_shrink 155 = .ok (.getfield 1323, 3) := by decide +kernel
theorem d_Mo_shrink_158 : decode b_Mo_shrink 158 = .ok (.iload 5, 2) := by decide +kernel
theorem d_Mo_shrink_160 : decode b_Mo_shrink 160 = .ok (.if_icmp .ne 16, 3) := by decide +kernel
theorem d_Mo_shrink_163 : decode b_Mo_shrink 163 = .ok (.aload_n 0, 1) := by decide +kernel
theorem d_Mo_shrink_164 : decode b_Mo_shrink 164 = .ok (.getfield 1326, 3) := by decide +kernel
theorem d_Mo_shrink_167 : decode b_Mo_shrink 167 = .ok (.iload 6, 2) := by decide +kernel
theorem d_Mo_shrink_169 : decode b_Mo_shrink 169 = .ok (.if_icmp .ne 7, 3) := by decide +kernel
theorem d_Mo_shrink_172 : decode b_Mo_shrink 172 = .ok (.iconst 1, 1) := by decide +kernel
theorem d_Mo_shrink_173 : decode b_Mo_shrink 173 = .ok (.goto 4, 3) := by decide +kernel
theorem d_Mo_shrink_176 : decode b_Mo_shrink 176 = .ok (.iconst 0, 1) := by decide +kernel
theorem d_Mo_shrink_177 : decode b_Mo_shrink 177 = .ok (.istore 9, 2) := by decide +kernel
theorem d_Mo_shrink_179 : decode b_Mo_shrink 179 = .ok (.iload 9, 2) := by decide +kernel
theorem d_Mo_shrink_181 : decode b_Mo_shrink 181 = .ok (.ifCond .eq 34, 3) := by decide +kernel
theorem d_Mo_shrink_184 : decode b_Mo_shrink 184 = .ok (.aload_n 0, 1) := by decide +kernel
theorem d_Mo_shrink_185 : decode b_Mo_shrink 185 = .ok (.getfield 387, 3) := by decide +kernel
theorem d_Mo_shrink_188 : decode b_Mo_shrink 188 = .ok (.iconst 0, 1) := by decide +kernel
theorem d_Mo_shrink_189 : decode b_Mo_shrink 189 = .ok (.aload_n 0, 1) := by decide +kernel
theorem d_Mo_shrink_190 : decode b_Mo_shrink 190 = .ok (.getfield 372, 3) := by decide +kernel
theorem d_Mo_shrink_193 : decode b_Mo_shrink 193 = .ok (.sipush 1204, 3) := by decide +kernel
theorem d_Mo_shrink_196 : decode b_Mo_shrink 196 = .ok (.iload_n 1, 1) := by decide +kernel
theorem d_Mo_shrink_197 : decode b_Mo_shrink 197 = .ok (.imul, 1) := by decide +kernel
theorem d_Mo_shrink_198 : decode b_Mo_shrink 198 = .ok (.aload_n 0, 1) := by decide +kernel
theorem d_Mo_shrink_199 : decode b_Mo_shrink 199 = .ok (.getfield 1317, 3) := by decide +kernel
theorem d_Mo_shrink_202 : decode b_Mo_shrink 202 = .ok (.invokestatic 11, 3) := by decide +kernel
theorem d_Mo_shrink_205 : decode b_Mo_shrink 205 = .ok (.aload_n 0, 1) := by decide +kernel
theorem d_Mo_shrink_206 : decode b_Mo_shrink 206 = .ok (.getfield 375, 3) := by decide +kernel
theorem d_Mo_shrink_209 : decode b_Mo_shrink 209 = .ok (.iload_n 1, 1) := by decide +kernel
theorem d_Mo_shrink_210 : decode b_Mo_shrink 210 = .ok (.aload_n 0, 1) := by decide +kernel
theorem d_Mo_shrink_211 : decode b_Mo_shrink 211 = .ok (.getfield 1317, 3) := by decide +kernel
theorem d_Mo_shrink_214 : decode b_Mo_shrink 214 = .ok (.iastore, 1) := by decide +kernel
theorem d_Mo_shrink_215 : decode b_Mo_shrink 215 = .ok (.iinc 7 (-1), 3) := by decide +kernel
theorem d_Mo_shrink_218 : decode b_Mo_shrink 218 = .ok (.goto (-150), 3) := by decide +kernel
theorem d_Mo_shrink_221 : decode b_Mo_shrink 221 = .ok (.aload_n 0, 1) := by decide +kernel
theorem d_Mo_shrink_222 : decode b_Mo_shrink 222 = .ok (.getfield 378, 3) := by decide +kernel
theorem d_Mo_shrink_225 : decode b_Mo_shrink 225 = .ok (.iload_n 1, 1) := by decide +kernel
theorem d_Mo_shrink_226 : decode b_Mo_shrink 226 = .ok (.iconst 0, 1) := by decide +kernel
theorem d_Mo_shrink_227 : decode b_Mo_shrink 227 = .ok (.bastore, 1) := by decide +kernel
theorem d_Mo_shrink_228 : decode b_Mo_shrink 228 = .ok (.aload_n 0, 1) := by decide +kernel
theorem d_Mo_shrink_229 : decode b_Mo_shrink 229 = .ok (.iload_n 1, 1) := by decide +kernel
theorem d_Mo_shrink_230 : decode b_Mo_shrink 230 = .ok (.invokevirtual 1350, 3) := by decide +kernel
theorem d_Mo_shrink_233 : decode b_Mo_shrink 233 = .ok (.ireturn, 1) := by decide +kernel
abbrev ra_Mo_shrink (mc ms : Nat) : Room := { frames := 476, cells := mc, slots := ms, locals := 11590 }
def wja_Mo_shrink_19 (mc ms : Nat) (Post : Ly → St → Int32 → Nat → Nat → Prop) (PX : Ly → St → Nat → Nat → Prop) (a0 : Nat) (y_j19 : Ly) (s_j19 : St) (d_j19 e_j19 : Nat) : Prop := (d_j19 ≤ mc ∧ e_j19 ≤ ms) ∧ Post y_j19 s_j19 (-1) d_j19 e_j19
def wja_Mo_shrink_215 (mc ms : Nat) (Post : Ly → St → Int32 → Nat → Nat → Prop) (PX : Ly → St → Nat → Nat → Prop) (K_68 : Ly → St → Nat → Nat → Int32 → Int32 → Int32 → Int32 → Int32 → Int32 → Int32 → Prop) (a0 : Nat) (y_j215 : Ly) (s_j215 : St) (d_j215 e_j215 : Nat) (x1j215 : Int32) (x2j215 : Int32) (x3j215 : Int32) (x4j215 : Int32) (x5j215 : Int32) (x6j215 : Int32) (x7j215 : Int32) : Prop := (d_j215 ≤ mc ∧ e_j215 ≤ ms) ∧ K_68 y_j215 s_j215 d_j215 e_j215 x1j215 x2j215 x3j215 x4j215 x5j215 x6j215 (x7j215 + (-1))
def wja_Mo_shrink_179 (mc ms : Nat) (Post : Ly → St → Int32 → Nat → Nat → Prop) (PX : Ly → St → Nat → Nat → Prop) (K_68 : Ly → St → Nat → Nat → Int32 → Int32 → Int32 → Int32 → Int32 → Int32 → Int32 → Prop) (a0 : Nat) (y_j179 : Ly) (s_j179 : St) (d_j179 e_j179 : Nat) (x1j179 : Int32) (x2j179 : Int32) (x3j179 : Int32) (x4j179 : Int32) (x5j179 : Int32) (x6j179 : Int32) (x7j179 : Int32) (x9j179 : Int32) : Prop := (d_j179 ≤ mc ∧ e_j179 ≤ ms) ∧ ((x9j179 = 0 → wja_Mo_shrink_215 mc ms Post PX K_68 a0 y_j179 s_j179 d_j179 e_j179 x1j179 x2j179 x3j179 x4j179 x5j179 x6j179 x7j179) ∧ (¬ (x9j179 = 0) → xC y_j179 s_j179 a0 122 a0 116 .byte 0 (1204 * x1j179) (sV s_j179 a0 123) (fun s_37 : St => xS y_j179 s_37 a0 117 x1j179 (sV s_37 a0 123) (fun s_38 : St => wja_Mo_shrink_215 mc ms Post PX K_68 a0 y_j179 s_38 d_j179 e_j179 x1j179 x2j179 x3j179 x4j179 x5j179 x6j179 x7j179))))
def wja_Mo_shrink_177 (mc ms : Nat) (Post : Ly → St → Int32 → Nat → Nat → Prop) (PX : Ly → St → Nat → Nat → Prop) (K_68 : Ly → St → Nat → Nat → Int32 → Int32 → Int32 → Int32 → Int32 → Int32 → Int32 → Prop) (a0 : Nat) (y_j177 : Ly) (s_j177 : St) (d_j177 e_j177 : Nat) (x1j177 : Int32) (x2j177 : Int32) (x3j177 : Int32) (x4j177 : Int32) (x5j177 : Int32) (x6j177 : Int32) (x7j177 : Int32) (z0j177 : Int32) : Prop := (d_j177 ≤ mc ∧ e_j177 ≤ ms) ∧ wja_Mo_shrink_179 mc ms Post PX K_68 a0 y_j177 s_j177 d_j177 e_j177 x1j177 x2j177 x3j177 x4j177 x5j177 x6j177 x7j177 z0j177
def wja_Mo_shrink_176 (mc ms : Nat) (Post : Ly → St → Int32 → Nat → Nat → Prop) (PX : Ly → St → Nat → Nat → Prop) (K_68 : Ly → St → Nat → Nat → Int32 → Int32 → Int32 → Int32 → Int32 → Int32 → Int32 → Prop) (a0 : Nat) (y_j176 : Ly) (s_j176 : St) (d_j176 e_j176 : Nat) (x1j176 : Int32) (x2j176 : Int32) (x3j176 : Int32) (x4j176 : Int32) (x5j176 : Int32) (x6j176 : Int32) (x7j176 : Int32) : Prop := (d_j176 ≤ mc ∧ e_j176 ≤ ms) ∧ wja_Mo_shrink_177 mc ms Post PX K_68 a0 y_j176 s_j176 d_j176 e_j176 x1j176 x2j176 x3j176 x4j176 x5j176 x6j176 x7j176 0
def wja_Mo_shrink_142 (mc ms : Nat) (Post : Ly → St → Int32 → Nat → Nat → Prop) (PX : Ly → St → Nat → Nat → Prop) (K_68 : Ly → St → Nat → Nat → Int32 → Int32 → Int32 → Int32 → Int32 → Int32 → Int32 → Prop) (a0 : Nat) (y_j142 : Ly) (s_j142 : St) (d_j142 e_j142 : Nat) (x1j142 : Int32) (x2j142 : Int32) (x3j142 : Int32) (x4j142 : Int32) (x5j142 : Int32) (x6j142 : Int32) (x7j142 : Int32) (z0j142 : Int32) : Prop := (d_j142 ≤ mc ∧ e_j142 ≤ ms) ∧ ((z0j142 = 0 → wja_Mo_shrink_179 mc ms Post PX K_68 a0 y_j142 s_j142 d_j142 e_j142 x1j142 x2j142 x3j142 x4j142 x5j142 x6j142 x7j142 z0j142) ∧ (¬ (z0j142 = 0) → ∃ mc_44 ms_45 : Nat, (d_j142 + mc_44 ≤ mc ∧ e_j142 + ms_45 ≤ ms) ∧ wx_Mo_tryDraft mc_44 ms_45 y_j142 (fun (y_41 : Ly) (s_40 : St) (d_42 e_43 : Nat) => (d_j142 + d_42 ≤ mc ∧ e_j142 + e_43 ≤ ms) ∧ ((¬ (sV s_40 a0 124) = x5j142 → wja_Mo_shrink_176 mc ms Post PX K_68 a0 y_41 s_40 (d_j142 + d_42) (e_j142 + e_43) x1j142 x2j142 x3j142 x4j142 x5j142 x6j142 x7j142) ∧ ((sV s_40 a0 124) = x5j142 → ((¬ (sV s_40 a0 125) = x6j142 → wja_Mo_shrink_176 mc ms Post PX K_68 a0 y_41 s_40 (d_j142 + d_42) (e_j142 + e_43) x1j142 x2j142 x3j142 x4j142 x5j142 x6j142 x7j142) ∧ ((sV s_40 a0 125) = x6j142 → wja_Mo_shrink_177 mc ms Post PX K_68 a0 y_41 s_40 (d_j142 + d_42) (e_j142 + e_43) x1j142 x2j142 x3j142 x4j142 x5j142 x6j142 x7j142 1))))) (fun (y_41 : Ly) (s_40 : St) (d_42 e_43 : Nat) => ((d_j142 + d_42 ≤ mc ∧ e_j142 + e_43 ≤ ms) ∧ PX y_41 s_40 (d_j142 + d_42) (e_j142 + e_43))) s_j142 a0 x2j142))
def wja_Mo_shrink_141 (mc ms : Nat) (Post : Ly → St → Int32 → Nat → Nat → Prop) (PX : Ly → St → Nat → Nat → Prop) (K_68 : Ly → St → Nat → Nat → Int32 → Int32 → Int32 → Int32 → Int32 → Int32 → Int32 → Prop) (a0 : Nat) (y_j141 : Ly) (s_j141 : St) (d_j141 e_j141 : Nat) (x1j141 : Int32) (x2j141 : Int32) (x3j141 : Int32) (x4j141 : Int32) (x5j141 : Int32) (x6j141 : Int32) (x7j141 : Int32) : Prop := (d_j141 ≤ mc ∧ e_j141 ≤ ms) ∧ wja_Mo_shrink_142 mc ms Post PX K_68 a0 y_j141 s_j141 d_j141 e_j141 x1j141 x2j141 x3j141 x4j141 x5j141 x6j141 x7j141 0
def wja_Mo_shrink_109 (mc ms : Nat) (Post : Ly → St → Int32 → Nat → Nat → Prop) (PX : Ly → St → Nat → Nat → Prop) (K_68 : Ly → St → Nat → Nat → Int32 → Int32 → Int32 → Int32 → Int32 → Int32 → Int32 → Prop) (K_88 : Ly → St → Nat → Nat → Int32 → Int32 → Int32 → Int32 → Int32 → Int32 → Int32 → Int32 → Int32 → Prop) (a0 : Nat) (y_j109 : Ly) (s_j109 : St) (d_j109 e_j109 : Nat) (x1j109 : Int32) (x2j109 : Int32) (x3j109 : Int32) (x4j109 : Int32) (x5j109 : Int32) (x6j109 : Int32) (x7j109 : Int32) (x8j109 : Int32) (x9j109 : Int32) : Prop := (d_j109 ≤ mc ∧ e_j109 ≤ ms) ∧ K_88 y_j109 s_j109 d_j109 e_j109 x1j109 x2j109 x3j109 x4j109 x5j109 x6j109 x7j109 x8j109 (x9j109 + 1)
def wba_Mo_shrink_88 (mc ms : Nat) (Post : Ly → St → Int32 → Nat → Nat → Prop) (PX : Ly → St → Nat → Nat → Prop) (K_68 : Ly → St → Nat → Nat → Int32 → Int32 → Int32 → Int32 → Int32 → Int32 → Int32 → Prop) (K_88 : Ly → St → Nat → Nat → Int32 → Int32 → Int32 → Int32 → Int32 → Int32 → Int32 → Int32 → Int32 → Prop) (a0 : Nat) (y_h88 : Ly) (s_h88 : St) (d_h88 e_h88 : Nat) (x1h88 : Int32) (x2h88 : Int32) (x3h88 : Int32) (x4h88 : Int32) (x5h88 : Int32) (x6h88 : Int32) (x7h88 : Int32) (x8h88 : Int32) (x9h88 : Int32) : Prop := (d_h88 ≤ mc ∧ e_h88 ≤ ms) ∧ ((x8h88 ≤ x9h88 → ∃ mc_34 ms_35 : Nat, (d_h88 + mc_34 ≤ mc ∧ e_h88 + ms_35 ≤ ms) ∧ wx_Mo_tryDraft mc_34 ms_35 y_h88 (fun (y_31 : Ly) (s_30 : St) (d_32 e_33 : Nat) => (d_h88 + d_32 ≤ mc ∧ e_h88 + e_33 ≤ ms) ∧ ((¬ (sV s_30 a0 124) = x3h88 → wja_Mo_shrink_141 mc ms Post PX K_68 a0 y_31 s_30 (d_h88 + d_32) (e_h88 + e_33) x1h88 x2h88 x3h88 x4h88 x5h88 x6h88 x7h88) ∧ ((sV s_30 a0 124) = x3h88 → ((¬ (sV s_30 a0 125) = x4h88 → wja_Mo_shrink_141 mc ms Post PX K_68 a0 y_31 s_30 (d_h88 + d_32) (e_h88 + e_33) x1h88 x2h88 x3h88 x4h88 x5h88 x6h88 x7h88) ∧ ((sV s_30 a0 125) = x4h88 → wja_Mo_shrink_142 mc ms Post PX K_68 a0 y_31 s_30 (d_h88 + d_32) (e_h88 + e_33) x1h88 x2h88 x3h88 x4h88 x5h88 x6h88 x7h88 1))))) (fun (y_31 : Ly) (s_30 : St) (d_32 e_33 : Nat) => ((d_h88 + d_32 ≤ mc ∧ e_h88 + e_33 ≤ ms) ∧ PX y_31 s_30 (d_h88 + d_32) (e_h88 + e_33))) s_h88 a0 0) ∧ (¬ (x8h88 ≤ x9h88) → ((x9h88 = x7h88 → wja_Mo_shrink_109 mc ms Post PX K_68 K_88 a0 y_h88 s_h88 d_h88 e_h88 x1h88 x2h88 x3h88 x4h88 x5h88 x6h88 x7h88 x8h88 x9h88) ∧ (¬ (x9h88 = x7h88) → wu_Mo_draftLine y_h88 (fun (s_48 : St) => wja_Mo_shrink_109 mc ms Post PX K_68 K_88 a0 y_h88 s_48 d_h88 e_h88 x1h88 x2h88 x3h88 x4h88 x5h88 x6h88 x7h88 x8h88 x9h88) s_h88 a0 x1h88 x9h88))))
def wla_Mo_shrink_88 (mc ms : Nat) (Post : Ly → St → Int32 → Nat → Nat → Prop) (PX : Ly → St → Nat → Nat → Prop) (K_68 : Ly → St → Nat → Nat → Int32 → Int32 → Int32 → Int32 → Int32 → Int32 → Int32 → Prop) (a0 : Nat) (y_h88 : Ly) (s_h88 : St) (d_h88 e_h88 : Nat) (x1h88 : Int32) (x2h88 : Int32) (x3h88 : Int32) (x4h88 : Int32) (x5h88 : Int32) (x6h88 : Int32) (x7h88 : Int32) (x8h88 : Int32) (x9h88 : Int32) : Prop := ∃ (I : Ly → St → Nat → Nat → Int32 → Int32 → Int32 → Int32 → Int32 → Int32 → Int32 → Int32 → Int32 → Prop) (μ : Ly → St → Nat → Nat → Int32 → Int32 → Int32 → Int32 → Int32 → Int32 → Int32 → Int32 → Int32 → Nat), I y_h88 s_h88 d_h88 e_h88 x1h88 x2h88 x3h88 x4h88 x5h88 x6h88 x7h88 x8h88 x9h88 ∧ ∀ (u1 : Ly) (u2 : St) (u3 u4 : Nat) (t0 : Int32) (t1 : Int32) (t2 : Int32) (t3 : Int32) (t4 : Int32) (t5 : Int32) (t6 : Int32) (t7 : Int32) (t8 : Int32), I u1 u2 u3 u4 t0 t1 t2 t3 t4 t5 t6 t7 t8 → wba_Mo_shrink_88 mc ms Post PX K_68 (fun z1 z2 z3 z4 t0q t1q t2q t3q t4q t5q t6q t7q t8q => I z1 z2 z3 z4 t0q t1q t2q t3q t4q t5q t6q t7q t8q ∧ μ z1 z2 z3 z4 t0q t1q t2q t3q t4q t5q t6q t7q t8q < μ u1 u2 u3 u4 t0 t1 t2 t3 t4 t5 t6 t7 t8) a0 u1 u2 u3 u4 t0 t1 t2 t3 t4 t5 t6 t7 t8
def wba_Mo_shrink_68 (mc ms : Nat) (Post : Ly → St → Int32 → Nat → Nat → Prop) (PX : Ly → St → Nat → Nat → Prop) (K_68 : Ly → St → Nat → Nat → Int32 → Int32 → Int32 → Int32 → Int32 → Int32 → Int32 → Prop) (a0 : Nat) (y_h68 : Ly) (s_h68 : St) (d_h68 e_h68 : Nat) (x1h68 : Int32) (x2h68 : Int32) (x3h68 : Int32) (x4h68 : Int32) (x5h68 : Int32) (x6h68 : Int32) (x7h68 : Int32) : Prop := (d_h68 ≤ mc ∧ e_h68 ≤ ms) ∧ ((x7h68 < 0 → xS y_h68 s_h68 a0 118 x1h68 (vp_nar .boolean 0) (fun s_23 : St => wu_Mo_linesOf y_h68 (fun (s_25 : St) (r_24 : Int32) => Post y_h68 s_25 r_24 d_h68 e_h68) s_23 a0 x1h68)) ∧ (¬ (x7h68 < 0) → wu_Mo_linesOf y_h68 (fun (s_27 : St) (r_26 : Int32) => xP (uV s_27 a0 123 0) (fun s_28 : St => wla_Mo_shrink_88 mc ms Post PX K_68 a0 y_h68 s_28 d_h68 e_h68 x1h68 x2h68 x3h68 x4h68 x5h68 x6h68 x7h68 r_26 0)) s_h68 a0 x1h68))
def wla_Mo_shrink_68 (mc ms : Nat) (Post : Ly → St → Int32 → Nat → Nat → Prop) (PX : Ly → St → Nat → Nat → Prop) (a0 : Nat) (y_h68 : Ly) (s_h68 : St) (d_h68 e_h68 : Nat) (x1h68 : Int32) (x2h68 : Int32) (x3h68 : Int32) (x4h68 : Int32) (x5h68 : Int32) (x6h68 : Int32) (x7h68 : Int32) : Prop := ∃ (I : Ly → St → Nat → Nat → Int32 → Int32 → Int32 → Int32 → Int32 → Int32 → Int32 → Prop) (μ : Ly → St → Nat → Nat → Int32 → Int32 → Int32 → Int32 → Int32 → Int32 → Int32 → Nat), I y_h68 s_h68 d_h68 e_h68 x1h68 x2h68 x3h68 x4h68 x5h68 x6h68 x7h68 ∧ ∀ (u1 : Ly) (u2 : St) (u3 u4 : Nat) (t0 : Int32) (t1 : Int32) (t2 : Int32) (t3 : Int32) (t4 : Int32) (t5 : Int32) (t6 : Int32), I u1 u2 u3 u4 t0 t1 t2 t3 t4 t5 t6 → wba_Mo_shrink_68 mc ms Post PX (fun z1 z2 z3 z4 t0q t1q t2q t3q t4q t5q t6q => I z1 z2 z3 z4 t0q t1q t2q t3q t4q t5q t6q ∧ μ z1 z2 z3 z4 t0q t1q t2q t3q t4q t5q t6q < μ u1 u2 u3 u4 t0 t1 t2 t3 t4 t5 t6) a0 u1 u2 u3 u4 t0 t1 t2 t3 t4 t5 t6
def wx_Mo_shrink (mc ms : Nat) (y : Ly) (Post : Ly → St → Int32 → Nat → Nat → Prop) (PX : Ly → St → Nat → Nat → Prop) (σ : St) (a0 : Nat) (v1 : Int32) (v2 : Int32) : Prop := wu_Mo_isTrial y (fun (s_2 : St) (r_1 : Int32) => ((r_1 = 0 → wja_Mo_shrink_19 mc ms Post PX a0 y s_2 0 0) ∧ (¬ (r_1 = 0) → ((v2 < 0 → wja_Mo_shrink_19 mc ms Post PX a0 y s_2 0 0) ∧ (¬ (v2 < 0) → ((v2 ≤ 255 → wu_Mo_draftTrial y (fun (s_4 : St) => ∃ mc_10 ms_11 : Nat, (0 + mc_10 ≤ mc ∧ 0 + ms_11 ≤ ms) ∧ wx_Mo_tryDraft mc_10 ms_11 y (fun (y_7 : Ly) (s_6 : St) (d_8 e_9 : Nat) => (0 + d_8 ≤ mc ∧ 0 + e_9 ≤ ms) ∧ ∃ mc_18 ms_19 : Nat, (0 + d_8 + mc_18 ≤ mc ∧ 0 + e_9 + ms_19 ≤ ms) ∧ wx_Mo_tryDraft mc_18 ms_19 y_7 (fun (y_15 : Ly) (s_14 : St) (d_16 e_17 : Nat) => (0 + d_8 + d_16 ≤ mc ∧ 0 + e_9 + e_17 ≤ ms) ∧ wu_Mo_linesOf y_15 (fun (s_22 : St) (r_21 : Int32) => wla_Mo_shrink_68 mc ms Post PX a0 y_15 s_22 (0 + d_8 + d_16) (0 + e_9 + e_17) v1 v2 (sV s_6 a0 124) (sV s_6 a0 125) (sV s_14 a0 124) (sV s_14 a0 125) (r_21 - 2)) s_14 a0 v1) (fun (y_15 : Ly) (s_14 : St) (d_16 e_17 : Nat) => ((0 + d_8 + d_16 ≤ mc ∧ 0 + e_9 + e_17 ≤ ms) ∧ PX y_15 s_14 (0 + d_8 + d_16) (0 + e_9 + e_17))) s_6 a0 v2) (fun (y_7 : Ly) (s_6 : St) (d_8 e_9 : Nat) => ((0 + d_8 ≤ mc ∧ 0 + e_9 ≤ ms) ∧ PX y_7 s_6 (0 + d_8) (0 + e_9))) s_4 a0 0) s_2 a0 v1) ∧ (¬ (v2 ≤ 255) → wja_Mo_shrink_19 mc ms Post PX a0 y s_2 0 0))))))) σ a0 v1
set_option maxHeartbeats 4000000 in
set_option maxRecDepth 100000 in
theorem cx_Mo_shrink (l : Launch) (D : va_G) (g : Nat → ClassId) (ad : Nat → Nat) (mc ms : Nat) (y : Ly) (Post : Ly → St → Int32 → Nat → Nat → Prop) (PX : Ly → St → Nat → Nat → Prop) (σ : St) (a0 : Nat) (v1 : Int32) (v2 : Int32) (sz uz : Nat) (h_a0 : cl a0 = 14) (h : wx_Mo_shrink mc ms y Post PX σ a0 v1 v2) : vx_Met l y_Mo_shrink (mw y_Mo_shrink b_Mo_shrink 10 (some .int)) (ra_Mo_shrink mc ms) (PCu g D [] [.ref (ad a0), .int v1, .int v2] sz uz (ws g ad y σ)) (va_Qi (fun (r : Int32) (u : Ly × St × Nat × Nat) => Post u.1 u.2.1 r u.2.2.1 u.2.2.2) (QU D (va_A (ws g ad y σ) sz) (fun u => ws g ad u.1 u.2.1) sz uz (fun u => u.2.2.1) (fun u => u.2.2.2)) (va_A (ws g ad y σ) sz)) (XQ D g ad (va_A (ws g ad y σ) sz) sz uz PX) mc ms (va_A (ws g ad y σ) sz) := by
  refine ofIx (by decide +kernel) (Nat.le_of_ble_eq_true rfl) ?_
  intro p e s m args below meth c A Q ls H locs G hsz hP hD hS hl hret hretX
  subst hsz
  have hl : lv_has ls 10 [(0, .ref (ad a0)), (1, .int v1), (2, .int v2)] := hl
  have hd : 0 ≤ mc ∧ 0 ≤ ms := ⟨Nat.zero_le _, Nat.zero_le _⟩
  unfold wx_Mo_shrink at h
  refine lv_aload_n G.1 G.2.1 d_Mo_shrink_0 rfl (lv_at hl 0 rfl) ?_
  refine lv_iload_n G.1 G.2.1 d_Mo_shrink_1 rfl (lv_at hl 1 rfl) ?_
  refine ucVi (As := [.int v1]) (rest := []) G hP hD hS (cu_Mo_isTrial l D g ad y _ σ a0 v1 H.size h_a0 h) w9_Mo_isTrial q4224 ⟨Nat.le_of_ble_eq_true rfl, Nat.le_of_ble_eq_true rfl⟩ rfl rfl h_a0 (q := (RMo, TMo, 131)) rfl rfl hl.1 rfl (Nat.le_of_ble_eq_true rfl) rfl hd d_Mo_shrink_2 (fun r_1 s_2 H locs h hP hD hS => ?_)
  have J_19 : ∀ (y_j19 : Ly) (s_j19 : St) (d_j19 e_j19 : Nat) (H : Heap) (locs : List Loc), wja_Mo_shrink_19 mc ms Post PX a0 y_j19 s_j19 d_j19 e_j19 → va_P D CL (ws g ad y_j19 s_j19) H → va_D A (ws g ad y_j19 s_j19) → va_S A s.heap H locs → ∀ ls, lv_has ls 10 [] → W p l e (ra_Mo_shrink mc ms) s m args below meth c H locs d_j19 e_j19 Q (F0 m 19 ls []) := by
    intro y_j19 s_j19 d_j19 e_j19 H locs h hP hD hS ls hl
    unfold wja_Mo_shrink_19 at h
    obtain ⟨hd, h⟩ := h
    refine lv_iconst (v := (-1)) G.1 G.2.1 d_Mo_shrink_19 (by decide) ?_
    exact hret _ (y_j19, s_j19, d_j19, e_j19) _ _ _ _ _ ls h hP hD hS (Nat.le_refl _) (Nat.le_refl _) hd.1 hd.2 d_Mo_shrink_20
  refine lv_if_eq (tgt := 19) G.1 G.2.1 d_Mo_shrink_5 (by decide) (fun c5 => ?_) (fun c5 => ?_)
  · skip
    have h := h.1 c5
    exact J_19 y s_2 0 0 H locs h hP hD hS ls (lv_sub hl [] rfl)
  · skip
    have h := h.2 c5
    refine lv_iload_n G.1 G.2.1 d_Mo_shrink_8 rfl (lv_at hl 2 rfl) ?_
    refine lv_if_lt (tgt := 19) G.1 G.2.1 d_Mo_shrink_9 (by decide) (fun c9 => ?_) (fun c9 => ?_)
    · skip
      have h := h.1 c9
      exact J_19 y s_2 0 0 H locs h hP hD hS ls (lv_sub hl [] rfl)
    · skip
      have h := h.2 c9
      refine lv_iload_n G.1 G.2.1 d_Mo_shrink_12 rfl (lv_at hl 2 rfl) ?_
      refine lv_sipush (v := 255) G.1 G.2.1 d_Mo_shrink_13 (by decide) ?_
      refine lv_icmp_le (tgt := 21) G.1 G.2.1 d_Mo_shrink_16 (by decide) (fun c16 => ?_) (fun c16 => ?_)
      · skip
        have h := h.1 c16
        refine lv_aload_n G.1 G.2.1 d_Mo_shrink_21 rfl (lv_at hl 0 rfl) ?_
        refine lv_iload_n G.1 G.2.1 d_Mo_shrink_22 rfl (lv_at hl 1 rfl) ?_
        refine W.eq (g2 := F0 m 23 ls [.int v1, .ref (ad a0)]) rfl ?_
        refine ucVv (As := [.int v1]) (rest := []) G hP hD hS (cu_Mo_draftTrial l D g ad y _ s_2 a0 v1 H.size h_a0 h) w9_Mo_draftTrial q4228 ⟨Nat.le_of_ble_eq_true rfl, Nat.le_of_ble_eq_true rfl⟩ rfl rfl h_a0 (q := (RMo, TMo, 131)) rfl rfl hl.1 rfl (Nat.le_of_ble_eq_true rfl) rfl hd d_Mo_shrink_23 (fun s_4 H locs h hP hD hS => ?_)
        refine lv_aload_n G.1 G.2.1 d_Mo_shrink_26 rfl (lv_at hl 0 rfl) ?_
        refine lv_iconst (v := 0) G.1 G.2.1 d_Mo_shrink_27 (by decide) ?_
        obtain ⟨mc_10, ms_11, hr_12, h⟩ := h
        refine uxVv (As := [.int 0]) (rest := []) G hP hD hS (cx_Mo_tryDraft l D g ad mc_10 ms_11 y _ _ s_4 a0 0 H.size (us H) h_a0 h) (fun _ h => absurd h List.not_mem_nil) w9_Mo_tryDraft q4232 ⟨Nat.le_of_ble_eq_true rfl, Nat.le_of_ble_eq_true rfl⟩ rfl rfl h_a0 (q := (RMo, TMo, 131)) rfl rfl hl.1 rfl (Nat.le_of_ble_eq_true rfl) rfl hr_12 d_Mo_shrink_28 (fun y_7 s_6 d_8 e_9 H locs q9 ce h hP hD hS hce hcv hcl => ?_) (fun y_7 s_6 d_8 e_9 H locs h hP hD hS => ?_)
        · skip
          obtain ⟨hd, h⟩ := h
          exact hretX h hP hD hS hd.1 hd.2 hce hcv hcl
        obtain ⟨hd, h⟩ := h
        refine lv_aload_n G.1 G.2.1 d_Mo_shrink_31 rfl (lv_at hl 0 rfl) ?_
        refine ugf (v := .int (sV s_6 a0 124)) G hP h_a0 iMo rfl 124 (by decide) rfl q3188 rfl rfl d_Mo_shrink_32 ?_
        refine lv_istore_n (lv' := [(3, .int (sV s_6 a0 124)), (0, .ref (ad a0)), (1, .int v1), (2, .int v2)]) G.1 G.2.1 d_Mo_shrink_35 rfl hl (by decide) rfl (fun ls hl => ?_)
        refine lv_aload_n G.1 G.2.1 d_Mo_shrink_36 rfl (lv_at hl 1 rfl) ?_
        refine ugf (v := .int (sV s_6 a0 125)) G hP h_a0 iMo rfl 125 (by decide) rfl q3189 rfl rfl d_Mo_shrink_37 ?_
        refine lv_istore (lv' := [(4, .int (sV s_6 a0 125)), (3, .int (sV s_6 a0 124)), (0, .ref (ad a0)), (1, .int v1), (2, .int v2)]) G.1 G.2.1 d_Mo_shrink_40 hl (by decide) rfl (fun ls hl => ?_)
        refine lv_aload_n G.1 G.2.1 d_Mo_shrink_42 rfl (lv_at hl 2 rfl) ?_
        refine lv_iload_n G.1 G.2.1 d_Mo_shrink_43 rfl (lv_at hl 4 rfl) ?_
        refine W.eq (g2 := F0 m 44 ls [.int v2, .ref (ad a0)]) rfl ?_
        obtain ⟨mc_18, ms_19, hr_20, h⟩ := h
        refine uxVv (As := [.int v2]) (rest := []) G hP hD hS (cx_Mo_tryDraft l D g ad mc_18 ms_19 y_7 _ _ s_6 a0 v2 H.size (us H) h_a0 h) (fun _ h => absurd h List.not_mem_nil) w9_Mo_tryDraft q4232 ⟨Nat.le_of_ble_eq_true rfl, Nat.le_of_ble_eq_true rfl⟩ rfl rfl h_a0 (q := (RMo, TMo, 131)) rfl rfl hl.1 rfl (Nat.le_of_ble_eq_true rfl) rfl hr_20 d_Mo_shrink_44 (fun y_15 s_14 d_16 e_17 H locs q9 ce h hP hD hS hce hcv hcl => ?_) (fun y_15 s_14 d_16 e_17 H locs h hP hD hS => ?_)
        · skip
          obtain ⟨hd, h⟩ := h
          exact hretX h hP hD hS hd.1 hd.2 hce hcv hcl
        obtain ⟨hd, h⟩ := h
        refine lv_aload_n G.1 G.2.1 d_Mo_shrink_47 rfl (lv_at hl 2 rfl) ?_
        refine ugf (v := .int (sV s_14 a0 124)) G hP h_a0 iMo rfl 124 (by decide) rfl q3188 rfl rfl d_Mo_shrink_48 ?_
        refine lv_istore (lv' := [(5, .int (sV s_14 a0 124)), (4, .int (sV s_6 a0 125)), (3, .int (sV s_6 a0 124)), (0, .ref (ad a0)), (1, .int v1), (2, .int v2)]) G.1 G.2.1 d_Mo_shrink_51 hl (by decide) rfl (fun ls hl => ?_)
        refine lv_aload_n G.1 G.2.1 d_Mo_shrink_53 rfl (lv_at hl 3 rfl) ?_
        refine ugf (v := .int (sV s_14 a0 125)) G hP h_a0 iMo rfl 125 (by decide) rfl q3189 rfl rfl d_Mo_shrink_54 ?_
        refine lv_istore (lv' := [(6, .int (sV s_14 a0 125)), (5, .int (sV s_14 a0 124)), (4, .int (sV s_6 a0 125)), (3, .int (sV s_6 a0 124)), (0, .ref (ad a0)), (1, .int v1), (2, .int v2)]) G.1 G.2.1 d_Mo_shrink_57 hl (by decide) rfl (fun ls hl => ?_)
        refine lv_aload_n G.1 G.2.1 d_Mo_shrink_59 rfl (lv_at hl 4 rfl) ?_
        refine lv_iload_n G.1 G.2.1 d_Mo_shrink_60 rfl (lv_at hl 5 rfl) ?_
        refine ucVi (As := [.int v1]) (rest := []) G hP hD hS (cu_Mo_linesOf l D g ad y_15 _ s_14 a0 v1 H.size h_a0 h) w9_Mo_linesOf q4275 ⟨Nat.le_of_ble_eq_true rfl, Nat.le_of_ble_eq_true rfl⟩ rfl rfl h_a0 (q := (RMo, TMo, 131)) rfl rfl hl.1 rfl (Nat.le_of_ble_eq_true rfl) rfl hd d_Mo_shrink_61 (fun r_21 s_22 H locs h hP hD hS => ?_)
        refine lv_iconst (v := 2) G.1 G.2.1 d_Mo_shrink_64 (by decide) ?_
        refine lv_isub G.1 G.2.1 d_Mo_shrink_65 ?_
        refine W.eq (g2 := F0 m 66 ls [.int (r_21 - 2)]) rfl ?_
        refine lv_istore (lv' := [(7, .int (r_21 - 2)), (6, .int (sV s_14 a0 125)), (5, .int (sV s_14 a0 124)), (4, .int (sV s_6 a0 125)), (3, .int (sV s_6 a0 124)), (0, .ref (ad a0)), (1, .int v1), (2, .int v2)]) G.1 G.2.1 d_Mo_shrink_66 hl (by decide) rfl (fun ls hl => ?_)
        unfold wla_Mo_shrink_68 at h
        obtain ⟨I_68, μ_68, hI_68, hB_68⟩ := h
        have L_68 : ∀ (n_68 : Nat) (y_h68 : Ly) (s_h68 : St) (d_h68 e_h68 : Nat) (x1h68 : Int32) (x2h68 : Int32) (x3h68 : Int32) (x4h68 : Int32) (x5h68 : Int32) (x6h68 : Int32) (x7h68 : Int32), μ_68 y_h68 s_h68 d_h68 e_h68 x1h68 x2h68 x3h68 x4h68 x5h68 x6h68 x7h68 < n_68 → I_68 y_h68 s_h68 d_h68 e_h68 x1h68 x2h68 x3h68 x4h68 x5h68 x6h68 x7h68 → ∀ (H : Heap) (locs : List Loc), va_P D CL (ws g ad y_h68 s_h68) H → va_D A (ws g ad y_h68 s_h68) → va_S A s.heap H locs → ∀ ls, lv_has ls 10 [(0, .ref (ad a0)), (1, .int x1h68), (2, .int x2h68), (3, .int x3h68), (4, .int x4h68), (5, .int x5h68), (6, .int x6h68), (7, .int x7h68)] → W p l e (ra_Mo_shrink mc ms) s m args below meth c H locs d_h68 e_h68 Q (F0 m 68 ls []) := by
          intro n_68
          induction n_68 with
          | zero => intro y_h68 s_h68 d_h68 e_h68 x1h68 x2h68 x3h68 x4h68 x5h68 x6h68 x7h68 hμ; exact absurd hμ (Nat.not_lt_zero _)
          | succ n_68 ih_68 =>
            intro y_h68 s_h68 d_h68 e_h68 x1h68 x2h68 x3h68 x4h68 x5h68 x6h68 x7h68 hμ_68 hJ H locs hP hD hS ls hl
            obtain ⟨K_68, hK_68, h⟩ : ∃ K : Ly → St → Nat → Nat → Int32 → Int32 → Int32 → Int32 → Int32 → Int32 → Int32 → Prop, (∀ z1 z2 z3 z4 (t0 : Int32) (t1 : Int32) (t2 : Int32) (t3 : Int32) (t4 : Int32) (t5 : Int32) (t6 : Int32), K z1 z2 z3 z4 t0 t1 t2 t3 t4 t5 t6 → I_68 z1 z2 z3 z4 t0 t1 t2 t3 t4 t5 t6 ∧ μ_68 z1 z2 z3 z4 t0 t1 t2 t3 t4 t5 t6 < μ_68 y_h68 s_h68 d_h68 e_h68 x1h68 x2h68 x3h68 x4h68 x5h68 x6h68 x7h68) ∧ wba_Mo_shrink_68 mc ms Post PX K a0 y_h68 s_h68 d_h68 e_h68 x1h68 x2h68 x3h68 x4h68 x5h68 x6h68 x7h68 := ⟨_, fun _ _ _ _ _ _ _ _ _ _ _ h => h, hB_68 y_h68 s_h68 d_h68 e_h68 x1h68 x2h68 x3h68 x4h68 x5h68 x6h68 x7h68 hJ⟩
            unfold wba_Mo_shrink_68 at h
            obtain ⟨hd, h⟩ := h
            refine lv_iload G.1 G.2.1 d_Mo_shrink_68 (lv_at hl 7 rfl) ?_
            refine lv_if_lt (tgt := 221) G.1 G.2.1 d_Mo_shrink_70 (by decide) (fun c70 => ?_) (fun c70 => ?_)
            · skip
              have h := h.1 c70
              refine lv_aload_n G.1 G.2.1 d_Mo_shrink_221 rfl (lv_at hl 0 rfl) ?_
              refine ugf (v := .ref (yP y_h68 a0 118)) G hP h_a0 iMo rfl 118 (by decide) rfl q3182 rfl rfl d_Mo_shrink_222 ?_
              refine lv_iload_n G.1 G.2.1 d_Mo_shrink_225 rfl (lv_at hl 1 rfl) ?_
              refine lv_iconst (v := 0) G.1 G.2.1 d_Mo_shrink_226 (by decide) ?_
              refine uzast G hP hD hS (kdp h_a0 rfl) (typ h_a0 rfl) h d_Mo_shrink_227 (fun s_23 H locs h hP hD hS => ?_)
              refine lv_aload_n G.1 G.2.1 d_Mo_shrink_228 rfl (lv_at hl 0 rfl) ?_
              refine lv_iload_n G.1 G.2.1 d_Mo_shrink_229 rfl (lv_at hl 1 rfl) ?_
              refine ucVi (As := [.int x1h68]) (rest := []) G hP hD hS (cu_Mo_linesOf l D g ad y_h68 _ s_23 a0 x1h68 H.size h_a0 h) w9_Mo_linesOf q4275 ⟨Nat.le_of_ble_eq_true rfl, Nat.le_of_ble_eq_true rfl⟩ rfl rfl h_a0 (q := (RMo, TMo, 131)) rfl rfl hl.1 rfl (Nat.le_of_ble_eq_true rfl) rfl hd d_Mo_shrink_230 (fun r_24 s_25 H locs h hP hD hS => ?_)
              exact hret _ (y_h68, s_25, d_h68, e_h68) _ _ _ _ _ ls h hP hD hS (Nat.le_refl _) (Nat.le_refl _) hd.1 hd.2 d_Mo_shrink_233
            · skip
              have h := h.2 c70
              refine lv_aload_n G.1 G.2.1 d_Mo_shrink_73 rfl (lv_at hl 0 rfl) ?_
              refine lv_iload_n G.1 G.2.1 d_Mo_shrink_74 rfl (lv_at hl 1 rfl) ?_
              refine ucVi (As := [.int x1h68]) (rest := []) G hP hD hS (cu_Mo_linesOf l D g ad y_h68 _ s_h68 a0 x1h68 H.size h_a0 h) w9_Mo_linesOf q4275 ⟨Nat.le_of_ble_eq_true rfl, Nat.le_of_ble_eq_true rfl⟩ rfl rfl h_a0 (q := (RMo, TMo, 131)) rfl rfl hl.1 rfl (Nat.le_of_ble_eq_true rfl) rfl hd d_Mo_shrink_75 (fun r_26 s_27 H locs h hP hD hS => ?_)
              refine lv_istore (lv' := [(8, .int r_26), (0, .ref (ad a0)), (1, .int x1h68), (2, .int x2h68), (3, .int x3h68), (4, .int x4h68), (5, .int x5h68), (6, .int x6h68), (7, .int x7h68)]) G.1 G.2.1 d_Mo_shrink_78 hl (by decide) rfl (fun ls hl => ?_)
              refine lv_aload_n G.1 G.2.1 d_Mo_shrink_80 rfl (lv_at hl 1 rfl) ?_
              refine lv_iconst (v := 0) G.1 G.2.1 d_Mo_shrink_81 (by decide) ?_
              refine upf G hP hD hS h 123 putV h_a0 iMo tMo tMo_ok nMo rfl (by decide) rfl q3187 rfl rfl fV rfl rfl d_Mo_shrink_82 (fun s_28 H locs h hP hD hS => ?_)
              refine lv_iconst (v := 0) G.1 G.2.1 d_Mo_shrink_85 (by decide) ?_
              refine lv_istore (lv' := [(9, .int 0), (8, .int r_26), (0, .ref (ad a0)), (1, .int x1h68), (2, .int x2h68), (3, .int x3h68), (4, .int x4h68), (5, .int x5h68), (6, .int x6h68), (7, .int x7h68)]) G.1 G.2.1 d_Mo_shrink_86 hl (by decide) rfl (fun ls hl => ?_)
              unfold wla_Mo_shrink_88 at h
              obtain ⟨I_88, μ_88, hI_88, hB_88⟩ := h
              have L_88 : ∀ (n_88 : Nat) (y_h88 : Ly) (s_h88 : St) (d_h88 e_h88 : Nat) (x1h88 : Int32) (x2h88 : Int32) (x3h88 : Int32) (x4h88 : Int32) (x5h88 : Int32) (x6h88 : Int32) (x7h88 : Int32) (x8h88 : Int32) (x9h88 : Int32), μ_88 y_h88 s_h88 d_h88 e_h88 x1h88 x2h88 x3h88 x4h88 x5h88 x6h88 x7h88 x8h88 x9h88 < n_88 → I_88 y_h88 s_h88 d_h88 e_h88 x1h88 x2h88 x3h88 x4h88 x5h88 x6h88 x7h88 x8h88 x9h88 → ∀ (H : Heap) (locs : List Loc), va_P D CL (ws g ad y_h88 s_h88) H → va_D A (ws g ad y_h88 s_h88) → va_S A s.heap H locs → ∀ ls, lv_has ls 10 [(0, .ref (ad a0)), (1, .int x1h88), (2, .int x2h88), (3, .int x3h88), (4, .int x4h88), (5, .int x5h88), (6, .int x6h88), (7, .int x7h88), (8, .int x8h88), (9, .int x9h88)] → W p l e (ra_Mo_shrink mc ms) s m args below meth c H locs d_h88 e_h88 Q (F0 m 88 ls []) := by
                intro n_88
                induction n_88 with
                | zero => intro y_h88 s_h88 d_h88 e_h88 x1h88 x2h88 x3h88 x4h88 x5h88 x6h88 x7h88 x8h88 x9h88 hμ; exact absurd hμ (Nat.not_lt_zero _)
                | succ n_88 ih_88 =>
                  intro y_h88 s_h88 d_h88 e_h88 x1h88 x2h88 x3h88 x4h88 x5h88 x6h88 x7h88 x8h88 x9h88 hμ_88 hJ H locs hP hD hS ls hl
                  obtain ⟨K_88, hK_88, h⟩ : ∃ K : Ly → St → Nat → Nat → Int32 → Int32 → Int32 → Int32 → Int32 → Int32 → Int32 → Int32 → Int32 → Prop, (∀ z1 z2 z3 z4 (t0 : Int32) (t1 : Int32) (t2 : Int32) (t3 : Int32) (t4 : Int32) (t5 : Int32) (t6 : Int32) (t7 : Int32) (t8 : Int32), K z1 z2 z3 z4 t0 t1 t2 t3 t4 t5 t6 t7 t8 → I_88 z1 z2 z3 z4 t0 t1 t2 t3 t4 t5 t6 t7 t8 ∧ μ_88 z1 z2 z3 z4 t0 t1 t2 t3 t4 t5 t6 t7 t8 < μ_88 y_h88 s_h88 d_h88 e_h88 x1h88 x2h88 x3h88 x4h88 x5h88 x6h88 x7h88 x8h88 x9h88) ∧ wba_Mo_shrink_88 mc ms Post PX K_68 K a0 y_h88 s_h88 d_h88 e_h88 x1h88 x2h88 x3h88 x4h88 x5h88 x6h88 x7h88 x8h88 x9h88 := ⟨_, fun _ _ _ _ _ _ _ _ _ _ _ _ _ h => h, hB_88 y_h88 s_h88 d_h88 e_h88 x1h88 x2h88 x3h88 x4h88 x5h88 x6h88 x7h88 x8h88 x9h88 hJ⟩
                  unfold wba_Mo_shrink_88 at h
                  obtain ⟨hd, h⟩ := h
                  refine lv_iload G.1 G.2.1 d_Mo_shrink_88 (lv_at hl 9 rfl) ?_
                  refine lv_iload G.1 G.2.1 d_Mo_shrink_90 (lv_at hl 8 rfl) ?_
                  refine lv_icmp_ge (tgt := 115) G.1 G.2.1 d_Mo_shrink_92 (by decide) (fun c92 => ?_) (fun c92 => ?_)
                  · skip
                    have h := h.1 c92
                    refine lv_aload_n G.1 G.2.1 d_Mo_shrink_115 rfl (lv_at hl 0 rfl) ?_
                    refine lv_iconst (v := 0) G.1 G.2.1 d_Mo_shrink_116 (by decide) ?_
                    obtain ⟨mc_34, ms_35, hr_36, h⟩ := h
                    refine uxVv (As := [.int 0]) (rest := []) G hP hD hS (cx_Mo_tryDraft l D g ad mc_34 ms_35 y_h88 _ _ s_h88 a0 0 H.size (us H) h_a0 h) (fun _ h => absurd h List.not_mem_nil) w9_Mo_tryDraft q4232 ⟨Nat.le_of_ble_eq_true rfl, Nat.le_of_ble_eq_true rfl⟩ rfl rfl h_a0 (q := (RMo, TMo, 131)) rfl rfl hl.1 rfl (Nat.le_of_ble_eq_true rfl) rfl hr_36 d_Mo_shrink_117 (fun y_31 s_30 d_32 e_33 H locs q9 ce h hP hD hS hce hcv hcl => ?_) (fun y_31 s_30 d_32 e_33 H locs h hP hD hS => ?_)
                    · skip
                      obtain ⟨hd, h⟩ := h
                      exact hretX h hP hD hS hd.1 hd.2 hce hcv hcl
                    have hl := lv_sub (l' := [(0, .ref (ad a0)), (1, .int x1h88), (2, .int x2h88), (3, .int x3h88), (4, .int x4h88), (5, .int x5h88), (6, .int x6h88), (7, .int x7h88)]) hl [0, 1, 2, 3, 4, 5, 6, 7] rfl
                    obtain ⟨hd, h⟩ := h
                    refine lv_aload_n G.1 G.2.1 d_Mo_shrink_120 rfl (lv_at hl 0 rfl) ?_
                    refine ugf (v := .int (sV s_30 a0 124)) G hP h_a0 iMo rfl 124 (by decide) rfl q3188 rfl rfl d_Mo_shrink_121 ?_
                    refine lv_iload_n G.1 G.2.1 d_Mo_shrink_124 rfl (lv_at hl 3 rfl) ?_
                    have J_142 : ∀ (y_j142 : Ly) (s_j142 : St) (d_j142 e_j142 : Nat) (x1j142 : Int32) (x2j142 : Int32) (x3j142 : Int32) (x4j142 : Int32) (x5j142 : Int32) (x6j142 : Int32) (x7j142 : Int32) (z0j142 : Int32) (H : Heap) (locs : List Loc), wja_Mo_shrink_142 mc ms Post PX K_68 a0 y_j142 s_j142 d_j142 e_j142 x1j142 x2j142 x3j142 x4j142 x5j142 x6j142 x7j142 z0j142 → va_P D CL (ws g ad y_j142 s_j142) H → va_D A (ws g ad y_j142 s_j142) → va_S A s.heap H locs → ∀ ls, lv_has ls 10 [(0, .ref (ad a0)), (1, .int x1j142), (2, .int x2j142), (3, .int x3j142), (4, .int x4j142), (5, .int x5j142), (6, .int x6j142), (7, .int x7j142)] → W p l e (ra_Mo_shrink mc ms) s m args below meth c H locs d_j142 e_j142 Q (F0 m 142 ls [.int z0j142]) := by
                      intro y_j142 s_j142 d_j142 e_j142 x1j142 x2j142 x3j142 x4j142 x5j142 x6j142 x7j142 z0j142 H locs h hP hD hS ls hl
                      unfold wja_Mo_shrink_142 at h
                      obtain ⟨hd, h⟩ := h
                      refine lv_istore (lv' := [(9, .int z0j142), (0, .ref (ad a0)), (1, .int x1j142), (2, .int x2j142), (3, .int x3j142), (4, .int x4j142), (5, .int x5j142), (6, .int x6j142), (7, .int x7j142)]) G.1 G.2.1 d_Mo_shrink_142 hl (by decide) rfl (fun ls hl => ?_)
                      refine lv_iload G.1 G.2.1 d_Mo_shrink_144 (lv_at hl 0 rfl) ?_
                      have J_179 : ∀ (y_j179 : Ly) (s_j179 : St) (d_j179 e_j179 : Nat) (x1j179 : Int32) (x2j179 : Int32) (x3j179 : Int32) (x4j179 : Int32) (x5j179 : Int32) (x6j179 : Int32) (x7j179 : Int32) (x9j179 : Int32) (H : Heap) (locs : List Loc), wja_Mo_shrink_179 mc ms Post PX K_68 a0 y_j179 s_j179 d_j179 e_j179 x1j179 x2j179 x3j179 x4j179 x5j179 x6j179 x7j179 x9j179 → va_P D CL (ws g ad y_j179 s_j179) H → va_D A (ws g ad y_j179 s_j179) → va_S A s.heap H locs → ∀ ls, lv_has ls 10 [(0, .ref (ad a0)), (1, .int x1j179), (2, .int x2j179), (3, .int x3j179), (4, .int x4j179), (5, .int x5j179), (6, .int x6j179), (7, .int x7j179), (9, .int x9j179)] → W p l e (ra_Mo_shrink mc ms) s m args below meth c H locs d_j179 e_j179 Q (F0 m 179 ls []) := by
                        intro y_j179 s_j179 d_j179 e_j179 x1j179 x2j179 x3j179 x4j179 x5j179 x6j179 x7j179 x9j179 H locs h hP hD hS ls hl
                        unfold wja_Mo_shrink_179 at h
                        obtain ⟨hd, h⟩ := h
                        refine lv_iload G.1 G.2.1 d_Mo_shrink_179 (lv_at hl 8 rfl) ?_
                        have J_215 : ∀ (y_j215 : Ly) (s_j215 : St) (d_j215 e_j215 : Nat) (x1j215 : Int32) (x2j215 : Int32) (x3j215 : Int32) (x4j215 : Int32) (x5j215 : Int32) (x6j215 : Int32) (x7j215 : Int32) (H : Heap) (locs : List Loc), wja_Mo_shrink_215 mc ms Post PX K_68 a0 y_j215 s_j215 d_j215 e_j215 x1j215 x2j215 x3j215 x4j215 x5j215 x6j215 x7j215 → va_P D CL (ws g ad y_j215 s_j215) H → va_D A (ws g ad y_j215 s_j215) → va_S A s.heap H locs → ∀ ls, lv_has ls 10 [(0, .ref (ad a0)), (1, .int x1j215), (2, .int x2j215), (3, .int x3j215), (4, .int x4j215), (5, .int x5j215), (6, .int x6j215), (7, .int x7j215)] → W p l e (ra_Mo_shrink mc ms) s m args below meth c H locs d_j215 e_j215 Q (F0 m 215 ls []) := by
                          intro y_j215 s_j215 d_j215 e_j215 x1j215 x2j215 x3j215 x4j215 x5j215 x6j215 x7j215 H locs h hP hD hS ls hl
                          unfold wja_Mo_shrink_215 at h
                          obtain ⟨hd, h⟩ := h
                          refine lv_iinc (v := x7j215 + (-1)) (lv' := [(7, .int (x7j215 + (-1))), (0, .ref (ad a0)), (1, .int x1j215), (2, .int x2j215), (3, .int x3j215), (4, .int x4j215), (5, .int x5j215), (6, .int x6j215)]) G.1 G.2.1 d_Mo_shrink_215 hl (k := 7) rfl rfl (by decide) rfl (fun ls hl => ?_)
                          refine lv_goto (tgt := 68) G.1 G.2.1 d_Mo_shrink_218 (by decide) ?_
                          have h := hK_68 y_j215 s_j215 d_j215 e_j215 x1j215 x2j215 x3j215 x4j215 x5j215 x6j215 (x7j215 + (-1)) h
                          exact ih_68 y_j215 s_j215 d_j215 e_j215 x1j215 x2j215 x3j215 x4j215 x5j215 x6j215 (x7j215 + (-1)) (Nat.lt_of_lt_of_le h.2 (Nat.le_of_lt_succ hμ_68)) h.1 H locs hP hD hS ls (lv_sub hl [1, 2, 3, 4, 5, 6, 7, 0] rfl)
                        refine lv_if_eq (tgt := 215) G.1 G.2.1 d_Mo_shrink_181 (by decide) (fun c181 => ?_) (fun c181 => ?_)
                        · skip
                          have h := h.1 c181
                          exact J_215 y_j179 s_j179 d_j179 e_j179 x1j179 x2j179 x3j179 x4j179 x5j179 x6j179 x7j179 H locs h hP hD hS ls (lv_sub hl [0, 1, 2, 3, 4, 5, 6, 7] rfl)
                        · skip
                          have h := h.2 c181
                          refine lv_aload_n G.1 G.2.1 d_Mo_shrink_184 rfl (lv_at hl 0 rfl) ?_
                          refine ugf (v := .ref (yP y_j179 a0 122)) G hP h_a0 iMo rfl 122 (by decide) rfl q3186 rfl rfl d_Mo_shrink_185 ?_
                          refine lv_iconst (v := 0) G.1 G.2.1 d_Mo_shrink_188 (by decide) ?_
                          refine lv_aload_n G.1 G.2.1 d_Mo_shrink_189 rfl (lv_at hl 0 rfl) ?_
                          refine ugf (v := .ref (yP y_j179 a0 116)) G hP h_a0 iMo rfl 116 (by decide) rfl q3180 rfl rfl d_Mo_shrink_190 ?_
                          refine lv_sipush (v := 1204) G.1 G.2.1 d_Mo_shrink_193 (by decide) ?_
                          refine lv_iload_n G.1 G.2.1 d_Mo_shrink_196 rfl (lv_at hl 1 rfl) ?_
                          refine lv_imul G.1 G.2.1 d_Mo_shrink_197 ?_
                          refine lv_aload_n G.1 G.2.1 d_Mo_shrink_198 rfl (lv_at hl 0 rfl) ?_
                          refine W.eq (g2 := F0 m 199 ls [.ref (ad a0), .int (1204 * x1j179), .ref (yP y_j179 a0 116), .int 0, .ref (yP y_j179 a0 122)]) rfl ?_
                          refine ugf (v := .int (sV s_j179 a0 123)) G hP h_a0 iMo rfl 123 (by decide) rfl q3187 rfl rfl d_Mo_shrink_199 ?_
                          refine ucpy G hP hD hS (kdp h_a0 rfl) (typ h_a0 rfl) (kdp h_a0 rfl) (typ h_a0 rfl) rfl rfl h hl.1 q2595 q488 q487 q338 (Nat.le_of_ble_eq_true rfl) (Nat.le_of_ble_eq_true rfl) d_Mo_shrink_202 (fun s_37 H locs h hP hD hS => ?_)
                          refine lv_aload_n G.1 G.2.1 d_Mo_shrink_205 rfl (lv_at hl 0 rfl) ?_
                          refine ugf (v := .ref (yP y_j179 a0 117)) G hP h_a0 iMo rfl 117 (by decide) rfl q3181 rfl rfl d_Mo_shrink_206 ?_
                          refine lv_iload_n G.1 G.2.1 d_Mo_shrink_209 rfl (lv_at hl 1 rfl) ?_
                          refine lv_aload_n G.1 G.2.1 d_Mo_shrink_210 rfl (lv_at hl 0 rfl) ?_
                          refine ugf (v := .int (sV s_37 a0 123)) G hP h_a0 iMo rfl 123 (by decide) rfl q3187 rfl rfl d_Mo_shrink_211 ?_
                          refine uiast G hP hD hS (kdp h_a0 rfl) (typ h_a0 rfl) h d_Mo_shrink_214 (fun s_38 H locs h hP hD hS => ?_)
                          exact J_215 y_j179 s_38 d_j179 e_j179 x1j179 x2j179 x3j179 x4j179 x5j179 x6j179 x7j179 H locs h hP hD hS ls (lv_sub hl [0, 1, 2, 3, 4, 5, 6, 7] rfl)
                      refine lv_if_eq (tgt := 179) G.1 G.2.1 d_Mo_shrink_146 (by decide) (fun c146 => ?_) (fun c146 => ?_)
                      · skip
                        have h := h.1 c146
                        exact J_179 y_j142 s_j142 d_j142 e_j142 x1j142 x2j142 x3j142 x4j142 x5j142 x6j142 x7j142 z0j142 H locs h hP hD hS ls (lv_sub hl [1, 2, 3, 4, 5, 6, 7, 8, 0] rfl)
                      · skip
                        have h := h.2 c146
                        refine lv_aload_n G.1 G.2.1 d_Mo_shrink_149 rfl (lv_at hl 1 rfl) ?_
                        refine lv_iload_n G.1 G.2.1 d_Mo_shrink_150 rfl (lv_at hl 3 rfl) ?_
                        obtain ⟨mc_44, ms_45, hr_46, h⟩ := h
                        refine uxVv (As := [.int x2j142]) (rest := []) G hP hD hS (cx_Mo_tryDraft l D g ad mc_44 ms_45 y_j142 _ _ s_j142 a0 x2j142 H.size (us H) h_a0 h) (fun _ h => absurd h List.not_mem_nil) w9_Mo_tryDraft q4232 ⟨Nat.le_of_ble_eq_true rfl, Nat.le_of_ble_eq_true rfl⟩ rfl rfl h_a0 (q := (RMo, TMo, 131)) rfl rfl hl.1 rfl (Nat.le_of_ble_eq_true rfl) rfl hr_46 d_Mo_shrink_151 (fun y_41 s_40 d_42 e_43 H locs q9 ce h hP hD hS hce hcv hcl => ?_) (fun y_41 s_40 d_42 e_43 H locs h hP hD hS => ?_)
                        · skip
                          obtain ⟨hd, h⟩ := h
                          exact hretX h hP hD hS hd.1 hd.2 hce hcv hcl
                        have hl := lv_sub (l' := [(0, .ref (ad a0)), (1, .int x1j142), (2, .int x2j142), (3, .int x3j142), (4, .int x4j142), (5, .int x5j142), (6, .int x6j142), (7, .int x7j142)]) hl [1, 2, 3, 4, 5, 6, 7, 8] rfl
                        obtain ⟨hd, h⟩ := h
                        refine lv_aload_n G.1 G.2.1 d_Mo_shrink_154 rfl (lv_at hl 0 rfl) ?_
                        refine ugf (v := .int (sV s_40 a0 124)) G hP h_a0 iMo rfl 124 (by decide) rfl q3188 rfl rfl d_Mo_shrink_155 ?_
                        refine lv_iload G.1 G.2.1 d_Mo_shrink_158 (lv_at hl 5 rfl) ?_
                        have J_177 : ∀ (y_j177 : Ly) (s_j177 : St) (d_j177 e_j177 : Nat) (x1j177 : Int32) (x2j177 : Int32) (x3j177 : Int32) (x4j177 : Int32) (x5j177 : Int32) (x6j177 : Int32) (x7j177 : Int32) (z0j177 : Int32) (H : Heap) (locs : List Loc), wja_Mo_shrink_177 mc ms Post PX K_68 a0 y_j177 s_j177 d_j177 e_j177 x1j177 x2j177 x3j177 x4j177 x5j177 x6j177 x7j177 z0j177 → va_P D CL (ws g ad y_j177 s_j177) H → va_D A (ws g ad y_j177 s_j177) → va_S A s.heap H locs → ∀ ls, lv_has ls 10 [(0, .ref (ad a0)), (1, .int x1j177), (2, .int x2j177), (3, .int x3j177), (4, .int x4j177), (5, .int x5j177), (6, .int x6j177), (7, .int x7j177)] → W p l e (ra_Mo_shrink mc ms) s m args below meth c H locs d_j177 e_j177 Q (F0 m 177 ls [.int z0j177]) := by
                          intro y_j177 s_j177 d_j177 e_j177 x1j177 x2j177 x3j177 x4j177 x5j177 x6j177 x7j177 z0j177 H locs h hP hD hS ls hl
                          unfold wja_Mo_shrink_177 at h
                          obtain ⟨hd, h⟩ := h
                          refine lv_istore (lv' := [(9, .int z0j177), (0, .ref (ad a0)), (1, .int x1j177), (2, .int x2j177), (3, .int x3j177), (4, .int x4j177), (5, .int x5j177), (6, .int x6j177), (7, .int x7j177)]) G.1 G.2.1 d_Mo_shrink_177 hl (by decide) rfl (fun ls hl => ?_)
                          exact J_179 y_j177 s_j177 d_j177 e_j177 x1j177 x2j177 x3j177 x4j177 x5j177 x6j177 x7j177 z0j177 H locs h hP hD hS ls (lv_sub hl [1, 2, 3, 4, 5, 6, 7, 8, 0] rfl)
                        have J_176 : ∀ (y_j176 : Ly) (s_j176 : St) (d_j176 e_j176 : Nat) (x1j176 : Int32) (x2j176 : Int32) (x3j176 : Int32) (x4j176 : Int32) (x5j176 : Int32) (x6j176 : Int32) (x7j176 : Int32) (H : Heap) (locs : List Loc), wja_Mo_shrink_176 mc ms Post PX K_68 a0 y_j176 s_j176 d_j176 e_j176 x1j176 x2j176 x3j176 x4j176 x5j176 x6j176 x7j176 → va_P D CL (ws g ad y_j176 s_j176) H → va_D A (ws g ad y_j176 s_j176) → va_S A s.heap H locs → ∀ ls, lv_has ls 10 [(0, .ref (ad a0)), (1, .int x1j176), (2, .int x2j176), (3, .int x3j176), (4, .int x4j176), (5, .int x5j176), (6, .int x6j176), (7, .int x7j176)] → W p l e (ra_Mo_shrink mc ms) s m args below meth c H locs d_j176 e_j176 Q (F0 m 176 ls []) := by
                          intro y_j176 s_j176 d_j176 e_j176 x1j176 x2j176 x3j176 x4j176 x5j176 x6j176 x7j176 H locs h hP hD hS ls hl
                          unfold wja_Mo_shrink_176 at h
                          obtain ⟨hd, h⟩ := h
                          refine lv_iconst (v := 0) G.1 G.2.1 d_Mo_shrink_176 (by decide) ?_
                          exact J_177 y_j176 s_j176 d_j176 e_j176 x1j176 x2j176 x3j176 x4j176 x5j176 x6j176 x7j176 0 H locs h hP hD hS ls (lv_sub hl [0, 1, 2, 3, 4, 5, 6, 7] rfl)
                        refine lv_icmp_ne (tgt := 176) G.1 G.2.1 d_Mo_shrink_160 (by decide) (fun c160 => ?_) (fun c160 => ?_)
                        · skip
                          have h := h.1 c160
                          exact J_176 y_41 s_40 (d_j142 + d_42) (e_j142 + e_43) x1j142 x2j142 x3j142 x4j142 x5j142 x6j142 x7j142 H locs h hP hD hS ls (lv_sub hl [0, 1, 2, 3, 4, 5, 6, 7] rfl)
                        · skip
                          have h := h.2 c160
                          refine lv_aload_n G.1 G.2.1 d_Mo_shrink_163 rfl (lv_at hl 0 rfl) ?_
                          refine W.eq (g2 := F0 m 164 ls [.ref (ad a0)]) rfl ?_
                          refine ugf (v := .int (sV s_40 a0 125)) G hP h_a0 iMo rfl 125 (by decide) rfl q3189 rfl rfl d_Mo_shrink_164 ?_
                          refine lv_iload G.1 G.2.1 d_Mo_shrink_167 (lv_at hl 6 rfl) ?_
                          refine lv_icmp_ne (tgt := 176) G.1 G.2.1 d_Mo_shrink_169 (by decide) (fun c169 => ?_) (fun c169 => ?_)
                          · skip
                            have h := h.1 c169
                            exact J_176 y_41 s_40 (d_j142 + d_42) (e_j142 + e_43) x1j142 x2j142 x3j142 x4j142 x5j142 x6j142 x7j142 H locs h hP hD hS ls (lv_sub hl [0, 1, 2, 3, 4, 5, 6, 7] rfl)
                          · skip
                            have h := h.2 c169
                            refine lv_iconst (v := 1) G.1 G.2.1 d_Mo_shrink_172 (by decide) ?_
                            refine lv_goto (tgt := 177) G.1 G.2.1 d_Mo_shrink_173 (by decide) ?_
                            exact J_177 y_41 s_40 (d_j142 + d_42) (e_j142 + e_43) x1j142 x2j142 x3j142 x4j142 x5j142 x6j142 x7j142 1 H locs h hP hD hS ls (lv_sub hl [0, 1, 2, 3, 4, 5, 6, 7] rfl)
                    have J_141 : ∀ (y_j141 : Ly) (s_j141 : St) (d_j141 e_j141 : Nat) (x1j141 : Int32) (x2j141 : Int32) (x3j141 : Int32) (x4j141 : Int32) (x5j141 : Int32) (x6j141 : Int32) (x7j141 : Int32) (H : Heap) (locs : List Loc), wja_Mo_shrink_141 mc ms Post PX K_68 a0 y_j141 s_j141 d_j141 e_j141 x1j141 x2j141 x3j141 x4j141 x5j141 x6j141 x7j141 → va_P D CL (ws g ad y_j141 s_j141) H → va_D A (ws g ad y_j141 s_j141) → va_S A s.heap H locs → ∀ ls, lv_has ls 10 [(0, .ref (ad a0)), (1, .int x1j141), (2, .int x2j141), (3, .int x3j141), (4, .int x4j141), (5, .int x5j141), (6, .int x6j141), (7, .int x7j141)] → W p l e (ra_Mo_shrink mc ms) s m args below meth c H locs d_j141 e_j141 Q (F0 m 141 ls []) := by
                      intro y_j141 s_j141 d_j141 e_j141 x1j141 x2j141 x3j141 x4j141 x5j141 x6j141 x7j141 H locs h hP hD hS ls hl
                      unfold wja_Mo_shrink_141 at h
                      obtain ⟨hd, h⟩ := h
                      refine lv_iconst (v := 0) G.1 G.2.1 d_Mo_shrink_141 (by decide) ?_
                      exact J_142 y_j141 s_j141 d_j141 e_j141 x1j141 x2j141 x3j141 x4j141 x5j141 x6j141 x7j141 0 H locs h hP hD hS ls (lv_sub hl [0, 1, 2, 3, 4, 5, 6, 7] rfl)
                    refine lv_icmp_ne (tgt := 141) G.1 G.2.1 d_Mo_shrink_125 (by decide) (fun c125 => ?_) (fun c125 => ?_)
                    · skip
                      have h := h.1 c125
                      exact J_141 y_31 s_30 (d_h88 + d_32) (e_h88 + e_33) x1h88 x2h88 x3h88 x4h88 x5h88 x6h88 x7h88 H locs h hP hD hS ls (lv_sub hl [0, 1, 2, 3, 4, 5, 6, 7] rfl)
                    · skip
                      have h := h.2 c125
                      refine lv_aload_n G.1 G.2.1 d_Mo_shrink_128 rfl (lv_at hl 0 rfl) ?_
                      refine W.eq (g2 := F0 m 129 ls [.ref (ad a0)]) rfl ?_
                      refine ugf (v := .int (sV s_30 a0 125)) G hP h_a0 iMo rfl 125 (by decide) rfl q3189 rfl rfl d_Mo_shrink_129 ?_
                      refine lv_iload G.1 G.2.1 d_Mo_shrink_132 (lv_at hl 4 rfl) ?_
                      refine lv_icmp_ne (tgt := 141) G.1 G.2.1 d_Mo_shrink_134 (by decide) (fun c134 => ?_) (fun c134 => ?_)
                      · skip
                        have h := h.1 c134
                        exact J_141 y_31 s_30 (d_h88 + d_32) (e_h88 + e_33) x1h88 x2h88 x3h88 x4h88 x5h88 x6h88 x7h88 H locs h hP hD hS ls (lv_sub hl [0, 1, 2, 3, 4, 5, 6, 7] rfl)
                      · skip
                        have h := h.2 c134
                        refine lv_iconst (v := 1) G.1 G.2.1 d_Mo_shrink_137 (by decide) ?_
                        refine lv_goto (tgt := 142) G.1 G.2.1 d_Mo_shrink_138 (by decide) ?_
                        exact J_142 y_31 s_30 (d_h88 + d_32) (e_h88 + e_33) x1h88 x2h88 x3h88 x4h88 x5h88 x6h88 x7h88 1 H locs h hP hD hS ls (lv_sub hl [0, 1, 2, 3, 4, 5, 6, 7] rfl)
                  · skip
                    have h := h.2 c92
                    refine lv_iload G.1 G.2.1 d_Mo_shrink_95 (lv_at hl 9 rfl) ?_
                    refine lv_iload G.1 G.2.1 d_Mo_shrink_97 (lv_at hl 7 rfl) ?_
                    have J_109 : ∀ (y_j109 : Ly) (s_j109 : St) (d_j109 e_j109 : Nat) (x1j109 : Int32) (x2j109 : Int32) (x3j109 : Int32) (x4j109 : Int32) (x5j109 : Int32) (x6j109 : Int32) (x7j109 : Int32) (x8j109 : Int32) (x9j109 : Int32) (H : Heap) (locs : List Loc), wja_Mo_shrink_109 mc ms Post PX K_68 K_88 a0 y_j109 s_j109 d_j109 e_j109 x1j109 x2j109 x3j109 x4j109 x5j109 x6j109 x7j109 x8j109 x9j109 → va_P D CL (ws g ad y_j109 s_j109) H → va_D A (ws g ad y_j109 s_j109) → va_S A s.heap H locs → ∀ ls, lv_has ls 10 [(0, .ref (ad a0)), (1, .int x1j109), (2, .int x2j109), (3, .int x3j109), (4, .int x4j109), (5, .int x5j109), (6, .int x6j109), (7, .int x7j109), (8, .int x8j109), (9, .int x9j109)] → W p l e (ra_Mo_shrink mc ms) s m args below meth c H locs d_j109 e_j109 Q (F0 m 109 ls []) := by
                      intro y_j109 s_j109 d_j109 e_j109 x1j109 x2j109 x3j109 x4j109 x5j109 x6j109 x7j109 x8j109 x9j109 H locs h hP hD hS ls hl
                      unfold wja_Mo_shrink_109 at h
                      obtain ⟨hd, h⟩ := h
                      refine lv_iinc (v := x9j109 + 1) (lv' := [(9, .int (x9j109 + 1)), (0, .ref (ad a0)), (1, .int x1j109), (2, .int x2j109), (3, .int x3j109), (4, .int x4j109), (5, .int x5j109), (6, .int x6j109), (7, .int x7j109), (8, .int x8j109)]) G.1 G.2.1 d_Mo_shrink_109 hl (k := 9) rfl rfl (by decide) rfl (fun ls hl => ?_)
                      refine lv_goto (tgt := 88) G.1 G.2.1 d_Mo_shrink_112 (by decide) ?_
                      have h := hK_88 y_j109 s_j109 d_j109 e_j109 x1j109 x2j109 x3j109 x4j109 x5j109 x6j109 x7j109 x8j109 (x9j109 + 1) h
                      exact ih_88 y_j109 s_j109 d_j109 e_j109 x1j109 x2j109 x3j109 x4j109 x5j109 x6j109 x7j109 x8j109 (x9j109 + 1) (Nat.lt_of_lt_of_le h.2 (Nat.le_of_lt_succ hμ_88)) h.1 H locs hP hD hS ls (lv_sub hl [1, 2, 3, 4, 5, 6, 7, 8, 9, 0] rfl)
                    refine lv_icmp_eq (tgt := 109) G.1 G.2.1 d_Mo_shrink_99 (by decide) (fun c99 => ?_) (fun c99 => ?_)
                    · skip
                      have h := h.1 c99
                      exact J_109 y_h88 s_h88 d_h88 e_h88 x1h88 x2h88 x3h88 x4h88 x5h88 x6h88 x7h88 x8h88 x9h88 H locs h hP hD hS ls (lv_sub hl [0, 1, 2, 3, 4, 5, 6, 7, 8, 9] rfl)
                    · skip
                      have h := h.2 c99
                      refine lv_aload_n G.1 G.2.1 d_Mo_shrink_102 rfl (lv_at hl 0 rfl) ?_
                      refine lv_iload_n G.1 G.2.1 d_Mo_shrink_103 rfl (lv_at hl 1 rfl) ?_
                      refine lv_iload G.1 G.2.1 d_Mo_shrink_104 (lv_at hl 9 rfl) ?_
                      refine ucVv (As := [.int x1h88, .int x9h88]) (rest := []) G hP hD hS (cu_Mo_draftLine l D g ad y_h88 _ s_h88 a0 x1h88 x9h88 H.size h_a0 h) w9_Mo_draftLine q4279 ⟨Nat.le_of_ble_eq_true rfl, Nat.le_of_ble_eq_true rfl⟩ rfl rfl h_a0 (q := (RMo, TMo, 131)) rfl rfl hl.1 rfl (Nat.le_of_ble_eq_true rfl) rfl hd d_Mo_shrink_106 (fun s_48 H locs h hP hD hS => ?_)
                      exact J_109 y_h88 s_48 d_h88 e_h88 x1h88 x2h88 x3h88 x4h88 x5h88 x6h88 x7h88 x8h88 x9h88 H locs h hP hD hS ls (lv_sub hl [0, 1, 2, 3, 4, 5, 6, 7, 8, 9] rfl)
              exact L_88 _ y_h68 s_28 d_h68 e_h68 x1h68 x2h68 x3h68 x4h68 x5h68 x6h68 x7h68 r_26 0 (Nat.lt_succ_self _) hI_88 H locs hP hD hS ls (lv_sub hl [2, 3, 4, 5, 6, 7, 8, 9, 1, 0] rfl)
        exact L_68 _ y_15 s_22 (0 + d_8 + d_16) (0 + e_9 + e_17) v1 v2 (sV s_6 a0 124) (sV s_6 a0 125) (sV s_14 a0 124) (sV s_14 a0 125) (r_21 - 2) (Nat.lt_succ_self _) hI_68 H locs hP hD hS ls (lv_sub hl [5, 6, 7, 4, 3, 2, 1, 0] rfl)
      · skip
        have h := h.2 c16
        exact J_19 y s_2 0 0 H locs h hP hD hS ls (lv_sub hl [] rfl)
def y_Mo_trial : MethodName := ⟨"ClassWorksModel", "trial", "()I"⟩
abbrev b_Mo_trial : ByteArray := prog_14_method_194_code
theorem d_Mo_trial_0 : decode b_Mo_trial 0 = .ok (.aload_n 0, 1) := by decide +kernel
theorem d_Mo_trial_1 : decode b_Mo_trial 1 = .ok (.getfield 1314, 3) := by decide +kernel
theorem d_Mo_trial_4 : decode b_Mo_trial 4 = .ok (.bipush 40, 2) := by decide +kernel
theorem d_Mo_trial_6 : decode b_Mo_trial 6 = .ok (.if_icmp .eq 13, 3) := by decide +kernel
theorem d_Mo_trial_9 : decode b_Mo_trial 9 = .ok (.aload_n 0, 1) := by decide +kernel
theorem d_Mo_trial_10 : decode b_Mo_trial 10 = .ok (.getfield 1112, 3) := by decide +kernel
theorem d_Mo_trial_13 : decode b_Mo_trial 13 = .ok (.sipush 1200, 3) := by decide +kernel
theorem d_Mo_trial_16 : decode b_Mo_trial 16 = .ok (.if_icmp .le 6, 3) := by decide +kernel
theorem d_Mo_trial_19 : decode b_Mo_trial 19 = .ok (.bipush (-3), 2) := by decide +kernel
theorem d_Mo_trial_21 : decode b_Mo_trial 21 = .ok (.ireturn, 1) := by decide +kernel
theorem d_Mo_trial_22 : decode b_Mo_trial 22 = .ok (.iconst 0, 1) := by decide +kernel
theorem d_Mo_trial_23 : decode b_Mo_trial 23 = .ok (.istore_n 1, 1) := by decide +kernel
theorem d_Mo_trial_24 : decode b_Mo_trial 24 = .ok (.iconst 0, 1) := by decide +kernel
theorem d_Mo_trial_25 : decode b_Mo_trial 25 = .ok (.istore_n 2, 1) := by decide +kernel
theorem d_Mo_trial_26 : decode b_Mo_trial 26 = .ok (.iconst 0, 1) := by decide +kernel
theorem d_Mo_trial_27 : decode b_Mo_trial 27 = .ok (.istore_n 3, 1) := by decide +kernel
theorem d_Mo_trial_28 : decode b_Mo_trial 28 = .ok (.aload_n 0, 1) := by decide +kernel
theorem d_Mo_trial_29 : decode b_Mo_trial 29 = .ok (.iconst 0, 1) := by decide +kernel
theorem d_Mo_trial_30 : decode b_Mo_trial 30 = .ok (.putfield 1317, 3) := by decide +kernel
theorem d_Mo_trial_33 : decode b_Mo_trial 33 = .ok (.iconst 0, 1) := by decide +kernel
theorem d_Mo_trial_34 : decode b_Mo_trial 34 = .ok (.istore 4, 2) := by decide +kernel
theorem d_Mo_trial_36 : decode b_Mo_trial 36 = .ok (.iload 4, 2) := by decide +kernel
theorem d_Mo_trial_38 : decode b_Mo_trial 38 = .ok (.aload_n 0, 1) := by decide +kernel
theorem d_Mo_trial_39 : decode b_Mo_trial 39 = .ok (.getfield 1112, 3) := by decide +kernel
theorem d_Mo_trial_42 : decode b_Mo_trial 42 = .ok (.if_icmp .gt 124, 3) := by decide +kernel
theorem d_Mo_trial_45 : decode b_Mo_trial 45 = .ok (.iload 4, 2) := by decide +kernel
theorem d_Mo_trial_47 : decode b_Mo_trial 47 = .ok (.istore 5, 2) := by decide +kernel
theorem d_Mo_trial_49 : decode b_Mo_trial 49 = .ok (.iload 5, 2) := by decide +kernel
theorem d_Mo_trial_51 : decode b_Mo_trial 51 = .ok (.aload_n 0, 1) := by decide +kernel
theorem d_Mo_trial_52 : decode b_Mo_trial 52 = .ok (.getfield 1112, 3) := by decide +kernel
theorem d_Mo_trial_55 : decode b_Mo_trial 55 = .ok (.if_icmp .ge 21, 3) := by decide +kernel
theorem d_Mo_trial_58 : decode b_Mo_trial 58 = .ok (.aload_n 0, 1) := by decide +kernel
theorem d_Mo_trial_59 : decode b_Mo_trial 59 = .ok (.getfield 314, 3) := by decide +kernel
theorem d_Mo_trial_62 : decode b_Mo_trial 62 = .ok (.iload 5, 2) := by decide +kernel
theorem d_Mo_trial_64 : decode b_Mo_trial 64 = .ok (.baload, 1) := by decide +kernel
theorem d_Mo_trial_65 : decode b_Mo_trial 65 = .ok (.bipush 10, 2) := by decide +kernel
theorem d_Mo_trial_67 : decode b_Mo_trial 67 = .ok (.if_icmp .eq 9, 3) := by decide +kernel
theorem d_Mo_trial_70 : decode b_Mo_trial 70 = .ok (.iinc 5 1, 3) := by decide +kernel
theorem d_Mo_trial_73 : decode b_Mo_trial 73 = .ok (.goto (-24), 3) := by decide +kernel
theorem d_Mo_trial_76 : decode b_Mo_trial 76 = .ok (.aload_n 0, 1) := by decide +kernel
theorem d_Mo_trial_77 : decode b_Mo_trial 77 = .ok (.aload_n 0, 1) := by decide +kernel
theorem d_Mo_trial_78 : decode b_Mo_trial 78 = .ok (.getfield 314, 3) := by decide +kernel
theorem d_Mo_trial_81 : decode b_Mo_trial 81 = .ok (.iload 4, 2) := by decide +kernel
theorem d_Mo_trial_83 : decode b_Mo_trial 83 = .ok (.iload 5, 2) := by decide +kernel
theorem d_Mo_trial_85 : decode b_Mo_trial 85 = .ok (.invokevirtual 569, 3) := by decide +kernel
theorem d_Mo_trial_88 : decode b_Mo_trial 88 = .ok (.ifCond .eq 69, 3) := by decide +kernel
theorem d_Mo_trial_91 : decode b_Mo_trial 91 = .ok (.iinc 1 1, 3) := by decide +kernel
theorem d_Mo_trial_94 : decode b_Mo_trial 94 = .ok (.iload 4, 2) := by decide +kernel
theorem d_Mo_trial_96 : decode b_Mo_trial 96 = .ok (.istore_n 2, 1) := by decide +kernel
theorem d_Mo_trial_97 : decode b_Mo_trial 97 = .ok (.iload 5, 2) := by decide +kernel
theorem d_Mo_trial_99 : decode b_Mo_trial 99 = .ok (.istore_n 3, 1) := by decide +kernel
theorem d_Mo_trial_100 : decode b_Mo_trial 100 = .ok (.aload_n 0, 1) := by decide +kernel
theorem d_Mo_trial_101 : decode b_Mo_trial 101 = .ok (.getfield 314, 3) := by decide +kernel
theorem d_Mo_trial_104 : decode b_Mo_trial 104 = .ok (.iload 4, 2) := by decide +kernel
theorem d_Mo_trial_106 : decode b_Mo_trial 106 = .ok (.aload_n 0, 1) := by decide +kernel
theorem d_Mo_trial_107 : decode b_Mo_trial 107 = .ok (.getfield 387, 3) := by decide +kernel
theorem d_Mo_trial_110 : decode b_Mo_trial 110 = .ok (.aload_n 0, 1) := by decide +kernel
theorem d_Mo_trial_111 : decode b_Mo_trial 111 = .ok (.getfield 1317, 3) := by decide +kernel
theorem d_Mo_trial_114 : decode b_Mo_trial 114 = .ok (.iload 5, 2) := by decide +kernel
theorem d_Mo_trial_116 : decode b_Mo_trial 116 = .ok (.iload 4, 2) := by decide +kernel
theorem d_Mo_trial_118 : decode b_Mo_trial 118 = .ok (.isub, 1) := by decide +kernel
theorem d_Mo_trial_119 : decode b_Mo_trial 119 = .ok (.invokestatic 11, 3) := by decide +kernel
theorem d_Mo_trial_122 : decode b_Mo_trial 122 = .ok (.aload_n 0, 1) := by decide +kernel
theorem d_Mo_trial_123 : decode b_Mo_trial 123 = .ok (.dup, 1) := by decide +kernel
theorem d_Mo_trial_124 : decode b_Mo_trial 124 = .ok (.getfield 1317, 3) := by decide +kernel
theorem d_Mo_trial_127 : decode b_Mo_trial 127 = .ok (.iload 5, 2) := by decide +kernel
theorem d_Mo_trial_129 : decode b_Mo_trial 129 = .ok (.iload 4, 2) := by decide +kernel
theorem d_Mo_trial_131 : decode b_Mo_trial 131 = .ok (.isub, 1) := by decide +kernel
theorem d_Mo_trial_132 : decode b_Mo_trial 132 = .ok (.iadd, 1) := by decide +kernel
theorem d_Mo_trial_133 : decode b_Mo_trial 133 = .ok (.putfield 1317, 3) := by decide +kernel
theorem d_Mo_trial_136 : decode b_Mo_trial 136 = .ok (.aload_n 0, 1) := by decide +kernel
theorem d_Mo_trial_137 : decode b_Mo_trial 137 = .ok (.getfield 387, 3) := by decide +kernel
theorem d_Mo_trial_140 : decode b_Mo_trial 140 = .ok (.aload_n 0, 1) := by decide +kernel
theorem d_Mo_trial_141 : decode b_Mo_trial 141 = .ok (.getfield 1317, 3) := by decide +kernel
theorem d_Mo_trial_144 : decode b_Mo_trial 144 = .ok (.bipush 10, 2) := by decide +kernel
theorem d_Mo_trial_146 : decode b_Mo_trial 146 = .ok (.bastore, 1) := by decide +kernel
theorem d_Mo_trial_147 : decode b_Mo_trial 147 = .ok (.aload_n 0, 1) := by decide +kernel
theorem d_Mo_trial_148 : decode b_Mo_trial 148 = .ok (.dup, 1) := by decide +kernel
theorem d_Mo_trial_149 : decode b_Mo_trial 149 = .ok (.getfield 1317, 3) := by decide +kernel
theorem d_Mo_trial_152 : decode b_Mo_trial 152 = .ok (.iconst 1, 1) := by decide +kernel
theorem d_Mo_trial_153 : decode b_Mo_trial 153 = .ok (.iadd, 1) := by decide +kernel
theorem d_Mo_trial_154 : decode b_Mo_trial 154 = .ok (.putfield 1317, 3) := by decide +kernel
theorem d_Mo_trial_157 : decode b_Mo_trial 157 = .ok (.iload 5, 2) := by decide +kernel
theorem d_Mo_trial_159 : decode b_Mo_trial 159 = .ok (.iconst 1, 1) := by decide +kernel
theorem d_Mo_trial_160 : decode b_Mo_trial 160 = .ok (.iadd, 1) := by decide +kernel
theorem d_Mo_trial_161 : decode b_Mo_trial 161 = .ok (.istore 4, 2) := by decide +kernel
theorem d_Mo_trial_163 : decode b_Mo_trial 163 = .ok (.goto (-127), 3) := by decide +kernel
theorem d_Mo_trial_166 : decode b_Mo_trial 166 = .ok (.iload_n 1, 1) := by decide +kernel
theorem d_Mo_trial_167 : decode b_Mo_trial 167 = .ok (.bipush 60, 2) := by decide +kernel
theorem d_Mo_trial_169 : decode b_Mo_trial 169 = .ok (.if_icmp .le 6, 3) := by decide +kernel
theorem d_Mo_trial_172 : decode b_Mo_trial 172 = .ok (.bipush (-3), 2) := by decide +kernel
theorem d_Mo_trial_174 : decode b_Mo_trial 174 = .ok (.ireturn, 1) := by decide +kernel
theorem d_Mo_trial_175 : decode b_Mo_trial 175 = .ok (.aload_n 0, 1) := by decide +kernel
theorem d_Mo_trial_176 : decode b_Mo_trial 176 = .ok (.getfield 1112, 3) := by decide +kernel
theorem d_Mo_trial_179 : decode b_Mo_trial 179 = .ok (.istore 5, 2) := by decide +kernel
theorem d_Mo_trial_181 : decode b_Mo_trial 181 = .ok (.aload_n 0, 1) := by decide +kernel
theorem d_Mo_trial_182 : decode b_Mo_trial 182 = .ok (.iconst 0, 1) := by decide +kernel
theorem d_Mo_trial_183 : decode b_Mo_trial 183 = .ok (.putfield 1112, 3) := by decide +kernel
theorem d_Mo_trial_186 : decode b_Mo_trial 186 = .ok (.aload_n 0, 1) := by decide +kernel
theorem d_Mo_trial_187 : decode b_Mo_trial 187 = .ok (.bipush (-2), 2) := by decide +kernel
theorem d_Mo_trial_189 : decode b_Mo_trial 189 = .ok (.putfield 317, 3) := by decide +kernel
theorem d_Mo_trial_192 : decode b_Mo_trial 192 = .ok (.iload_n 1, 1) := by decide +kernel
theorem d_Mo_trial_193 : decode b_Mo_trial 193 = .ok (.ifCond .ne 10, 3) := by decide +kernel
theorem d_Mo_trial_196 : decode b_Mo_trial 196 = .ok (.aload_n 0, 1) := by decide +kernel
theorem d_Mo_trial_197 : decode b_Mo_trial 197 = .ok (.iconst 1, 1) := by decide +kernel
theorem d_Mo_trial_198 : decode b_Mo_trial 198 = .ok (.iload 5, 2) := by decide +kernel
theorem d_Mo_trial_200 : decode b_Mo_trial 200 = .ok (.invokevirtual 576, 3) := by decide +kernel
theorem d_Mo_trial_203 : decode b_Mo_trial 203 = .ok (.aload_n 0, 1) := by decide +kernel
theorem d_Mo_trial_204 : decode b_Mo_trial 204 = .ok (.aload_n 0, 1) := by decide +kernel
theorem d_Mo_trial_205 : decode b_Mo_trial 205 = .ok (.getfield 314, 3) := by decide +kernel
theorem d_Mo_trial_208 : decode b_Mo_trial 208 = .ok (.iload_n 2, 1) := by decide +kernel
theorem d_Mo_trial_209 : decode b_Mo_trial 209 = .ok (.iload_n 3, 1) := by decide +kernel
theorem d_Mo_trial_210 : decode b_Mo_trial 210 = .ok (.invokevirtual 569, 3) := by decide +kernel
theorem d_Mo_trial_213 : decode b_Mo_trial 213 = .ok (.pop, 1) := by decide +kernel
theorem d_Mo_trial_214 : decode b_Mo_trial 214 = .ok (.aload_n 0, 1) := by decide +kernel
theorem d_Mo_trial_215 : decode b_Mo_trial 215 = .ok (.aload_n 0, 1) := by decide +kernel
theorem d_Mo_trial_216 : decode b_Mo_trial 216 = .ok (.getfield 237, 3) := by decide +kernel
theorem d_Mo_trial_219 : decode b_Mo_trial 219 = .ok (.invokevirtual 592, 3) := by decide +kernel
theorem d_Mo_trial_222 : decode b_Mo_trial 222 = .ok (.aload_n 0, 1) := by decide +kernel
theorem d_Mo_trial_223 : decode b_Mo_trial 223 = .ok (.invokevirtual 1141, 3) := by decide +kernel
theorem d_Mo_trial_226 : decode b_Mo_trial 226 = .ok (.goto 16, 3) := by decide +kernel
theorem d_Mo_trial_229 : decode b_Mo_trial 229 = .ok (.astore 6, 2) := by decide +kernel
theorem d_Mo_trial_231 : decode b_Mo_trial 231 = .ok (.aload_n 0, 1) := by decide +kernel
theorem d_Mo_trial_232 : decode b_Mo_trial 232 = .ok (.aload_n 0, 1) := by decide +kernel
theorem d_Mo_trial_233 : decode b_Mo_trial 233 = .ok (.getfield 529, 3) := by decide +kernel
theorem d_Mo_trial_236 : decode b_Mo_trial 236 = .ok (.putfield 317, 3) := by decide +kernel
theorem d_Mo_trial_239 : decode b_Mo_trial 239 = .ok (.bipush (-11), 2) := by decide +kernel
theorem d_Mo_trial_241 : decode b_Mo_trial 241 = .ok (.ireturn, 1) := by decide +kernel
theorem d_Mo_trial_242 : decode b_Mo_trial 242 = .ok (.aload_n 0, 1) := by decide +kernel
theorem d_Mo_trial_243 : decode b_Mo_trial 243 = .ok (.invokevirtual 1320, 3) := by decide +kernel
theorem d_Mo_trial_246 : decode b_Mo_trial 246 = .ok (.ireturn, 1) := by decide +kernel
abbrev ra_Mo_trial (mc ms : Nat) : Room := { frames := 6, cells := mc, slots := ms, locals := 203 }
abbrev hh_Mo_trial : List (Nat × Nat × Nat × Nat) := [(192, 226, 229, 267)]
def wja_Mo_trial_19 (mc ms : Nat) (Post : Ly → St → Int32 → Nat → Nat → Prop) (a0 : Nat) (y_j19 : Ly) (s_j19 : St) (d_j19 e_j19 : Nat) : Prop := (d_j19 ≤ mc ∧ e_j19 ≤ ms) ∧ Post y_j19 s_j19 (-3) d_j19 e_j19
def wja_Mo_trial_229 (mc ms : Nat) (Post : Ly → St → Int32 → Nat → Nat → Prop) (a0 : Nat) (y_j229 : Ly) (s_j229 : St) (d_j229 e_j229 : Nat) (z0j229 : Nat) : Prop := (d_j229 ≤ mc ∧ e_j229 ≤ ms) ∧ xP (uV s_j229 a0 86 (sV s_j229 a0 50)) (fun s_4 : St => Post y_j229 s_4 (-11) d_j229 e_j229)
def wja_Mo_trial_203 (mc ms : Nat) (Post : Ly → St → Int32 → Nat → Nat → Prop) (a0 : Nat) (y_j203 : Ly) (s_j203 : St) (d_j203 e_j203 : Nat) (x2j203 : Int32) (x3j203 : Int32) : Prop := (d_j203 ≤ mc ∧ e_j203 ≤ ms) ∧ ∃ mc_10 ms_11 : Nat, (d_j203 + mc_10 ≤ mc ∧ e_j203 + ms_11 ≤ ms) ∧ wa_Mo_cutLine mc_10 ms_11 y_j203 (fun (y_7 : Ly) (s_6 : St) (r_5 : Int32) (d_8 e_9 : Nat) => (d_j203 + d_8 ≤ mc ∧ e_j203 + e_9 ≤ ms) ∧ ∃ mc_18 ms_19 : Nat, (d_j203 + d_8 + mc_18 ≤ mc ∧ e_j203 + e_9 + ms_19 ≤ ms) ∧ wx_Mo_needWord mc_18 ms_19 y_7 (fun (y_15 : Ly) (s_14 : St) (d_16 e_17 : Nat) => (d_j203 + d_8 + d_16 ≤ mc ∧ e_j203 + e_9 + e_17 ≤ ms) ∧ ∃ mc_26 ms_27 : Nat, (d_j203 + d_8 + d_16 + mc_26 ≤ mc ∧ e_j203 + e_9 + e_17 + ms_27 ≤ ms) ∧ wx_Mo_callWords mc_26 ms_27 y_15 (fun (y_23 : Ly) (s_22 : St) (d_24 e_25 : Nat) => (d_j203 + d_8 + d_16 + d_24 ≤ mc ∧ e_j203 + e_9 + e_17 + e_25 ≤ ms) ∧ wu_Mo_keepDraft y_23 (fun (s_30 : St) (r_29 : Int32) => Post y_23 s_30 r_29 (d_j203 + d_8 + d_16 + d_24) (e_j203 + e_9 + e_17 + e_25)) s_22 a0) (fun (y_23 : Ly) (s_22 : St) (d_24 e_25 : Nat) => ∀ q9 : Nat, wja_Mo_trial_229 mc ms Post a0 y_23 s_22 (d_j203 + d_8 + d_16 + d_24) (e_j203 + e_9 + e_17 + e_25) q9) s_14 a0) (fun (y_15 : Ly) (s_14 : St) (d_16 e_17 : Nat) => ∀ q9 : Nat, wja_Mo_trial_229 mc ms Post a0 y_15 s_14 (d_j203 + d_8 + d_16) (e_j203 + e_9 + e_17) q9) s_6 a0 (sV s_6 a0 25)) s_j203 a0 a0 84 x2j203 x3j203
def wja_Mo_trial_157 (mc ms : Nat) (Post : Ly → St → Int32 → Nat → Nat → Prop) (K_36 : Ly → St → Nat → Nat → Int32 → Int32 → Int32 → Int32 → Prop) (a0 : Nat) (y_j157 : Ly) (s_j157 : St) (d_j157 e_j157 : Nat) (x1j157 : Int32) (x2j157 : Int32) (x3j157 : Int32) (x5j157 : Int32) : Prop := (d_j157 ≤ mc ∧ e_j157 ≤ ms) ∧ K_36 y_j157 s_j157 d_j157 e_j157 x1j157 x2j157 x3j157 (x5j157 + 1)
def wja_Mo_trial_76 (mc ms : Nat) (Post : Ly → St → Int32 → Nat → Nat → Prop) (K_36 : Ly → St → Nat → Nat → Int32 → Int32 → Int32 → Int32 → Prop) (a0 : Nat) (y_j76 : Ly) (s_j76 : St) (d_j76 e_j76 : Nat) (x1j76 : Int32) (x2j76 : Int32) (x3j76 : Int32) (x4j76 : Int32) (x5j76 : Int32) : Prop := (d_j76 ≤ mc ∧ e_j76 ≤ ms) ∧ ∃ mc_44 ms_45 : Nat, (d_j76 + mc_44 ≤ mc ∧ e_j76 + ms_45 ≤ ms) ∧ wa_Mo_cutLine mc_44 ms_45 y_j76 (fun (y_41 : Ly) (s_40 : St) (r_39 : Int32) (d_42 e_43 : Nat) => (d_j76 + d_42 ≤ mc ∧ e_j76 + e_43 ≤ ms) ∧ ((r_39 = 0 → wja_Mo_trial_157 mc ms Post K_36 a0 y_41 s_40 (d_j76 + d_42) (e_j76 + e_43) x1j76 x2j76 x3j76 x5j76) ∧ (¬ (r_39 = 0) → xC y_41 s_40 a0 84 a0 122 .byte x4j76 (sV s_40 a0 123) (x5j76 - x4j76) (fun s_47 : St => xP (uV s_47 a0 123 ((sV s_47 a0 123) + (x5j76 - x4j76))) (fun s_48 : St => xS y_41 s_48 a0 122 (sV s_48 a0 123) (vp_nar .byte 10) (fun s_49 : St => xP (uV s_49 a0 123 ((sV s_49 a0 123) + 1)) (fun s_50 : St => wja_Mo_trial_157 mc ms Post K_36 a0 y_41 s_50 (d_j76 + d_42) (e_j76 + e_43) (x1j76 + 1) x4j76 x5j76 x5j76))))))) s_j76 a0 a0 84 x4j76 x5j76
def wba_Mo_trial_49 (mc ms : Nat) (Post : Ly → St → Int32 → Nat → Nat → Prop) (K_36 : Ly → St → Nat → Nat → Int32 → Int32 → Int32 → Int32 → Prop) (K_49 : Ly → St → Nat → Nat → Int32 → Int32 → Int32 → Int32 → Int32 → Prop) (a0 : Nat) (y_h49 : Ly) (s_h49 : St) (d_h49 e_h49 : Nat) (x1h49 : Int32) (x2h49 : Int32) (x3h49 : Int32) (x4h49 : Int32) (x5h49 : Int32) : Prop := (d_h49 ≤ mc ∧ e_h49 ≤ ms) ∧ (((sV s_h49 a0 85) ≤ x5h49 → wja_Mo_trial_76 mc ms Post K_36 a0 y_h49 s_h49 d_h49 e_h49 x1h49 x2h49 x3h49 x4h49 x5h49) ∧ (¬ ((sV s_h49 a0 85) ≤ x5h49) → xA y_h49 s_h49 a0 84 x5h49 (fun x_51 : Int32 => ((x_51 = 10 → wja_Mo_trial_76 mc ms Post K_36 a0 y_h49 s_h49 d_h49 e_h49 x1h49 x2h49 x3h49 x4h49 x5h49) ∧ (¬ (x_51 = 10) → K_49 y_h49 s_h49 d_h49 e_h49 x1h49 x2h49 x3h49 x4h49 (x5h49 + 1))))))
def wla_Mo_trial_49 (mc ms : Nat) (Post : Ly → St → Int32 → Nat → Nat → Prop) (K_36 : Ly → St → Nat → Nat → Int32 → Int32 → Int32 → Int32 → Prop) (a0 : Nat) (y_h49 : Ly) (s_h49 : St) (d_h49 e_h49 : Nat) (x1h49 : Int32) (x2h49 : Int32) (x3h49 : Int32) (x4h49 : Int32) (x5h49 : Int32) : Prop := ∃ (I : Ly → St → Nat → Nat → Int32 → Int32 → Int32 → Int32 → Int32 → Prop) (μ : Ly → St → Nat → Nat → Int32 → Int32 → Int32 → Int32 → Int32 → Nat), I y_h49 s_h49 d_h49 e_h49 x1h49 x2h49 x3h49 x4h49 x5h49 ∧ ∀ (u1 : Ly) (u2 : St) (u3 u4 : Nat) (t0 : Int32) (t1 : Int32) (t2 : Int32) (t3 : Int32) (t4 : Int32), I u1 u2 u3 u4 t0 t1 t2 t3 t4 → wba_Mo_trial_49 mc ms Post K_36 (fun z1 z2 z3 z4 t0q t1q t2q t3q t4q => I z1 z2 z3 z4 t0q t1q t2q t3q t4q ∧ μ z1 z2 z3 z4 t0q t1q t2q t3q t4q < μ u1 u2 u3 u4 t0 t1 t2 t3 t4) a0 u1 u2 u3 u4 t0 t1 t2 t3 t4
def wba_Mo_trial_36 (mc ms : Nat) (Post : Ly → St → Int32 → Nat → Nat → Prop) (K_36 : Ly → St → Nat → Nat → Int32 → Int32 → Int32 → Int32 → Prop) (a0 : Nat) (y_h36 : Ly) (s_h36 : St) (d_h36 e_h36 : Nat) (x1h36 : Int32) (x2h36 : Int32) (x3h36 : Int32) (x4h36 : Int32) : Prop := (d_h36 ≤ mc ∧ e_h36 ≤ ms) ∧ (((sV s_h36 a0 85) < x4h36 → ((x1h36 ≤ 60 → xP (uV s_h36 a0 85 0) (fun s_2 : St => xP (uV s_2 a0 86 (-2)) (fun s_3 : St => ((¬ x1h36 = 0 → wja_Mo_trial_203 mc ms Post a0 y_h36 s_3 d_h36 e_h36 x2h36 x3h36) ∧ (x1h36 = 0 → ∃ mc_36 ms_37 : Nat, (d_h36 + mc_36 ≤ mc ∧ e_h36 + ms_37 ≤ ms) ∧ wx_Mo_refuse mc_36 ms_37 y_h36 (fun (y_33 : Ly) (s_32 : St) (d_34 e_35 : Nat) => (d_h36 + d_34 ≤ mc ∧ e_h36 + e_35 ≤ ms) ∧ wja_Mo_trial_203 mc ms Post a0 y_33 s_32 (d_h36 + d_34) (e_h36 + e_35) x2h36 x3h36) (fun (y_33 : Ly) (s_32 : St) (d_34 e_35 : Nat) => ∀ q9 : Nat, wja_Mo_trial_229 mc ms Post a0 y_33 s_32 (d_h36 + d_34) (e_h36 + e_35) q9) s_3 a0 1 (sV s_h36 a0 85)))))) ∧ (¬ (x1h36 ≤ 60) → Post y_h36 s_h36 (-3) d_h36 e_h36))) ∧ (¬ ((sV s_h36 a0 85) < x4h36) → wla_Mo_trial_49 mc ms Post K_36 a0 y_h36 s_h36 d_h36 e_h36 x1h36 x2h36 x3h36 x4h36 x4h36))
def wla_Mo_trial_36 (mc ms : Nat) (Post : Ly → St → Int32 → Nat → Nat → Prop) (a0 : Nat) (y_h36 : Ly) (s_h36 : St) (d_h36 e_h36 : Nat) (x1h36 : Int32) (x2h36 : Int32) (x3h36 : Int32) (x4h36 : Int32) : Prop := ∃ (I : Ly → St → Nat → Nat → Int32 → Int32 → Int32 → Int32 → Prop) (μ : Ly → St → Nat → Nat → Int32 → Int32 → Int32 → Int32 → Nat), I y_h36 s_h36 d_h36 e_h36 x1h36 x2h36 x3h36 x4h36 ∧ ∀ (u1 : Ly) (u2 : St) (u3 u4 : Nat) (t0 : Int32) (t1 : Int32) (t2 : Int32) (t3 : Int32), I u1 u2 u3 u4 t0 t1 t2 t3 → wba_Mo_trial_36 mc ms Post (fun z1 z2 z3 z4 t0q t1q t2q t3q => I z1 z2 z3 z4 t0q t1q t2q t3q ∧ μ z1 z2 z3 z4 t0q t1q t2q t3q < μ u1 u2 u3 u4 t0 t1 t2 t3) a0 u1 u2 u3 u4 t0 t1 t2 t3
def wa_Mo_trial (mc ms : Nat) (y : Ly) (Post : Ly → St → Int32 → Nat → Nat → Prop) (σ : St) (a0 : Nat) : Prop := (((sV σ a0 121) = 40 → wja_Mo_trial_19 mc ms Post a0 y σ 0 0) ∧ (¬ ((sV σ a0 121) = 40) → (((sV σ a0 85) ≤ 1200 → xP (uV σ a0 123 0) (fun s_1 : St => wla_Mo_trial_36 mc ms Post a0 y s_1 0 0 0 0 0 0)) ∧ (¬ ((sV σ a0 85) ≤ 1200) → wja_Mo_trial_19 mc ms Post a0 y σ 0 0))))
set_option maxHeartbeats 4000000 in
set_option maxRecDepth 100000 in
theorem ca_Mo_trial (l : Launch) (D : va_G) (g : Nat → ClassId) (ad : Nat → Nat) (mc ms : Nat) (y : Ly) (Post : Ly → St → Int32 → Nat → Nat → Prop) (σ : St) (a0 : Nat) (sz uz : Nat) (h_a0 : cl a0 = 14) (h : wa_Mo_trial mc ms y Post σ a0) : Met l y_Mo_trial (mww y_Mo_trial b_Mo_trial 7 (some .int) hh_Mo_trial) (ra_Mo_trial mc ms) (PCu g D [] [.ref (ad a0)] sz uz (ws g ad y σ)) (va_Qi (fun (r : Int32) (u : Ly × St × Nat × Nat) => Post u.1 u.2.1 r u.2.2.1 u.2.2.2) (QU D (va_A (ws g ad y σ) sz) (fun u => ws g ad u.1 u.2.1) sz uz (fun u => u.2.2.1) (fun u => u.2.2.2)) (va_A (ws g ad y σ) sz)) mc ms (va_A (ws g ad y σ) sz) := by
  refine ofIuW (by decide +kernel) (Nat.le_of_ble_eq_true rfl) ?_
  intro p e s m args below meth c A Q ls H locs G htab hsz hP hD hS hl hret
  subst hsz
  have hl : lv_has ls 7 [(0, .ref (ad a0))] := hl
  have hd : 0 ≤ mc ∧ 0 ≤ ms := ⟨Nat.zero_le _, Nat.zero_le _⟩
  unfold wa_Mo_trial at h
  refine lv_aload_n G.1 G.2.1 d_Mo_trial_0 rfl (lv_at hl 0 rfl) ?_
  refine ugf (v := .int (sV σ a0 121)) G hP h_a0 iMo rfl 121 (by decide) rfl q3185 rfl rfl d_Mo_trial_1 ?_
  refine lv_bipush (v := 40) G.1 G.2.1 d_Mo_trial_4 (by decide) ?_
  have J_19 : ∀ (y_j19 : Ly) (s_j19 : St) (d_j19 e_j19 : Nat) (H : Heap) (locs : List Loc), wja_Mo_trial_19 mc ms Post a0 y_j19 s_j19 d_j19 e_j19 → va_P D CL (ws g ad y_j19 s_j19) H → va_D A (ws g ad y_j19 s_j19) → va_S A s.heap H locs → ∀ ls, lv_has ls 7 [] → W p l e (ra_Mo_trial mc ms) s m args below meth c H locs d_j19 e_j19 Q (F0 m 19 ls []) := by
    intro y_j19 s_j19 d_j19 e_j19 H locs h hP hD hS ls hl
    unfold wja_Mo_trial_19 at h
    obtain ⟨hd, h⟩ := h
    refine lv_bipush (v := (-3)) G.1 G.2.1 d_Mo_trial_19 (by decide) ?_
    exact hret _ (y_j19, s_j19, d_j19, e_j19) _ _ _ _ _ ls h hP hD hS (Nat.le_refl _) (Nat.le_refl _) hd.1 hd.2 d_Mo_trial_21
  refine lv_icmp_eq (tgt := 19) G.1 G.2.1 d_Mo_trial_6 (by decide) (fun c6 => ?_) (fun c6 => ?_)
  · skip
    have h := h.1 c6
    exact J_19 y σ 0 0 H locs h hP hD hS ls (lv_sub hl [] rfl)
  · skip
    have h := h.2 c6
    refine lv_aload_n G.1 G.2.1 d_Mo_trial_9 rfl (lv_at hl 0 rfl) ?_
    refine ugf (v := .int (sV σ a0 85)) G hP h_a0 iMo rfl 85 (by decide) rfl q3149 rfl rfl d_Mo_trial_10 ?_
    refine lv_sipush (v := 1200) G.1 G.2.1 d_Mo_trial_13 (by decide) ?_
    refine lv_icmp_le (tgt := 22) G.1 G.2.1 d_Mo_trial_16 (by decide) (fun c16 => ?_) (fun c16 => ?_)
    · skip
      have h := h.1 c16
      refine lv_iconst (v := 0) G.1 G.2.1 d_Mo_trial_22 (by decide) ?_
      refine lv_istore_n (lv' := [(1, .int 0), (0, .ref (ad a0))]) G.1 G.2.1 d_Mo_trial_23 rfl hl (by decide) rfl (fun ls hl => ?_)
      refine lv_iconst (v := 0) G.1 G.2.1 d_Mo_trial_24 (by decide) ?_
      refine W.eq (g2 := F0 m 25 ls [.int 0]) rfl ?_
      refine lv_istore_n (lv' := [(2, .int 0), (1, .int 0), (0, .ref (ad a0))]) G.1 G.2.1 d_Mo_trial_25 rfl hl (by decide) rfl (fun ls hl => ?_)
      refine lv_iconst (v := 0) G.1 G.2.1 d_Mo_trial_26 (by decide) ?_
      refine lv_istore_n (lv' := [(3, .int 0), (2, .int 0), (1, .int 0), (0, .ref (ad a0))]) G.1 G.2.1 d_Mo_trial_27 rfl hl (by decide) rfl (fun ls hl => ?_)
      refine lv_aload_n G.1 G.2.1 d_Mo_trial_28 rfl (lv_at hl 3 rfl) ?_
      refine lv_iconst (v := 0) G.1 G.2.1 d_Mo_trial_29 (by decide) ?_
      refine upf G hP hD hS h 123 putV h_a0 iMo tMo tMo_ok nMo rfl (by decide) rfl q3187 rfl rfl fV rfl rfl d_Mo_trial_30 (fun s_1 H locs h hP hD hS => ?_)
      refine lv_iconst (v := 0) G.1 G.2.1 d_Mo_trial_33 (by decide) ?_
      refine lv_istore (lv' := [(4, .int 0), (3, .int 0), (2, .int 0), (1, .int 0), (0, .ref (ad a0))]) G.1 G.2.1 d_Mo_trial_34 hl (by decide) rfl (fun ls hl => ?_)
      unfold wla_Mo_trial_36 at h
      obtain ⟨I_36, μ_36, hI_36, hB_36⟩ := h
      have L_36 : ∀ (n_36 : Nat) (y_h36 : Ly) (s_h36 : St) (d_h36 e_h36 : Nat) (x1h36 : Int32) (x2h36 : Int32) (x3h36 : Int32) (x4h36 : Int32), μ_36 y_h36 s_h36 d_h36 e_h36 x1h36 x2h36 x3h36 x4h36 < n_36 → I_36 y_h36 s_h36 d_h36 e_h36 x1h36 x2h36 x3h36 x4h36 → ∀ (H : Heap) (locs : List Loc), va_P D CL (ws g ad y_h36 s_h36) H → va_D A (ws g ad y_h36 s_h36) → va_S A s.heap H locs → ∀ ls, lv_has ls 7 [(0, .ref (ad a0)), (1, .int x1h36), (2, .int x2h36), (3, .int x3h36), (4, .int x4h36)] → W p l e (ra_Mo_trial mc ms) s m args below meth c H locs d_h36 e_h36 Q (F0 m 36 ls []) := by
        intro n_36
        induction n_36 with
        | zero => intro y_h36 s_h36 d_h36 e_h36 x1h36 x2h36 x3h36 x4h36 hμ; exact absurd hμ (Nat.not_lt_zero _)
        | succ n_36 ih_36 =>
          intro y_h36 s_h36 d_h36 e_h36 x1h36 x2h36 x3h36 x4h36 hμ_36 hJ H locs hP hD hS ls hl
          obtain ⟨K_36, hK_36, h⟩ : ∃ K : Ly → St → Nat → Nat → Int32 → Int32 → Int32 → Int32 → Prop, (∀ z1 z2 z3 z4 (t0 : Int32) (t1 : Int32) (t2 : Int32) (t3 : Int32), K z1 z2 z3 z4 t0 t1 t2 t3 → I_36 z1 z2 z3 z4 t0 t1 t2 t3 ∧ μ_36 z1 z2 z3 z4 t0 t1 t2 t3 < μ_36 y_h36 s_h36 d_h36 e_h36 x1h36 x2h36 x3h36 x4h36) ∧ wba_Mo_trial_36 mc ms Post K a0 y_h36 s_h36 d_h36 e_h36 x1h36 x2h36 x3h36 x4h36 := ⟨_, fun _ _ _ _ _ _ _ _ h => h, hB_36 y_h36 s_h36 d_h36 e_h36 x1h36 x2h36 x3h36 x4h36 hJ⟩
          unfold wba_Mo_trial_36 at h
          obtain ⟨hd, h⟩ := h
          refine lv_iload G.1 G.2.1 d_Mo_trial_36 (lv_at hl 4 rfl) ?_
          refine lv_aload_n G.1 G.2.1 d_Mo_trial_38 rfl (lv_at hl 0 rfl) ?_
          refine ugf (v := .int (sV s_h36 a0 85)) G hP h_a0 iMo rfl 85 (by decide) rfl q3149 rfl rfl d_Mo_trial_39 ?_
          refine lv_icmp_gt (tgt := 166) G.1 G.2.1 d_Mo_trial_42 (by decide) (fun c42 => ?_) (fun c42 => ?_)
          · skip
            have h := h.1 c42
            refine lv_iload_n G.1 G.2.1 d_Mo_trial_166 rfl (lv_at hl 1 rfl) ?_
            refine lv_bipush (v := 60) G.1 G.2.1 d_Mo_trial_167 (by decide) ?_
            refine lv_icmp_le (tgt := 175) G.1 G.2.1 d_Mo_trial_169 (by decide) (fun c169 => ?_) (fun c169 => ?_)
            · skip
              have h := h.1 c169
              refine lv_aload_n G.1 G.2.1 d_Mo_trial_175 rfl (lv_at hl 0 rfl) ?_
              refine ugf (v := .int (sV s_h36 a0 85)) G hP h_a0 iMo rfl 85 (by decide) rfl q3149 rfl rfl d_Mo_trial_176 ?_
              refine lv_istore (lv' := [(5, .int (sV s_h36 a0 85)), (0, .ref (ad a0)), (1, .int x1h36), (2, .int x2h36), (3, .int x3h36), (4, .int x4h36)]) G.1 G.2.1 d_Mo_trial_179 hl (by decide) rfl (fun ls hl => ?_)
              refine lv_aload_n G.1 G.2.1 d_Mo_trial_181 rfl (lv_at hl 1 rfl) ?_
              refine W.eq (g2 := F0 m 182 ls [.ref (ad a0)]) rfl ?_
              refine lv_iconst (v := 0) G.1 G.2.1 d_Mo_trial_182 (by decide) ?_
              refine upf G hP hD hS h 85 putV h_a0 iMo tMo tMo_ok nMo rfl (by decide) rfl q3149 rfl rfl fV rfl rfl d_Mo_trial_183 (fun s_2 H locs h hP hD hS => ?_)
              refine lv_aload_n G.1 G.2.1 d_Mo_trial_186 rfl (lv_at hl 1 rfl) ?_
              refine lv_bipush (v := (-2)) G.1 G.2.1 d_Mo_trial_187 (by decide) ?_
              refine upf G hP hD hS h 86 putV h_a0 iMo tMo tMo_ok nMo rfl (by decide) rfl q3150 rfl rfl fV rfl rfl d_Mo_trial_189 (fun s_3 H locs h hP hD hS => ?_)
              refine lv_iload_n G.1 G.2.1 d_Mo_trial_192 rfl (lv_at hl 2 rfl) ?_
              have J_229 : ∀ (y_j229 : Ly) (s_j229 : St) (d_j229 e_j229 : Nat) (z0j229 : Nat) (H : Heap) (locs : List Loc), wja_Mo_trial_229 mc ms Post a0 y_j229 s_j229 d_j229 e_j229 z0j229 → va_P D CL (ws g ad y_j229 s_j229) H → va_D A (ws g ad y_j229 s_j229) → va_S A s.heap H locs → ∀ ls, lv_has ls 7 [(0, .ref (ad a0))] → W p l e (ra_Mo_trial mc ms) s m args below meth c H locs d_j229 e_j229 Q (F0 m 229 ls [.ref z0j229]) := by
                intro y_j229 s_j229 d_j229 e_j229 z0j229 H locs h hP hD hS ls hl
                unfold wja_Mo_trial_229 at h
                obtain ⟨hd, h⟩ := h
                refine lv_astore (lv' := [(6, .ref z0j229), (0, .ref (ad a0))]) G.1 G.2.1 d_Mo_trial_229 hl (by decide) rfl (fun ls hl => ?_)
                refine lv_aload_n G.1 G.2.1 d_Mo_trial_231 rfl (lv_at hl 1 rfl) ?_
                refine lv_aload_n G.1 G.2.1 d_Mo_trial_232 rfl (lv_at hl 1 rfl) ?_
                refine ugf (v := .int (sV s_j229 a0 50)) G hP h_a0 iMo rfl 50 (by decide) rfl q3114 rfl rfl d_Mo_trial_233 ?_
                refine upf G hP hD hS h 86 putV h_a0 iMo tMo tMo_ok nMo rfl (by decide) rfl q3150 rfl rfl fV rfl rfl d_Mo_trial_236 (fun s_4 H locs h hP hD hS => ?_)
                refine lv_bipush (v := (-11)) G.1 G.2.1 d_Mo_trial_239 (by decide) ?_
                exact hret _ (y_j229, s_4, d_j229, e_j229) _ _ _ _ _ ls h hP hD hS (Nat.le_refl _) (Nat.le_refl _) hd.1 hd.2 d_Mo_trial_241
              have J_203 : ∀ (y_j203 : Ly) (s_j203 : St) (d_j203 e_j203 : Nat) (x2j203 : Int32) (x3j203 : Int32) (H : Heap) (locs : List Loc), wja_Mo_trial_203 mc ms Post a0 y_j203 s_j203 d_j203 e_j203 x2j203 x3j203 → va_P D CL (ws g ad y_j203 s_j203) H → va_D A (ws g ad y_j203 s_j203) → va_S A s.heap H locs → ∀ ls, lv_has ls 7 [(0, .ref (ad a0)), (2, .int x2j203), (3, .int x3j203)] → W p l e (ra_Mo_trial mc ms) s m args below meth c H locs d_j203 e_j203 Q (F0 m 203 ls []) := by
                intro y_j203 s_j203 d_j203 e_j203 x2j203 x3j203 H locs h hP hD hS ls hl
                unfold wja_Mo_trial_203 at h
                obtain ⟨hd, h⟩ := h
                refine lv_aload_n G.1 G.2.1 d_Mo_trial_203 rfl (lv_at hl 0 rfl) ?_
                refine lv_aload_n G.1 G.2.1 d_Mo_trial_204 rfl (lv_at hl 0 rfl) ?_
                refine ugf (v := .ref (yP y_j203 a0 84)) G hP h_a0 iMo rfl 84 (by decide) rfl q3148 rfl rfl d_Mo_trial_205 ?_
                refine lv_iload_n G.1 G.2.1 d_Mo_trial_208 rfl (lv_at hl 1 rfl) ?_
                refine lv_iload_n G.1 G.2.1 d_Mo_trial_209 rfl (lv_at hl 2 rfl) ?_
                obtain ⟨mc_10, ms_11, hr_12, h⟩ := h
                refine uaVi (As := [.ref (yP y_j203 a0 84), .int x2j203, .int x3j203]) (rest := []) G hP hD hS (ca_Mo_cutLine l D g ad mc_10 ms_11 y_j203 _ s_j203 a0 a0 84 x2j203 x3j203 H.size (us H) h_a0 ⟨(kdp h_a0 rfl), (typ h_a0 rfl)⟩ h) w9_Mo_cutLine q3494 ⟨Nat.le_of_ble_eq_true rfl, Nat.le_of_ble_eq_true rfl⟩ rfl rfl h_a0 (q := (RMo, TMo, 131)) rfl rfl hl.1 rfl (Nat.le_of_ble_eq_true rfl) rfl hr_12 d_Mo_trial_210 (fun r_5 y_7 s_6 d_8 e_9 H locs h hP hD hS => ?_)
                have hl := lv_sub (l' := [(0, .ref (ad a0))]) hl [0] rfl
                obtain ⟨hd, h⟩ := h
                refine lv_pop G.1 G.2.1 d_Mo_trial_213 rfl ?_
                refine lv_aload_n G.1 G.2.1 d_Mo_trial_214 rfl (lv_at hl 0 rfl) ?_
                refine lv_aload_n G.1 G.2.1 d_Mo_trial_215 rfl (lv_at hl 0 rfl) ?_
                refine ugf (v := .int (sV s_6 a0 25)) G hP h_a0 iMo rfl 25 (by decide) rfl q3089 rfl rfl d_Mo_trial_216 ?_
                obtain ⟨mc_18, ms_19, hr_20, h⟩ := h
                refine uxVv (As := [.int (sV s_6 a0 25)]) (rest := []) G hP hD hS (cx_Mo_needWord l D g ad mc_18 ms_19 y_7 _ _ s_6 a0 (sV s_6 a0 25) H.size (us H) h_a0 h) (fun _ h => absurd h List.not_mem_nil) w9_Mo_needWord q3543 ⟨Nat.le_of_ble_eq_true rfl, Nat.le_of_ble_eq_true rfl⟩ rfl rfl h_a0 (q := (RMo, TMo, 131)) rfl rfl hl.1 rfl (Nat.le_of_ble_eq_true rfl) rfl hr_20 d_Mo_trial_219 (fun y_15 s_14 d_16 e_17 H locs q9 ce h hP hD hS hce hcv hcl => ?_) (fun y_15 s_14 d_16 e_17 H locs h hP hD hS => ?_)
                · skip
                  refine vx_catch (own := "ClassWorksModel") (name := "java/lang/IllegalStateException") (E := "java/lang/IllegalStateException") G.2.2.2.2.2.2.1 [] ⟨192, 226, 229, 267⟩ [] htab (fun z hz => absurd hz List.not_mem_nil) (by decide) (by decide) (G.2.2.2.2.2.1 _ q2633) (G.2.2.2.2.2.2.2.2.2.1.use (w := Cond.castable "java/lang/IllegalStateException" "java/lang/IllegalStateException") (lw_nestmem (List.mem_of_getElem? (i := 2635) (by decide +kernel)) rfl) rfl) hce hcv hcl ?_
                  refine W.eq (g2 := F0 m 229 ls [.ref q9]) rfl ?_
                  have h := h q9
                  exact J_229 y_15 s_14 (d_j203 + d_8 + d_16) (e_j203 + e_9 + e_17) q9 H locs h hP hD hS ls (lv_sub hl [0] rfl)
                obtain ⟨hd, h⟩ := h
                refine W.eq (g2 := F0 m 222 ls []) rfl ?_
                refine lv_aload_n G.1 G.2.1 d_Mo_trial_222 rfl (lv_at hl 0 rfl) ?_
                obtain ⟨mc_26, ms_27, hr_28, h⟩ := h
                refine uxVv (As := []) (rest := []) G hP hD hS (cx_Mo_callWords l D g ad mc_26 ms_27 y_15 _ _ s_14 a0 H.size (us H) h_a0 h) (fun _ h => absurd h List.not_mem_nil) w9_Mo_callWords q3802 ⟨Nat.le_of_ble_eq_true rfl, Nat.le_of_ble_eq_true rfl⟩ rfl rfl h_a0 (q := (RMo, TMo, 131)) rfl rfl hl.1 rfl (Nat.le_of_ble_eq_true rfl) rfl hr_28 d_Mo_trial_223 (fun y_23 s_22 d_24 e_25 H locs q9 ce h hP hD hS hce hcv hcl => ?_) (fun y_23 s_22 d_24 e_25 H locs h hP hD hS => ?_)
                · skip
                  refine vx_catch (own := "ClassWorksModel") (name := "java/lang/IllegalStateException") (E := "java/lang/IllegalStateException") G.2.2.2.2.2.2.1 [] ⟨192, 226, 229, 267⟩ [] htab (fun z hz => absurd hz List.not_mem_nil) (by decide) (by decide) (G.2.2.2.2.2.1 _ q2633) (G.2.2.2.2.2.2.2.2.2.1.use (w := Cond.castable "java/lang/IllegalStateException" "java/lang/IllegalStateException") (lw_nestmem (List.mem_of_getElem? (i := 2635) (by decide +kernel)) rfl) rfl) hce hcv hcl ?_
                  refine W.eq (g2 := F0 m 229 ls [.ref q9]) rfl ?_
                  have h := h q9
                  exact J_229 y_23 s_22 (d_j203 + d_8 + d_16 + d_24) (e_j203 + e_9 + e_17 + e_25) q9 H locs h hP hD hS ls (lv_sub hl [0] rfl)
                obtain ⟨hd, h⟩ := h
                refine lv_goto (tgt := 242) G.1 G.2.1 d_Mo_trial_226 (by decide) ?_
                refine lv_aload_n G.1 G.2.1 d_Mo_trial_242 rfl (lv_at hl 0 rfl) ?_
                refine ucVi (As := []) (rest := []) G hP hD hS (cu_Mo_keepDraft l D g ad y_23 _ s_22 a0 H.size h_a0 h) w9_Mo_keepDraft q4216 ⟨Nat.le_of_ble_eq_true rfl, Nat.le_of_ble_eq_true rfl⟩ rfl rfl h_a0 (q := (RMo, TMo, 131)) rfl rfl hl.1 rfl (Nat.le_of_ble_eq_true rfl) rfl hd d_Mo_trial_243 (fun r_29 s_30 H locs h hP hD hS => ?_)
                exact hret _ (y_23, s_30, d_j203 + d_8 + d_16 + d_24, e_j203 + e_9 + e_17 + e_25) _ _ _ _ _ ls h hP hD hS (Nat.le_refl _) (Nat.le_refl _) hd.1 hd.2 d_Mo_trial_246
              refine lv_if_ne (tgt := 203) G.1 G.2.1 d_Mo_trial_193 (by decide) (fun c193 => ?_) (fun c193 => ?_)
              · skip
                have h := h.1 c193
                exact J_203 y_h36 s_3 d_h36 e_h36 x2h36 x3h36 H locs h hP hD hS ls (lv_sub hl [1, 3, 4] rfl)
              · skip
                have h := h.2 c193
                refine lv_aload_n G.1 G.2.1 d_Mo_trial_196 rfl (lv_at hl 1 rfl) ?_
                refine lv_iconst (v := 1) G.1 G.2.1 d_Mo_trial_197 (by decide) ?_
                refine lv_iload G.1 G.2.1 d_Mo_trial_198 (lv_at hl 0 rfl) ?_
                obtain ⟨mc_36, ms_37, hr_38, h⟩ := h
                refine uxVv (As := [.int 1, .int (sV s_h36 a0 85)]) (rest := []) G hP hD hS (cx_Mo_refuse l D g ad mc_36 ms_37 y_h36 _ _ s_3 a0 1 (sV s_h36 a0 85) H.size (us H) h_a0 h) (fun _ h => absurd h List.not_mem_nil) w9_Mo_refuse q3535 ⟨Nat.le_of_ble_eq_true rfl, Nat.le_of_ble_eq_true rfl⟩ rfl rfl h_a0 (q := (RMo, TMo, 131)) rfl rfl hl.1 rfl (Nat.le_of_ble_eq_true rfl) rfl hr_38 d_Mo_trial_200 (fun y_33 s_32 d_34 e_35 H locs q9 ce h hP hD hS hce hcv hcl => ?_) (fun y_33 s_32 d_34 e_35 H locs h hP hD hS => ?_)
                · skip
                  refine vx_catch (own := "ClassWorksModel") (name := "java/lang/IllegalStateException") (E := "java/lang/IllegalStateException") G.2.2.2.2.2.2.1 [] ⟨192, 226, 229, 267⟩ [] htab (fun z hz => absurd hz List.not_mem_nil) (by decide) (by decide) (G.2.2.2.2.2.1 _ q2633) (G.2.2.2.2.2.2.2.2.2.1.use (w := Cond.castable "java/lang/IllegalStateException" "java/lang/IllegalStateException") (lw_nestmem (List.mem_of_getElem? (i := 2635) (by decide +kernel)) rfl) rfl) hce hcv hcl ?_
                  refine W.eq (g2 := F0 m 229 ls [.ref q9]) rfl ?_
                  have h := h q9
                  exact J_229 y_33 s_32 (d_h36 + d_34) (e_h36 + e_35) q9 H locs h hP hD hS ls (lv_sub hl [1] rfl)
                have hl := lv_sub (l' := [(0, .ref (ad a0)), (2, .int x2h36), (3, .int x3h36)]) hl [1, 3, 4] rfl
                obtain ⟨hd, h⟩ := h
                exact J_203 y_33 s_32 (d_h36 + d_34) (e_h36 + e_35) x2h36 x3h36 H locs h hP hD hS ls (lv_sub hl [0, 1, 2] rfl)
            · skip
              have h := h.2 c169
              refine lv_bipush (v := (-3)) G.1 G.2.1 d_Mo_trial_172 (by decide) ?_
              exact hret _ (y_h36, s_h36, d_h36, e_h36) _ _ _ _ _ ls h hP hD hS (Nat.le_refl _) (Nat.le_refl _) hd.1 hd.2 d_Mo_trial_174
          · skip
            have h := h.2 c42
            refine lv_iload G.1 G.2.1 d_Mo_trial_45 (lv_at hl 4 rfl) ?_
            refine lv_istore (lv' := [(5, .int x4h36), (0, .ref (ad a0)), (1, .int x1h36), (2, .int x2h36), (3, .int x3h36), (4, .int x4h36)]) G.1 G.2.1 d_Mo_trial_47 hl (by decide) rfl (fun ls hl => ?_)
            unfold wla_Mo_trial_49 at h
            obtain ⟨I_49, μ_49, hI_49, hB_49⟩ := h
            have L_49 : ∀ (n_49 : Nat) (y_h49 : Ly) (s_h49 : St) (d_h49 e_h49 : Nat) (x1h49 : Int32) (x2h49 : Int32) (x3h49 : Int32) (x4h49 : Int32) (x5h49 : Int32), μ_49 y_h49 s_h49 d_h49 e_h49 x1h49 x2h49 x3h49 x4h49 x5h49 < n_49 → I_49 y_h49 s_h49 d_h49 e_h49 x1h49 x2h49 x3h49 x4h49 x5h49 → ∀ (H : Heap) (locs : List Loc), va_P D CL (ws g ad y_h49 s_h49) H → va_D A (ws g ad y_h49 s_h49) → va_S A s.heap H locs → ∀ ls, lv_has ls 7 [(0, .ref (ad a0)), (1, .int x1h49), (2, .int x2h49), (3, .int x3h49), (4, .int x4h49), (5, .int x5h49)] → W p l e (ra_Mo_trial mc ms) s m args below meth c H locs d_h49 e_h49 Q (F0 m 49 ls []) := by
              intro n_49
              induction n_49 with
              | zero => intro y_h49 s_h49 d_h49 e_h49 x1h49 x2h49 x3h49 x4h49 x5h49 hμ; exact absurd hμ (Nat.not_lt_zero _)
              | succ n_49 ih_49 =>
                intro y_h49 s_h49 d_h49 e_h49 x1h49 x2h49 x3h49 x4h49 x5h49 hμ_49 hJ H locs hP hD hS ls hl
                obtain ⟨K_49, hK_49, h⟩ : ∃ K : Ly → St → Nat → Nat → Int32 → Int32 → Int32 → Int32 → Int32 → Prop, (∀ z1 z2 z3 z4 (t0 : Int32) (t1 : Int32) (t2 : Int32) (t3 : Int32) (t4 : Int32), K z1 z2 z3 z4 t0 t1 t2 t3 t4 → I_49 z1 z2 z3 z4 t0 t1 t2 t3 t4 ∧ μ_49 z1 z2 z3 z4 t0 t1 t2 t3 t4 < μ_49 y_h49 s_h49 d_h49 e_h49 x1h49 x2h49 x3h49 x4h49 x5h49) ∧ wba_Mo_trial_49 mc ms Post K_36 K a0 y_h49 s_h49 d_h49 e_h49 x1h49 x2h49 x3h49 x4h49 x5h49 := ⟨_, fun _ _ _ _ _ _ _ _ _ h => h, hB_49 y_h49 s_h49 d_h49 e_h49 x1h49 x2h49 x3h49 x4h49 x5h49 hJ⟩
                unfold wba_Mo_trial_49 at h
                obtain ⟨hd, h⟩ := h
                refine lv_iload G.1 G.2.1 d_Mo_trial_49 (lv_at hl 5 rfl) ?_
                refine lv_aload_n G.1 G.2.1 d_Mo_trial_51 rfl (lv_at hl 0 rfl) ?_
                refine ugf (v := .int (sV s_h49 a0 85)) G hP h_a0 iMo rfl 85 (by decide) rfl q3149 rfl rfl d_Mo_trial_52 ?_
                have J_76 : ∀ (y_j76 : Ly) (s_j76 : St) (d_j76 e_j76 : Nat) (x1j76 : Int32) (x2j76 : Int32) (x3j76 : Int32) (x4j76 : Int32) (x5j76 : Int32) (H : Heap) (locs : List Loc), wja_Mo_trial_76 mc ms Post K_36 a0 y_j76 s_j76 d_j76 e_j76 x1j76 x2j76 x3j76 x4j76 x5j76 → va_P D CL (ws g ad y_j76 s_j76) H → va_D A (ws g ad y_j76 s_j76) → va_S A s.heap H locs → ∀ ls, lv_has ls 7 [(0, .ref (ad a0)), (1, .int x1j76), (2, .int x2j76), (3, .int x3j76), (4, .int x4j76), (5, .int x5j76)] → W p l e (ra_Mo_trial mc ms) s m args below meth c H locs d_j76 e_j76 Q (F0 m 76 ls []) := by
                  intro y_j76 s_j76 d_j76 e_j76 x1j76 x2j76 x3j76 x4j76 x5j76 H locs h hP hD hS ls hl
                  unfold wja_Mo_trial_76 at h
                  obtain ⟨hd, h⟩ := h
                  refine lv_aload_n G.1 G.2.1 d_Mo_trial_76 rfl (lv_at hl 0 rfl) ?_
                  refine lv_aload_n G.1 G.2.1 d_Mo_trial_77 rfl (lv_at hl 0 rfl) ?_
                  refine ugf (v := .ref (yP y_j76 a0 84)) G hP h_a0 iMo rfl 84 (by decide) rfl q3148 rfl rfl d_Mo_trial_78 ?_
                  refine lv_iload G.1 G.2.1 d_Mo_trial_81 (lv_at hl 4 rfl) ?_
                  refine lv_iload G.1 G.2.1 d_Mo_trial_83 (lv_at hl 5 rfl) ?_
                  obtain ⟨mc_44, ms_45, hr_46, h⟩ := h
                  refine uaVi (As := [.ref (yP y_j76 a0 84), .int x4j76, .int x5j76]) (rest := []) G hP hD hS (ca_Mo_cutLine l D g ad mc_44 ms_45 y_j76 _ s_j76 a0 a0 84 x4j76 x5j76 H.size (us H) h_a0 ⟨(kdp h_a0 rfl), (typ h_a0 rfl)⟩ h) w9_Mo_cutLine q3494 ⟨Nat.le_of_ble_eq_true rfl, Nat.le_of_ble_eq_true rfl⟩ rfl rfl h_a0 (q := (RMo, TMo, 131)) rfl rfl hl.1 rfl (Nat.le_of_ble_eq_true rfl) rfl hr_46 d_Mo_trial_85 (fun r_39 y_41 s_40 d_42 e_43 H locs h hP hD hS => ?_)
                  obtain ⟨hd, h⟩ := h
                  have J_157 : ∀ (y_j157 : Ly) (s_j157 : St) (d_j157 e_j157 : Nat) (x1j157 : Int32) (x2j157 : Int32) (x3j157 : Int32) (x5j157 : Int32) (H : Heap) (locs : List Loc), wja_Mo_trial_157 mc ms Post K_36 a0 y_j157 s_j157 d_j157 e_j157 x1j157 x2j157 x3j157 x5j157 → va_P D CL (ws g ad y_j157 s_j157) H → va_D A (ws g ad y_j157 s_j157) → va_S A s.heap H locs → ∀ ls, lv_has ls 7 [(0, .ref (ad a0)), (1, .int x1j157), (2, .int x2j157), (3, .int x3j157), (5, .int x5j157)] → W p l e (ra_Mo_trial mc ms) s m args below meth c H locs d_j157 e_j157 Q (F0 m 157 ls []) := by
                    intro y_j157 s_j157 d_j157 e_j157 x1j157 x2j157 x3j157 x5j157 H locs h hP hD hS ls hl
                    unfold wja_Mo_trial_157 at h
                    obtain ⟨hd, h⟩ := h
                    refine lv_iload G.1 G.2.1 d_Mo_trial_157 (lv_at hl 4 rfl) ?_
                    refine lv_iconst (v := 1) G.1 G.2.1 d_Mo_trial_159 (by decide) ?_
                    refine lv_iadd G.1 G.2.1 d_Mo_trial_160 ?_
                    refine lv_istore (lv' := [(4, .int (x5j157 + 1)), (0, .ref (ad a0)), (1, .int x1j157), (2, .int x2j157), (3, .int x3j157), (5, .int x5j157)]) G.1 G.2.1 d_Mo_trial_161 hl (by decide) rfl (fun ls hl => ?_)
                    refine lv_goto (tgt := 36) G.1 G.2.1 d_Mo_trial_163 (by decide) ?_
                    have h := hK_36 y_j157 s_j157 d_j157 e_j157 x1j157 x2j157 x3j157 (x5j157 + 1) h
                    exact ih_36 y_j157 s_j157 d_j157 e_j157 x1j157 x2j157 x3j157 (x5j157 + 1) (Nat.lt_of_lt_of_le h.2 (Nat.le_of_lt_succ hμ_36)) h.1 H locs hP hD hS ls (lv_sub hl [1, 2, 3, 4, 0] rfl)
                  refine lv_if_eq (tgt := 157) G.1 G.2.1 d_Mo_trial_88 (by decide) (fun c88 => ?_) (fun c88 => ?_)
                  · skip
                    have h := h.1 c88
                    exact J_157 y_41 s_40 (d_j76 + d_42) (e_j76 + e_43) x1j76 x2j76 x3j76 x5j76 H locs h hP hD hS ls (lv_sub hl [0, 1, 2, 3, 5] rfl)
                  · skip
                    have h := h.2 c88
                    refine lv_iinc (v := x1j76 + 1) (lv' := [(1, .int (x1j76 + 1)), (0, .ref (ad a0)), (2, .int x2j76), (3, .int x3j76), (4, .int x4j76), (5, .int x5j76)]) G.1 G.2.1 d_Mo_trial_91 hl (k := 1) rfl rfl (by decide) rfl (fun ls hl => ?_)
                    refine lv_iload G.1 G.2.1 d_Mo_trial_94 (lv_at hl 4 rfl) ?_
                    refine lv_istore_n (lv' := [(2, .int x4j76), (1, .int (x1j76 + 1)), (0, .ref (ad a0)), (3, .int x3j76), (4, .int x4j76), (5, .int x5j76)]) G.1 G.2.1 d_Mo_trial_96 rfl hl (by decide) rfl (fun ls hl => ?_)
                    refine lv_iload G.1 G.2.1 d_Mo_trial_97 (lv_at hl 5 rfl) ?_
                    refine W.eq (g2 := F0 m 99 ls [.int x5j76]) rfl ?_
                    refine lv_istore_n (lv' := [(3, .int x5j76), (2, .int x4j76), (1, .int (x1j76 + 1)), (0, .ref (ad a0)), (4, .int x4j76), (5, .int x5j76)]) G.1 G.2.1 d_Mo_trial_99 rfl hl (by decide) rfl (fun ls hl => ?_)
                    refine lv_aload_n G.1 G.2.1 d_Mo_trial_100 rfl (lv_at hl 3 rfl) ?_
                    refine ugf (v := .ref (yP y_41 a0 84)) G hP h_a0 iMo rfl 84 (by decide) rfl q3148 rfl rfl d_Mo_trial_101 ?_
                    refine lv_iload G.1 G.2.1 d_Mo_trial_104 (lv_at hl 4 rfl) ?_
                    refine lv_aload_n G.1 G.2.1 d_Mo_trial_106 rfl (lv_at hl 3 rfl) ?_
                    refine ugf (v := .ref (yP y_41 a0 122)) G hP h_a0 iMo rfl 122 (by decide) rfl q3186 rfl rfl d_Mo_trial_107 ?_
                    refine lv_aload_n G.1 G.2.1 d_Mo_trial_110 rfl (lv_at hl 3 rfl) ?_
                    refine ugf (v := .int (sV s_40 a0 123)) G hP h_a0 iMo rfl 123 (by decide) rfl q3187 rfl rfl d_Mo_trial_111 ?_
                    refine lv_iload G.1 G.2.1 d_Mo_trial_114 (lv_at hl 5 rfl) ?_
                    refine lv_iload G.1 G.2.1 d_Mo_trial_116 (lv_at hl 4 rfl) ?_
                    refine lv_isub G.1 G.2.1 d_Mo_trial_118 ?_
                    refine ucpy G hP hD hS (kdp h_a0 rfl) (typ h_a0 rfl) (kdp h_a0 rfl) (typ h_a0 rfl) rfl rfl h hl.1 q2595 q488 q487 q338 (Nat.le_of_ble_eq_true rfl) (Nat.le_of_ble_eq_true rfl) d_Mo_trial_119 (fun s_47 H locs h hP hD hS => ?_)
                    refine W.eq (g2 := F0 m 122 ls []) rfl ?_
                    refine lv_aload_n G.1 G.2.1 d_Mo_trial_122 rfl (lv_at hl 3 rfl) ?_
                    refine lv_dup G.1 G.2.1 d_Mo_trial_123 rfl ?_
                    refine ugf (v := .int (sV s_47 a0 123)) G hP h_a0 iMo rfl 123 (by decide) rfl q3187 rfl rfl d_Mo_trial_124 ?_
                    refine lv_iload G.1 G.2.1 d_Mo_trial_127 (lv_at hl 5 rfl) ?_
                    refine lv_iload G.1 G.2.1 d_Mo_trial_129 (lv_at hl 4 rfl) ?_
                    refine lv_isub G.1 G.2.1 d_Mo_trial_131 ?_
                    refine lv_iadd G.1 G.2.1 d_Mo_trial_132 ?_
                    refine upf G hP hD hS h 123 putV h_a0 iMo tMo tMo_ok nMo rfl (by decide) rfl q3187 rfl rfl fV rfl rfl d_Mo_trial_133 (fun s_48 H locs h hP hD hS => ?_)
                    refine lv_aload_n G.1 G.2.1 d_Mo_trial_136 rfl (lv_at hl 3 rfl) ?_
                    refine ugf (v := .ref (yP y_41 a0 122)) G hP h_a0 iMo rfl 122 (by decide) rfl q3186 rfl rfl d_Mo_trial_137 ?_
                    refine lv_aload_n G.1 G.2.1 d_Mo_trial_140 rfl (lv_at hl 3 rfl) ?_
                    refine ugf (v := .int (sV s_48 a0 123)) G hP h_a0 iMo rfl 123 (by decide) rfl q3187 rfl rfl d_Mo_trial_141 ?_
                    refine W.eq (g2 := F0 m 144 ls [.int (sV s_48 a0 123), .ref (yP y_41 a0 122)]) rfl ?_
                    refine lv_bipush (v := 10) G.1 G.2.1 d_Mo_trial_144 (by decide) ?_
                    refine ubast G hP hD hS (kdp h_a0 rfl) (typ h_a0 rfl) h d_Mo_trial_146 (fun s_49 H locs h hP hD hS => ?_)
                    refine lv_aload_n G.1 G.2.1 d_Mo_trial_147 rfl (lv_at hl 3 rfl) ?_
                    refine lv_dup G.1 G.2.1 d_Mo_trial_148 rfl ?_
                    refine ugf (v := .int (sV s_49 a0 123)) G hP h_a0 iMo rfl 123 (by decide) rfl q3187 rfl rfl d_Mo_trial_149 ?_
                    refine lv_iconst (v := 1) G.1 G.2.1 d_Mo_trial_152 (by decide) ?_
                    refine lv_iadd G.1 G.2.1 d_Mo_trial_153 ?_
                    refine upf G hP hD hS h 123 putV h_a0 iMo tMo tMo_ok nMo rfl (by decide) rfl q3187 rfl rfl fV rfl rfl d_Mo_trial_154 (fun s_50 H locs h hP hD hS => ?_)
                    exact J_157 y_41 s_50 (d_j76 + d_42) (e_j76 + e_43) (x1j76 + 1) x4j76 x5j76 x5j76 H locs h hP hD hS ls (lv_sub hl [3, 2, 1, 0, 5] rfl)
                refine lv_icmp_ge (tgt := 76) G.1 G.2.1 d_Mo_trial_55 (by decide) (fun c55 => ?_) (fun c55 => ?_)
                · skip
                  have h := h.1 c55
                  exact J_76 y_h49 s_h49 d_h49 e_h49 x1h49 x2h49 x3h49 x4h49 x5h49 H locs h hP hD hS ls (lv_sub hl [0, 1, 2, 3, 4, 5] rfl)
                · skip
                  have h := h.2 c55
                  refine lv_aload_n G.1 G.2.1 d_Mo_trial_58 rfl (lv_at hl 0 rfl) ?_
                  refine ugf (v := .ref (yP y_h49 a0 84)) G hP h_a0 iMo rfl 84 (by decide) rfl q3148 rfl rfl d_Mo_trial_59 ?_
                  refine lv_iload G.1 G.2.1 d_Mo_trial_62 (lv_at hl 5 rfl) ?_
                  refine ubald G hP (kdp h_a0 rfl) (typ h_a0 rfl) h d_Mo_trial_64 (fun x_51 h => ?_)
                  refine lv_bipush (v := 10) G.1 G.2.1 d_Mo_trial_65 (by decide) ?_
                  refine lv_icmp_eq (tgt := 76) G.1 G.2.1 d_Mo_trial_67 (by decide) (fun c67 => ?_) (fun c67 => ?_)
                  · skip
                    have h := h.1 c67
                    exact J_76 y_h49 s_h49 d_h49 e_h49 x1h49 x2h49 x3h49 x4h49 x5h49 H locs h hP hD hS ls (lv_sub hl [0, 1, 2, 3, 4, 5] rfl)
                  · skip
                    have h := h.2 c67
                    refine lv_iinc (v := x5h49 + 1) (lv' := [(5, .int (x5h49 + 1)), (0, .ref (ad a0)), (1, .int x1h49), (2, .int x2h49), (3, .int x3h49), (4, .int x4h49)]) G.1 G.2.1 d_Mo_trial_70 hl (k := 5) rfl rfl (by decide) rfl (fun ls hl => ?_)
                    refine W.eq (g2 := F0 m 73 ls []) rfl ?_
                    refine lv_goto (tgt := 49) G.1 G.2.1 d_Mo_trial_73 (by decide) ?_
                    have h := hK_49 y_h49 s_h49 d_h49 e_h49 x1h49 x2h49 x3h49 x4h49 (x5h49 + 1) h
                    exact ih_49 y_h49 s_h49 d_h49 e_h49 x1h49 x2h49 x3h49 x4h49 (x5h49 + 1) (Nat.lt_of_lt_of_le h.2 (Nat.le_of_lt_succ hμ_49)) h.1 H locs hP hD hS ls (lv_sub hl [1, 2, 3, 4, 5, 0] rfl)
            exact L_49 _ y_h36 s_h36 d_h36 e_h36 x1h36 x2h36 x3h36 x4h36 x4h36 (Nat.lt_succ_self _) hI_49 H locs hP hD hS ls (lv_sub hl [1, 2, 3, 4, 5, 0] rfl)
      exact L_36 _ y s_1 0 0 0 0 0 0 (Nat.lt_succ_self _) hI_36 H locs hP hD hS ls (lv_sub hl [4, 3, 2, 1, 0] rfl)
    · skip
      have h := h.2 c16
      exact J_19 y σ 0 0 H locs h hP hD hS ls (lv_sub hl [] rfl)
