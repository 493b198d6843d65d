def y_Mo_reckon : MethodName := ⟨"ClassWorksModel", "reckon", "(II)V"⟩
abbrev b_Mo_reckon : ByteArray := prog_14_method_110_code
theorem d_Mo_reckon_0 : decode b_Mo_reckon 0 = .ok (.aload_n 0, 1) := by decide +kernel
theorem d_Mo_reckon_1 : decode b_Mo_reckon 1 = .ok (.iload_n 1, 1) := by decide +kernel
theorem d_Mo_reckon_2 : decode b_Mo_reckon 2 = .ok (.invokevirtual 1057, 3) := by decide +kernel
theorem d_Mo_reckon_5 : decode b_Mo_reckon 5 = .ok (.istore_n 3, 1) := by decide +kernel
theorem d_Mo_reckon_6 : decode b_Mo_reckon 6 = .ok (.iload_n 2, 1) := by decide +kernel
theorem d_Mo_reckon_7 : decode b_Mo_reckon 7 = .ok (.bipush 13, 2) := by decide +kernel
theorem d_Mo_reckon_9 : decode b_Mo_reckon 9 = .ok (.if_icmp .ne 25, 3) := by decide +kernel
theorem d_Mo_reckon_12 : decode b_Mo_reckon 12 = .ok (.aload_n 0, 1) := by decide +kernel
theorem d_Mo_reckon_13 : decode b_Mo_reckon 13 = .ok (.iload_n 1, 1) := by decide +kernel
theorem d_Mo_reckon_14 : decode b_Mo_reckon 14 = .ok (.iload_n 3, 1) := by decide +kernel
theorem d_Mo_reckon_15 : decode b_Mo_reckon 15 = .ok (.ineg, 1) := by decide +kernel
theorem d_Mo_reckon_16 : decode b_Mo_reckon 16 = .ok (.iconst 0, 1) := by decide +kernel
theorem d_Mo_reckon_17 : decode b_Mo_reckon 17 = .ok (.invokevirtual 970, 3) := by decide +kernel
theorem d_Mo_reckon_20 : decode b_Mo_reckon 20 = .ok (.aload_n 0, 1) := by decide +kernel
theorem d_Mo_reckon_21 : decode b_Mo_reckon 21 = .ok (.getfield 917, 3) := by decide +kernel
theorem d_Mo_reckon_24 : decode b_Mo_reckon 24 = .ok (.getfield 930, 3) := by decide +kernel
theorem d_Mo_reckon_27 : decode b_Mo_reckon 27 = .ok (.iload_n 1, 1) := by decide +kernel
theorem d_Mo_reckon_28 : decode b_Mo_reckon 28 = .ok (.dup2, 1) := by decide +kernel
theorem d_Mo_reckon_29 : decode b_Mo_reckon 29 = .ok (.iaload, 1) := by decide +kernel
theorem d_Mo_reckon_30 : decode b_Mo_reckon 30 = .ok (.iconst 1, 1) := by decide +kernel
theorem d_Mo_reckon_31 : decode b_Mo_reckon 31 = .ok (.iadd, 1) := by decide +kernel
theorem d_Mo_reckon_32 : decode b_Mo_reckon 32 = .ok (.iastore, 1) := by decide +kernel
theorem d_Mo_reckon_33 : decode b_Mo_reckon 33 = .ok (.return_, 1) := by decide +kernel
theorem d_Mo_reckon_34 : decode b_Mo_reckon 34 = .ok (.aload_n 0, 1) := by decide +kernel
theorem d_Mo_reckon_35 : decode b_Mo_reckon 35 = .ok (.iload_n 1, 1) := by decide +kernel
theorem d_Mo_reckon_36 : decode b_Mo_reckon 36 = .ok (.invokevirtual 1057, 3) := by decide +kernel
theorem d_Mo_reckon_39 : decode b_Mo_reckon 39 = .ok (.istore 4, 2) := by decide +kernel
theorem d_Mo_reckon_41 : decode b_Mo_reckon 41 = .ok (.iload_n 2, 1) := by decide +kernel
theorem d_Mo_reckon_42 : decode b_Mo_reckon 42 = .ok (.bipush 11, 2) := by decide +kernel
theorem d_Mo_reckon_44 : decode b_Mo_reckon 44 = .ok (.if_icmp .eq 9, 3) := by decide +kernel
theorem d_Mo_reckon_47 : decode b_Mo_reckon 47 = .ok (.iload_n 2, 1) := by decide +kernel
theorem d_Mo_reckon_48 : decode b_Mo_reckon 48 = .ok (.bipush 12, 2) := by decide +kernel
theorem d_Mo_reckon_50 : decode b_Mo_reckon 50 = .ok (.if_icmp .ne 14, 3) := by decide +kernel
theorem d_Mo_reckon_53 : decode b_Mo_reckon 53 = .ok (.iload_n 3, 1) := by decide +kernel
theorem d_Mo_reckon_54 : decode b_Mo_reckon 54 = .ok (.ifCond .ne 10, 3) := by decide +kernel
theorem d_Mo_reckon_57 : decode b_Mo_reckon 57 = .ok (.aload_n 0, 1) := by decide +kernel
theorem d_Mo_reckon_58 : decode b_Mo_reckon 58 = .ok (.iconst 0, 1) := by decide +kernel
theorem d_Mo_reckon_59 : decode b_Mo_reckon 59 = .ok (.iconst 3, 1) := by decide +kernel
theorem d_Mo_reckon_60 : decode b_Mo_reckon 60 = .ok (.invokevirtual 1001, 3) := by decide +kernel
theorem d_Mo_reckon_63 : decode b_Mo_reckon 63 = .ok (.return_, 1) := by decide +kernel
theorem d_Mo_reckon_64 : decode b_Mo_reckon 64 = .ok (.iload_n 2, 1) := by decide +kernel
theorem d_Mo_reckon_65 : decode b_Mo_reckon 65 = .ok (.tableswitch 139 8 17 #[55, 64, 73, 82, 91, 139, 100, 109, 118, 127], 55) := by decide +kernel
theorem d_Mo_reckon_120 : decode b_Mo_reckon 120 = .ok (.iload 4, 2) := by decide +kernel
theorem d_Mo_reckon_122 : decode b_Mo_reckon 122 = .ok (.iload_n 3, 1) := by decide +kernel
theorem d_Mo_reckon_123 : decode b_Mo_reckon 123 = .ok (.iadd, 1) := by decide +kernel
theorem d_Mo_reckon_124 : decode b_Mo_reckon 124 = .ok (.istore 5, 2) := by decide +kernel
theorem d_Mo_reckon_126 : decode b_Mo_reckon 126 = .ok (.goto 87, 3) := by decide +kernel
theorem d_Mo_reckon_129 : decode b_Mo_reckon 129 = .ok (.iload 4, 2) := by decide +kernel
theorem d_Mo_reckon_131 : decode b_Mo_reckon 131 = .ok (.iload_n 3, 1) := by decide +kernel
theorem d_Mo_reckon_132 : decode b_Mo_reckon 132 = .ok (.isub, 1) := by decide +kernel
theorem d_Mo_reckon_133 : decode b_Mo_reckon 133 = .ok (.istore 5, 2) := by decide +kernel
theorem d_Mo_reckon_135 : decode b_Mo_reckon 135 = .ok (.goto 78, 3) := by decide +kernel
theorem d_Mo_reckon_138 : decode b_Mo_reckon 138 = .ok (.iload 4, 2) := by decide +kernel
theorem d_Mo_reckon_140 : decode b_Mo_reckon 140 = .ok (.iload_n 3, 1) := by decide +kernel
theorem d_Mo_reckon_141 : decode b_Mo_reckon 141 = .ok (.imul, 1) := by decide +kernel
theorem d_Mo_reckon_142 : decode b_Mo_reckon 142 = .ok (.istore 5, 2) := by decide +kernel
theorem d_Mo_reckon_144 : decode b_Mo_reckon 144 = .ok (.goto 69, 3) := by decide +kernel
theorem d_Mo_reckon_147 : decode b_Mo_reckon 147 = .ok (.iload 4, 2) := by decide +kernel
theorem d_Mo_reckon_149 : decode b_Mo_reckon 149 = .ok (.iload_n 3, 1) := by decide +kernel
theorem d_Mo_reckon_150 : decode b_Mo_reckon 150 = .ok (.idiv, 1) := by decide +kernel
theorem d_Mo_reckon_151 : decode b_Mo_reckon 151 = .ok (.istore 5, 2) := by decide +kernel
theorem d_Mo_reckon_153 : decode b_Mo_reckon 153 = .ok (.goto 60, 3) := by decide +kernel
theorem d_Mo_reckon_156 : decode b_Mo_reckon 156 = .ok (.iload 4, 2) := by decide +kernel
theorem d_Mo_reckon_158 : decode b_Mo_reckon 158 = .ok (.iload_n 3, 1) := by decide +kernel
theorem d_Mo_reckon_159 : decode b_Mo_reckon 159 = .ok (.irem, 1) := by decide +kernel
theorem d_Mo_reckon_160 : decode b_Mo_reckon 160 = .ok (.istore 5, 2) := by decide +kernel
theorem d_Mo_reckon_162 : decode b_Mo_reckon 162 = .ok (.goto 51, 3) := by decide +kernel
theorem d_Mo_reckon_165 : decode b_Mo_reckon 165 = .ok (.iload 4, 2) := by decide +kernel
theorem d_Mo_reckon_167 : decode b_Mo_reckon 167 = .ok (.iload_n 3, 1) := by decide +kernel
theorem d_Mo_reckon_168 : decode b_Mo_reckon 168 = .ok (.iand, 1) := by decide +kernel
theorem d_Mo_reckon_169 : decode b_Mo_reckon 169 = .ok (.istore 5, 2) := by decide +kernel
theorem d_Mo_reckon_171 : decode b_Mo_reckon 171 = .ok (.goto 42, 3) := by decide +kernel
theorem d_Mo_reckon_174 : decode b_Mo_reckon 174 = .ok (.iload 4, 2) := by decide +kernel
theorem d_Mo_reckon_176 : decode b_Mo_reckon 176 = .ok (.iload_n 3, 1) := by decide +kernel
theorem d_Mo_reckon_177 : decode b_Mo_reckon 177 = .ok (.ior, 1) := by decide +kernel
theorem d_Mo_reckon_178 : decode b_Mo_reckon 178 = .ok (.istore 5, 2) := by decide +kernel
theorem d_Mo_reckon_180 : decode b_Mo_reckon 180 = .ok (.goto 33, 3) := by decide +kernel
theorem d_Mo_reckon_183 : decode b_Mo_reckon 183 = .ok (.iload 4, 2) := by decide +kernel
theorem d_Mo_reckon_185 : decode b_Mo_reckon 185 = .ok (.iload_n 3, 1) := by decide +kernel
theorem d_Mo_reckon_186 : decode b_Mo_reckon 186 = .ok (.ixor, 1) := by decide +kernel
theorem d_Mo_reckon_187 : decode b_Mo_reckon 187 = .ok (.istore 5, 2) := by decide +kernel
theorem d_Mo_reckon_189 : decode b_Mo_reckon 189 = .ok (.goto 24, 3) := by decide +kernel
theorem d_Mo_reckon_192 : decode b_Mo_reckon 192 = .ok (.iload 4, 2) := by decide +kernel
theorem d_Mo_reckon_194 : decode b_Mo_reckon 194 = .ok (.iload_n 3, 1) := by decide +kernel
theorem d_Mo_reckon_195 : decode b_Mo_reckon 195 = .ok (.bipush 31, 2) := by decide +kernel
theorem d_Mo_reckon_197 : decode b_Mo_reckon 197 = .ok (.iand, 1) := by decide +kernel
theorem d_Mo_reckon_198 : decode b_Mo_reckon 198 = .ok (.ishl, 1) := by decide +kernel
theorem d_Mo_reckon_199 : decode b_Mo_reckon 199 = .ok (.istore 5, 2) := by decide +kernel
theorem d_Mo_reckon_201 : decode b_Mo_reckon 201 = .ok (.goto 12, 3) := by decide +kernel
theorem d_Mo_reckon_204 : decode b_Mo_reckon 204 = .ok (.iload 4, 2) := by decide +kernel
theorem d_Mo_reckon_206 : decode b_Mo_reckon 206 = .ok (.iload_n 3, 1) := by decide +kernel
theorem d_Mo_reckon_207 : decode b_Mo_reckon 207 = .ok (.bipush 31, 2) := by decide +kernel
theorem d_Mo_reckon_209 : decode b_Mo_reckon 209 = .ok (.iand, 1) := by decide +kernel
theorem d_Mo_reckon_210 : decode b_Mo_reckon 210 = .ok (.ishr, 1) := by decide +kernel
theorem d_Mo_reckon_211 : decode b_Mo_reckon 211 = .ok (.istore 5, 2) := by decide +kernel
theorem d_Mo_reckon_213 : decode b_Mo_reckon 213 = .ok (.aload_n 0, 1) := by decide +kernel
theorem d_Mo_reckon_214 : decode b_Mo_reckon 214 = .ok (.iload_n 1, 1) := by decide +kernel
theorem d_Mo_reckon_215 : decode b_Mo_reckon 215 = .ok (.iload 5, 2) := by decide +kernel
theorem d_Mo_reckon_217 : decode b_Mo_reckon 217 = .ok (.iconst 0, 1) := by decide +kernel
theorem d_Mo_reckon_218 : decode b_Mo_reckon 218 = .ok (.invokevirtual 970, 3) := by decide +kernel
theorem d_Mo_reckon_221 : decode b_Mo_reckon 221 = .ok (.aload_n 0, 1) := by decide +kernel
theorem d_Mo_reckon_222 : decode b_Mo_reckon 222 = .ok (.getfield 917, 3) := by decide +kernel
theorem d_Mo_reckon_225 : decode b_Mo_reckon 225 = .ok (.getfield 930, 3) := by decide +kernel
theorem d_Mo_reckon_228 : decode b_Mo_reckon 228 = .ok (.iload_n 1, 1) := by decide +kernel
theorem d_Mo_reckon_229 : decode b_Mo_reckon 229 = .ok (.dup2, 1) := by decide +kernel
theorem d_Mo_reckon_230 : decode b_Mo_reckon 230 = .ok (.iaload, 1) := by decide +kernel
theorem d_Mo_reckon_231 : decode b_Mo_reckon 231 = .ok (.iconst 1, 1) := by decide +kernel
theorem d_Mo_reckon_232 : decode b_Mo_reckon 232 = .ok (.iadd, 1) := by decide +kernel
theorem d_Mo_reckon_233 : decode b_Mo_reckon 233 = .ok (.iastore, 1) := by decide +kernel
theorem d_Mo_reckon_234 : decode b_Mo_reckon 234 = .ok (.return_, 1) := by decide +kernel
abbrev ra_Mo_reckon (mc ms : Nat) : Room := { frames := 8, cells := mc, slots := ms, locals := 220 }
def wja_Mo_reckon_213 (mc ms : Nat) (Post : Ly → St → Nat → Nat → Prop) (a0 : Nat) (y_j213 : Ly) (s_j213 : St) (d_j213 e_j213 : Nat) (x1j213 : Int32) (x5j213 : Int32) : Prop := (d_j213 ≤ mc ∧ e_j213 ≤ ms) ∧ wu_Mo_push y_j213 (fun (s_6 : St) => ∃ b_7 : Nat, sO s_6 a0 46 = some b_7 ∧ cl b_7 = 12 ∧ xA y_j213 s_6 b_7 18 x1j213 (fun x_10 : Int32 => xS y_j213 s_6 b_7 18 x1j213 (x_10 + 1) (fun s_11 : St => Post y_j213 s_11 d_j213 e_j213))) s_j213 a0 x1j213 x5j213 0
def wja_Mo_reckon_64 (mc ms : Nat) (Post : Ly → St → Nat → Nat → Prop) (a0 : Nat) (y_j64 : Ly) (s_j64 : St) (d_j64 e_j64 : Nat) (x1j64 : Int32) (x2j64 : Int32) (x3j64 : Int32) (x4j64 : Int32) : Prop := (d_j64 ≤ mc ∧ e_j64 ≤ ms) ∧ ((x2j64 = 8 → wja_Mo_reckon_213 mc ms Post a0 y_j64 s_j64 d_j64 e_j64 x1j64 (x4j64 + x3j64)) ∧ (¬ (x2j64 = 8) → ((x2j64 = 9 → wja_Mo_reckon_213 mc ms Post a0 y_j64 s_j64 d_j64 e_j64 x1j64 (x4j64 - x3j64)) ∧ (¬ (x2j64 = 9) → ((x2j64 = 10 → wja_Mo_reckon_213 mc ms Post a0 y_j64 s_j64 d_j64 e_j64 x1j64 (x4j64 * x3j64)) ∧ (¬ (x2j64 = 10) → ((x2j64 = 11 → ¬ x3j64 = 0 ∧ wja_Mo_reckon_213 mc ms Post a0 y_j64 s_j64 d_j64 e_j64 x1j64 (x4j64 / x3j64)) ∧ (¬ (x2j64 = 11) → ((x2j64 = 12 → ¬ x3j64 = 0 ∧ wja_Mo_reckon_213 mc ms Post a0 y_j64 s_j64 d_j64 e_j64 x1j64 (x4j64 - x4j64 / x3j64 * x3j64)) ∧ (¬ (x2j64 = 12) → ((x2j64 = 13 → wja_Mo_reckon_213 mc ms Post a0 y_j64 s_j64 d_j64 e_j64 x1j64 (x4j64 >>> ((x3j64 &&& 31) &&& 31))) ∧ (¬ (x2j64 = 13) → ((x2j64 = 14 → wja_Mo_reckon_213 mc ms Post a0 y_j64 s_j64 d_j64 e_j64 x1j64 (x4j64 &&& x3j64)) ∧ (¬ (x2j64 = 14) → ((x2j64 = 15 → wja_Mo_reckon_213 mc ms Post a0 y_j64 s_j64 d_j64 e_j64 x1j64 (x4j64 ||| x3j64)) ∧ (¬ (x2j64 = 15) → ((x2j64 = 16 → wja_Mo_reckon_213 mc ms Post a0 y_j64 s_j64 d_j64 e_j64 x1j64 (x4j64 ^^^ x3j64)) ∧ (¬ (x2j64 = 16) → ((x2j64 = 17 → wja_Mo_reckon_213 mc ms Post a0 y_j64 s_j64 d_j64 e_j64 x1j64 (x4j64 <<< ((x3j64 &&& 31) &&& 31))) ∧ (¬ (x2j64 = 17) → wja_Mo_reckon_213 mc ms Post a0 y_j64 s_j64 d_j64 e_j64 x1j64 (x4j64 >>> ((x3j64 &&& 31) &&& 31))))))))))))))))))))))
def wja_Mo_reckon_53 (mc ms : Nat) (Post : Ly → St → Nat → Nat → Prop) (a0 : Nat) (y_j53 : Ly) (s_j53 : St) (d_j53 e_j53 : Nat) (x1j53 : Int32) (x2j53 : Int32) (x3j53 : Int32) (x4j53 : Int32) : Prop := (d_j53 ≤ mc ∧ e_j53 ≤ ms) ∧ ((¬ x3j53 = 0 → wja_Mo_reckon_64 mc ms Post a0 y_j53 s_j53 d_j53 e_j53 x1j53 x2j53 x3j53 x4j53) ∧ (x3j53 = 0 → ∃ mc_19 ms_20 : Nat, (d_j53 + mc_19 ≤ mc ∧ e_j53 + ms_20 ≤ ms) ∧ wa_Mo_throwNew mc_19 ms_20 y_j53 (fun (y_16 : Ly) (s_15 : St) (d_17 e_18 : Nat) => (d_j53 + d_17 ≤ mc ∧ e_j53 + e_18 ≤ ms) ∧ Post y_16 s_15 (d_j53 + d_17) (e_j53 + e_18)) s_j53 a0 0 3))
def wa_Mo_reckon (mc ms : Nat) (y : Ly) (Post : Ly → St → Nat → Nat → Prop) (σ : St) (a0 : Nat) (v1 : Int32) (v2 : Int32) : Prop := wu_Mo_pop y (fun (s_2 : St) (r_1 : Int32) => ((¬ v2 = 13 → wu_Mo_pop y (fun (s_4 : St) (r_3 : Int32) => ((v2 = 11 → wja_Mo_reckon_53 mc ms Post a0 y s_4 0 0 v1 v2 r_1 r_3) ∧ (¬ (v2 = 11) → ((¬ v2 = 12 → wja_Mo_reckon_64 mc ms Post a0 y s_4 0 0 v1 v2 r_1 r_3) ∧ (v2 = 12 → wja_Mo_reckon_53 mc ms Post a0 y s_4 0 0 v1 v2 r_1 r_3))))) s_2 a0 v1) ∧ (v2 = 13 → wu_Mo_push y (fun (s_23 : St) => ∃ b_24 : Nat, sO s_23 a0 46 = some b_24 ∧ cl b_24 = 12 ∧ xA y s_23 b_24 18 v1 (fun x_27 : Int32 => xS y s_23 b_24 18 v1 (x_27 + 1) (fun s_28 : St => Post y s_28 0 0))) s_2 a0 v1 (-r_1) 0))) σ a0 v1
set_option maxHeartbeats 4000000 in
set_option maxRecDepth 100000 in
theorem ca_Mo_reckon (l : Launch) (D : va_G) (g : Nat → ClassId) (ad : Nat → Nat) (mc ms : Nat) (y : Ly) (Post : Ly → St → Nat → Nat → Prop) (σ : St) (a0 : Nat) (v1 : Int32) (v2 : Int32) (sz uz : Nat) (h_a0 : cl a0 = 14) (h : wa_Mo_reckon mc ms y Post σ a0 v1 v2) : Met l y_Mo_reckon (mw y_Mo_reckon b_Mo_reckon 6 (none)) (ra_Mo_reckon mc ms) (PCu g D [] [.ref (ad a0), .int v1, .int v2] sz uz (ws g ad y σ)) (va_Qv (fun (u : Ly × St × Nat × Nat) => Post u.1 u.2.1 u.2.2.1 u.2.2.2) (QU D (va_A (ws g ad y σ) sz) (fun u => ws g ad u.1 u.2.1) sz uz (fun u => u.2.2.1) (fun u => u.2.2.2)) (va_A (ws g ad y σ) sz)) mc ms (va_A (ws g ad y σ) sz) := by
  refine ofVu (by decide +kernel) (Nat.le_of_ble_eq_true rfl) ?_
  intro p e s m args below meth c A Q ls H locs G hsz hP hD hS hl hret
  subst hsz
  have hl : lv_has ls 6 [(0, .ref (ad a0)), (1, .int v1), (2, .int v2)] := hl
  have hd : 0 ≤ mc ∧ 0 ≤ ms := ⟨Nat.zero_le _, Nat.zero_le _⟩
  unfold wa_Mo_reckon at h
  refine lv_aload_n G.1 G.2.1 d_Mo_reckon_0 rfl (lv_at hl 0 rfl) ?_
  refine lv_iload_n G.1 G.2.1 d_Mo_reckon_1 rfl (lv_at hl 1 rfl) ?_
  refine ucVi (As := [.int v1]) (rest := []) G hP hD hS (cu_Mo_pop l D g ad y _ σ a0 v1 H.size h_a0 h) w9_Mo_pop q3947 ⟨Nat.le_of_ble_eq_true rfl, Nat.le_of_ble_eq_true rfl⟩ rfl rfl h_a0 (q := (RMo, TMo, 131)) rfl rfl hl.1 rfl (Nat.le_of_ble_eq_true rfl) rfl hd d_Mo_reckon_2 (fun r_1 s_2 H locs h hP hD hS => ?_)
  refine lv_istore_n (lv' := [(3, .int r_1), (0, .ref (ad a0)), (1, .int v1), (2, .int v2)]) G.1 G.2.1 d_Mo_reckon_5 rfl hl (by decide) rfl (fun ls hl => ?_)
  refine lv_iload_n G.1 G.2.1 d_Mo_reckon_6 rfl (lv_at hl 3 rfl) ?_
  refine lv_bipush (v := 13) G.1 G.2.1 d_Mo_reckon_7 (by decide) ?_
  refine lv_icmp_ne (tgt := 34) G.1 G.2.1 d_Mo_reckon_9 (by decide) (fun c9 => ?_) (fun c9 => ?_)
  · skip
    have h := h.1 c9
    refine lv_aload_n G.1 G.2.1 d_Mo_reckon_34 rfl (lv_at hl 1 rfl) ?_
    refine lv_iload_n G.1 G.2.1 d_Mo_reckon_35 rfl (lv_at hl 2 rfl) ?_
    refine ucVi (As := [.int v1]) (rest := []) G hP hD hS (cu_Mo_pop l D g ad y _ s_2 a0 v1 H.size h_a0 h) w9_Mo_pop q3947 ⟨Nat.le_of_ble_eq_true rfl, Nat.le_of_ble_eq_true rfl⟩ rfl rfl h_a0 (q := (RMo, TMo, 131)) rfl rfl hl.1 rfl (Nat.le_of_ble_eq_true rfl) rfl hd d_Mo_reckon_36 (fun r_3 s_4 H locs h hP hD hS => ?_)
    refine lv_istore (lv' := [(4, .int r_3), (3, .int r_1), (0, .ref (ad a0)), (1, .int v1), (2, .int v2)]) G.1 G.2.1 d_Mo_reckon_39 hl (by decide) rfl (fun ls hl => ?_)
    refine W.eq (g2 := F0 m 41 ls []) rfl ?_
    refine lv_iload_n G.1 G.2.1 d_Mo_reckon_41 rfl (lv_at hl 4 rfl) ?_
    refine lv_bipush (v := 11) G.1 G.2.1 d_Mo_reckon_42 (by decide) ?_
    have J_64 : ∀ (y_j64 : Ly) (s_j64 : St) (d_j64 e_j64 : Nat) (x1j64 : Int32) (x2j64 : Int32) (x3j64 : Int32) (x4j64 : Int32) (H : Heap) (locs : List Loc), wja_Mo_reckon_64 mc ms Post a0 y_j64 s_j64 d_j64 e_j64 x1j64 x2j64 x3j64 x4j64 → va_P D CL (ws g ad y_j64 s_j64) H → va_D A (ws g ad y_j64 s_j64) → va_S A s.heap H locs → ∀ ls, lv_has ls 6 [(0, .ref (ad a0)), (1, .int x1j64), (2, .int x2j64), (3, .int x3j64), (4, .int x4j64)] → W p l e (ra_Mo_reckon mc ms) s m args below meth c H locs d_j64 e_j64 Q (F0 m 64 ls []) := by
      intro y_j64 s_j64 d_j64 e_j64 x1j64 x2j64 x3j64 x4j64 H locs h hP hD hS ls hl
      unfold wja_Mo_reckon_64 at h
      obtain ⟨hd, h⟩ := h
      refine lv_iload_n G.1 G.2.1 d_Mo_reckon_64 rfl (lv_at hl 2 rfl) ?_
      have J_213 : ∀ (y_j213 : Ly) (s_j213 : St) (d_j213 e_j213 : Nat) (x1j213 : Int32) (x5j213 : Int32) (H : Heap) (locs : List Loc), wja_Mo_reckon_213 mc ms Post a0 y_j213 s_j213 d_j213 e_j213 x1j213 x5j213 → va_P D CL (ws g ad y_j213 s_j213) H → va_D A (ws g ad y_j213 s_j213) → va_S A s.heap H locs → ∀ ls, lv_has ls 6 [(0, .ref (ad a0)), (1, .int x1j213), (5, .int x5j213)] → W p l e (ra_Mo_reckon mc ms) s m args below meth c H locs d_j213 e_j213 Q (F0 m 213 ls []) := by
        intro y_j213 s_j213 d_j213 e_j213 x1j213 x5j213 H locs h hP hD hS ls hl
        unfold wja_Mo_reckon_213 at h
        obtain ⟨hd, h⟩ := h
        refine lv_aload_n G.1 G.2.1 d_Mo_reckon_213 rfl (lv_at hl 0 rfl) ?_
        refine lv_iload_n G.1 G.2.1 d_Mo_reckon_214 rfl (lv_at hl 1 rfl) ?_
        refine lv_iload G.1 G.2.1 d_Mo_reckon_215 (lv_at hl 2 rfl) ?_
        refine lv_iconst (v := 0) G.1 G.2.1 d_Mo_reckon_217 (by decide) ?_
        refine ucVv (As := [.int x1j213, .int x5j213, .int 0]) (rest := []) G hP hD hS (cu_Mo_push l D g ad y_j213 _ s_j213 a0 x1j213 x5j213 0 H.size h_a0 h) w9_Mo_push q3907 ⟨Nat.le_of_ble_eq_true rfl, Nat.le_of_ble_eq_true rfl⟩ rfl rfl h_a0 (q := (RMo, TMo, 131)) rfl rfl hl.1 rfl (Nat.le_of_ble_eq_true rfl) rfl hd d_Mo_reckon_218 (fun s_6 H locs h hP hD hS => ?_)
        refine lv_aload_n G.1 G.2.1 d_Mo_reckon_221 rfl (lv_at hl 0 rfl) ?_
        obtain ⟨b_7, e_8, c_9, h⟩ := h
        refine ugf (v := .ref (ad b_7)) G hP h_a0 iMo rfl 46 (by decide) rfl q3110 rfl (by show va_rf ((sO s_6 a0 46).map ad) = _; rw [e_8]; rfl) d_Mo_reckon_222 ?_
        refine ugfN (v := .ref (yP y_j213 b_7 18)) G hP c_9 iMr rfl 18 (by decide) rfl q3009 rfl rfl d_Mo_reckon_225 ?_
        refine lv_iload_n G.1 G.2.1 d_Mo_reckon_228 rfl (lv_at hl 1 rfl) ?_
        refine lv_dup2_11 G.1 G.2.1 d_Mo_reckon_229 rfl rfl ?_
        refine uiald G hP (kdp c_9 rfl) (typ c_9 rfl) h d_Mo_reckon_230 (fun x_10 h => ?_)
        refine W.eq (g2 := F0 m 231 ls [.int x_10, .int x1j213, .ref (yP y_j213 b_7 18)]) rfl ?_
        refine lv_iconst (v := 1) G.1 G.2.1 d_Mo_reckon_231 (by decide) ?_
        refine lv_iadd G.1 G.2.1 d_Mo_reckon_232 ?_
        refine uiast G hP hD hS (kdp c_9 rfl) (typ c_9 rfl) h d_Mo_reckon_233 (fun s_11 H locs h hP hD hS => ?_)
        exact hret (y_j213, s_11, d_j213, e_j213) _ _ _ _ _ ls h hP hD hS (Nat.le_refl _) (Nat.le_refl _) hd.1 hd.2 d_Mo_reckon_234
      by_cases e65_8 : x2j64 = 8
      · skip
        have h := h.1 e65_8
        refine lv_tableIn (off := 55) (tgt := 120) G.1 G.2.1 d_Mo_reckon_65 (by rw [e65_8]; decide) (by rw [e65_8]; decide) (by rw [e65_8]; rfl) (by decide) ?_
        refine lv_iload G.1 G.2.1 d_Mo_reckon_120 (lv_at hl 4 rfl) ?_
        refine lv_iload_n G.1 G.2.1 d_Mo_reckon_122 rfl (lv_at hl 3 rfl) ?_
        refine lv_iadd G.1 G.2.1 d_Mo_reckon_123 ?_
        refine lv_istore (lv' := [(5, .int (x4j64 + x3j64)), (0, .ref (ad a0)), (1, .int x1j64), (2, .int x2j64), (3, .int x3j64), (4, .int x4j64)]) G.1 G.2.1 d_Mo_reckon_124 hl (by decide) rfl (fun ls hl => ?_)
        refine lv_goto (tgt := 213) G.1 G.2.1 d_Mo_reckon_126 (by decide) ?_
        exact J_213 y_j64 s_j64 d_j64 e_j64 x1j64 (x4j64 + x3j64) H locs h hP hD hS ls (lv_sub hl [1, 2, 0] rfl)
      replace h := h.2 e65_8
      by_cases e65_9 : x2j64 = 9
      · skip
        have h := h.1 e65_9
        refine lv_tableIn (off := 64) (tgt := 129) G.1 G.2.1 d_Mo_reckon_65 (by rw [e65_9]; decide) (by rw [e65_9]; decide) (by rw [e65_9]; rfl) (by decide) ?_
        refine lv_iload G.1 G.2.1 d_Mo_reckon_129 (lv_at hl 4 rfl) ?_
        refine lv_iload_n G.1 G.2.1 d_Mo_reckon_131 rfl (lv_at hl 3 rfl) ?_
        refine lv_isub G.1 G.2.1 d_Mo_reckon_132 ?_
        refine lv_istore (lv' := [(5, .int (x4j64 - x3j64)), (0, .ref (ad a0)), (1, .int x1j64), (2, .int x2j64), (3, .int x3j64), (4, .int x4j64)]) G.1 G.2.1 d_Mo_reckon_133 hl (by decide) rfl (fun ls hl => ?_)
        refine lv_goto (tgt := 213) G.1 G.2.1 d_Mo_reckon_135 (by decide) ?_
        exact J_213 y_j64 s_j64 d_j64 e_j64 x1j64 (x4j64 - x3j64) H locs h hP hD hS ls (lv_sub hl [1, 2, 0] rfl)
      replace h := h.2 e65_9
      by_cases e65_10 : x2j64 = 10
      · skip
        have h := h.1 e65_10
        refine lv_tableIn (off := 73) (tgt := 138) G.1 G.2.1 d_Mo_reckon_65 (by rw [e65_10]; decide) (by rw [e65_10]; decide) (by rw [e65_10]; rfl) (by decide) ?_
        refine lv_iload G.1 G.2.1 d_Mo_reckon_138 (lv_at hl 4 rfl) ?_
        refine lv_iload_n G.1 G.2.1 d_Mo_reckon_140 rfl (lv_at hl 3 rfl) ?_
        refine lv_imul G.1 G.2.1 d_Mo_reckon_141 ?_
        refine lv_istore (lv' := [(5, .int (x4j64 * x3j64)), (0, .ref (ad a0)), (1, .int x1j64), (2, .int x2j64), (3, .int x3j64), (4, .int x4j64)]) G.1 G.2.1 d_Mo_reckon_142 hl (by decide) rfl (fun ls hl => ?_)
        refine lv_goto (tgt := 213) G.1 G.2.1 d_Mo_reckon_144 (by decide) ?_
        exact J_213 y_j64 s_j64 d_j64 e_j64 x1j64 (x4j64 * x3j64) H locs h hP hD hS ls (lv_sub hl [1, 2, 0] rfl)
      replace h := h.2 e65_10
      by_cases e65_11 : x2j64 = 11
      · skip
        have h := h.1 e65_11
        refine lv_tableIn (off := 82) (tgt := 147) G.1 G.2.1 d_Mo_reckon_65 (by rw [e65_11]; decide) (by rw [e65_11]; decide) (by rw [e65_11]; rfl) (by decide) ?_
        refine lv_iload G.1 G.2.1 d_Mo_reckon_147 (lv_at hl 4 rfl) ?_
        refine lv_iload_n G.1 G.2.1 d_Mo_reckon_149 rfl (lv_at hl 3 rfl) ?_
        obtain ⟨n_12, h⟩ := h
        refine lv_idiv G.1 G.2.1 d_Mo_reckon_150 n_12 ?_
        refine lv_istore (lv' := [(5, .int (x4j64 / x3j64)), (0, .ref (ad a0)), (1, .int x1j64), (2, .int x2j64), (3, .int x3j64), (4, .int x4j64)]) G.1 G.2.1 d_Mo_reckon_151 hl (by decide) rfl (fun ls hl => ?_)
        refine lv_goto (tgt := 213) G.1 G.2.1 d_Mo_reckon_153 (by decide) ?_
        exact J_213 y_j64 s_j64 d_j64 e_j64 x1j64 (x4j64 / x3j64) H locs h hP hD hS ls (lv_sub hl [1, 2, 0] rfl)
      replace h := h.2 e65_11
      by_cases e65_12 : x2j64 = 12
      · skip
        have h := h.1 e65_12
        refine lv_tableIn (off := 91) (tgt := 156) G.1 G.2.1 d_Mo_reckon_65 (by rw [e65_12]; decide) (by rw [e65_12]; decide) (by rw [e65_12]; rfl) (by decide) ?_
        refine lv_iload G.1 G.2.1 d_Mo_reckon_156 (lv_at hl 4 rfl) ?_
        refine lv_iload_n G.1 G.2.1 d_Mo_reckon_158 rfl (lv_at hl 3 rfl) ?_
        obtain ⟨n_13, h⟩ := h
        refine lv_irem G.1 G.2.1 d_Mo_reckon_159 n_13 ?_
        refine lv_istore (lv' := [(5, .int (x4j64 - x4j64 / x3j64 * x3j64)), (0, .ref (ad a0)), (1, .int x1j64), (2, .int x2j64), (3, .int x3j64), (4, .int x4j64)]) G.1 G.2.1 d_Mo_reckon_160 hl (by decide) rfl (fun ls hl => ?_)
        refine lv_goto (tgt := 213) G.1 G.2.1 d_Mo_reckon_162 (by decide) ?_
        exact J_213 y_j64 s_j64 d_j64 e_j64 x1j64 (x4j64 - x4j64 / x3j64 * x3j64) H locs h hP hD hS ls (lv_sub hl [1, 2, 0] rfl)
      replace h := h.2 e65_12
      by_cases e65_13 : x2j64 = 13
      · skip
        have h := h.1 e65_13
        refine lv_tableIn (off := 139) (tgt := 204) G.1 G.2.1 d_Mo_reckon_65 (by rw [e65_13]; decide) (by rw [e65_13]; decide) (by rw [e65_13]; rfl) (by decide) ?_
        refine lv_iload G.1 G.2.1 d_Mo_reckon_204 (lv_at hl 4 rfl) ?_
        refine lv_iload_n G.1 G.2.1 d_Mo_reckon_206 rfl (lv_at hl 3 rfl) ?_
        refine lv_bipush (v := 31) G.1 G.2.1 d_Mo_reckon_207 (by decide) ?_
        refine lv_iand G.1 G.2.1 d_Mo_reckon_209 ?_
        refine lv_ishr G.1 G.2.1 d_Mo_reckon_210 ?_
        refine lv_istore (lv' := [(5, .int (x4j64 >>> ((x3j64 &&& 31) &&& 31))), (0, .ref (ad a0)), (1, .int x1j64), (2, .int x2j64), (3, .int x3j64), (4, .int x4j64)]) G.1 G.2.1 d_Mo_reckon_211 hl (by decide) rfl (fun ls hl => ?_)
        exact J_213 y_j64 s_j64 d_j64 e_j64 x1j64 (x4j64 >>> ((x3j64 &&& 31) &&& 31)) H locs h hP hD hS ls (lv_sub hl [1, 2, 0] rfl)
      replace h := h.2 e65_13
      by_cases e65_14 : x2j64 = 14
      · skip
        have h := h.1 e65_14
        refine lv_tableIn (off := 100) (tgt := 165) G.1 G.2.1 d_Mo_reckon_65 (by rw [e65_14]; decide) (by rw [e65_14]; decide) (by rw [e65_14]; rfl) (by decide) ?_
        refine lv_iload G.1 G.2.1 d_Mo_reckon_165 (lv_at hl 4 rfl) ?_
        refine lv_iload_n G.1 G.2.1 d_Mo_reckon_167 rfl (lv_at hl 3 rfl) ?_
        refine lv_iand G.1 G.2.1 d_Mo_reckon_168 ?_
        refine lv_istore (lv' := [(5, .int (x4j64 &&& x3j64)), (0, .ref (ad a0)), (1, .int x1j64), (2, .int x2j64), (3, .int x3j64), (4, .int x4j64)]) G.1 G.2.1 d_Mo_reckon_169 hl (by decide) rfl (fun ls hl => ?_)
        refine lv_goto (tgt := 213) G.1 G.2.1 d_Mo_reckon_171 (by decide) ?_
        exact J_213 y_j64 s_j64 d_j64 e_j64 x1j64 (x4j64 &&& x3j64) H locs h hP hD hS ls (lv_sub hl [1, 2, 0] rfl)
      replace h := h.2 e65_14
      by_cases e65_15 : x2j64 = 15
      · skip
        have h := h.1 e65_15
        refine lv_tableIn (off := 109) (tgt := 174) G.1 G.2.1 d_Mo_reckon_65 (by rw [e65_15]; decide) (by rw [e65_15]; decide) (by rw [e65_15]; rfl) (by decide) ?_
        refine lv_iload G.1 G.2.1 d_Mo_reckon_174 (lv_at hl 4 rfl) ?_
        refine lv_iload_n G.1 G.2.1 d_Mo_reckon_176 rfl (lv_at hl 3 rfl) ?_
        refine lv_ior G.1 G.2.1 d_Mo_reckon_177 ?_
        refine lv_istore (lv' := [(5, .int (x4j64 ||| x3j64)), (0, .ref (ad a0)), (1, .int x1j64), (2, .int x2j64), (3, .int x3j64), (4, .int x4j64)]) G.1 G.2.1 d_Mo_reckon_178 hl (by decide) rfl (fun ls hl => ?_)
        refine lv_goto (tgt := 213) G.1 G.2.1 d_Mo_reckon_180 (by decide) ?_
        exact J_213 y_j64 s_j64 d_j64 e_j64 x1j64 (x4j64 ||| x3j64) H locs h hP hD hS ls (lv_sub hl [1, 2, 0] rfl)
      replace h := h.2 e65_15
      by_cases e65_16 : x2j64 = 16
      · skip
        have h := h.1 e65_16
        refine lv_tableIn (off := 118) (tgt := 183) G.1 G.2.1 d_Mo_reckon_65 (by rw [e65_16]; decide) (by rw [e65_16]; decide) (by rw [e65_16]; rfl) (by decide) ?_
        refine lv_iload G.1 G.2.1 d_Mo_reckon_183 (lv_at hl 4 rfl) ?_
        refine lv_iload_n G.1 G.2.1 d_Mo_reckon_185 rfl (lv_at hl 3 rfl) ?_
        refine lv_ixor G.1 G.2.1 d_Mo_reckon_186 ?_
        refine lv_istore (lv' := [(5, .int (x4j64 ^^^ x3j64)), (0, .ref (ad a0)), (1, .int x1j64), (2, .int x2j64), (3, .int x3j64), (4, .int x4j64)]) G.1 G.2.1 d_Mo_reckon_187 hl (by decide) rfl (fun ls hl => ?_)
        refine lv_goto (tgt := 213) G.1 G.2.1 d_Mo_reckon_189 (by decide) ?_
        exact J_213 y_j64 s_j64 d_j64 e_j64 x1j64 (x4j64 ^^^ x3j64) H locs h hP hD hS ls (lv_sub hl [1, 2, 0] rfl)
      replace h := h.2 e65_16
      by_cases e65_17 : x2j64 = 17
      · skip
        have h := h.1 e65_17
        refine lv_tableIn (off := 127) (tgt := 192) G.1 G.2.1 d_Mo_reckon_65 (by rw [e65_17]; decide) (by rw [e65_17]; decide) (by rw [e65_17]; rfl) (by decide) ?_
        refine lv_iload G.1 G.2.1 d_Mo_reckon_192 (lv_at hl 4 rfl) ?_
        refine lv_iload_n G.1 G.2.1 d_Mo_reckon_194 rfl (lv_at hl 3 rfl) ?_
        refine lv_bipush (v := 31) G.1 G.2.1 d_Mo_reckon_195 (by decide) ?_
        refine lv_iand G.1 G.2.1 d_Mo_reckon_197 ?_
        refine lv_ishl G.1 G.2.1 d_Mo_reckon_198 ?_
        refine lv_istore (lv' := [(5, .int (x4j64 <<< ((x3j64 &&& 31) &&& 31))), (0, .ref (ad a0)), (1, .int x1j64), (2, .int x2j64), (3, .int x3j64), (4, .int x4j64)]) G.1 G.2.1 d_Mo_reckon_199 hl (by decide) rfl (fun ls hl => ?_)
        refine lv_goto (tgt := 213) G.1 G.2.1 d_Mo_reckon_201 (by decide) ?_
        exact J_213 y_j64 s_j64 d_j64 e_j64 x1j64 (x4j64 <<< ((x3j64 &&& 31) &&& 31)) H locs h hP hD hS ls (lv_sub hl [1, 2, 0] rfl)
      replace h := h.2 e65_17
      have te65_8 := lv_neT (a := 8) e65_8 (by decide)
      have te65_9 := lv_neT (a := 9) e65_9 (by decide)
      have te65_10 := lv_neT (a := 10) e65_10 (by decide)
      have te65_11 := lv_neT (a := 11) e65_11 (by decide)
      have te65_12 := lv_neT (a := 12) e65_12 (by decide)
      have te65_13 := lv_neT (a := 13) e65_13 (by decide)
      have te65_14 := lv_neT (a := 14) e65_14 (by decide)
      have te65_15 := lv_neT (a := 15) e65_15 (by decide)
      have te65_16 := lv_neT (a := 16) e65_16 (by decide)
      have te65_17 := lv_neT (a := 17) e65_17 (by decide)
      refine lv_tableOut (tgt := 204) G.1 G.2.1 d_Mo_reckon_65 (by omega) (by decide) ?_
      refine lv_iload G.1 G.2.1 d_Mo_reckon_204 (lv_at hl 4 rfl) ?_
      refine lv_iload_n G.1 G.2.1 d_Mo_reckon_206 rfl (lv_at hl 3 rfl) ?_
      refine lv_bipush (v := 31) G.1 G.2.1 d_Mo_reckon_207 (by decide) ?_
      refine lv_iand G.1 G.2.1 d_Mo_reckon_209 ?_
      refine lv_ishr G.1 G.2.1 d_Mo_reckon_210 ?_
      refine lv_istore (lv' := [(5, .int (x4j64 >>> ((x3j64 &&& 31) &&& 31))), (0, .ref (ad a0)), (1, .int x1j64), (2, .int x2j64), (3, .int x3j64), (4, .int x4j64)]) G.1 G.2.1 d_Mo_reckon_211 hl (by decide) rfl (fun ls hl => ?_)
      exact J_213 y_j64 s_j64 d_j64 e_j64 x1j64 (x4j64 >>> ((x3j64 &&& 31) &&& 31)) H locs h hP hD hS ls (lv_sub hl [1, 2, 0] rfl)
    have J_53 : ∀ (y_j53 : Ly) (s_j53 : St) (d_j53 e_j53 : Nat) (x1j53 : Int32) (x2j53 : Int32) (x3j53 : Int32) (x4j53 : Int32) (H : Heap) (locs : List Loc), wja_Mo_reckon_53 mc ms Post a0 y_j53 s_j53 d_j53 e_j53 x1j53 x2j53 x3j53 x4j53 → va_P D CL (ws g ad y_j53 s_j53) H → va_D A (ws g ad y_j53 s_j53) → va_S A s.heap H locs → ∀ ls, lv_has ls 6 [(0, .ref (ad a0)), (1, .int x1j53), (2, .int x2j53), (3, .int x3j53), (4, .int x4j53)] → W p l e (ra_Mo_reckon mc ms) s m args below meth c H locs d_j53 e_j53 Q (F0 m 53 ls []) := by
      intro y_j53 s_j53 d_j53 e_j53 x1j53 x2j53 x3j53 x4j53 H locs h hP hD hS ls hl
      unfold wja_Mo_reckon_53 at h
      obtain ⟨hd, h⟩ := h
      refine lv_iload_n G.1 G.2.1 d_Mo_reckon_53 rfl (lv_at hl 3 rfl) ?_
      refine lv_if_ne (tgt := 64) G.1 G.2.1 d_Mo_reckon_54 (by decide) (fun c54 => ?_) (fun c54 => ?_)
      · skip
        have h := h.1 c54
        exact J_64 y_j53 s_j53 d_j53 e_j53 x1j53 x2j53 x3j53 x4j53 H locs h hP hD hS ls (lv_sub hl [0, 1, 2, 3, 4] rfl)
      · skip
        have h := h.2 c54
        refine lv_aload_n G.1 G.2.1 d_Mo_reckon_57 rfl (lv_at hl 0 rfl) ?_
        refine lv_iconst (v := 0) G.1 G.2.1 d_Mo_reckon_58 (by decide) ?_
        refine lv_iconst (v := 3) G.1 G.2.1 d_Mo_reckon_59 (by decide) ?_
        obtain ⟨mc_19, ms_20, hr_21, h⟩ := h
        refine uaVv (As := [.int 0, .int 3]) (rest := []) G hP hD hS (ca_Mo_throwNew l D g ad mc_19 ms_20 y_j53 _ s_j53 a0 0 3 H.size (us H) h_a0 h) w9_Mo_throwNew q3883 ⟨Nat.le_of_ble_eq_true rfl, Nat.le_of_ble_eq_true rfl⟩ rfl rfl h_a0 (q := (RMo, TMo, 131)) rfl rfl hl.1 rfl (Nat.le_of_ble_eq_true rfl) rfl hr_21 d_Mo_reckon_60 (fun y_16 s_15 d_17 e_18 H locs h hP hD hS => ?_)
        have hl := lv_sub (l' := []) hl [] rfl
        obtain ⟨hd, h⟩ := h
        exact hret (y_16, s_15, d_j53 + d_17, e_j53 + e_18) _ _ _ _ _ ls h hP hD hS (Nat.le_refl _) (Nat.le_refl _) hd.1 hd.2 d_Mo_reckon_63
    refine lv_icmp_eq (tgt := 53) G.1 G.2.1 d_Mo_reckon_44 (by decide) (fun c44 => ?_) (fun c44 => ?_)
    · skip
      have h := h.1 c44
      exact J_53 y s_4 0 0 v1 v2 r_1 r_3 H locs h hP hD hS ls (lv_sub hl [2, 3, 4, 1, 0] rfl)
    · skip
      have h := h.2 c44
      refine lv_iload_n G.1 G.2.1 d_Mo_reckon_47 rfl (lv_at hl 4 rfl) ?_
      refine lv_bipush (v := 12) G.1 G.2.1 d_Mo_reckon_48 (by decide) ?_
      refine lv_icmp_ne (tgt := 64) G.1 G.2.1 d_Mo_reckon_50 (by decide) (fun c50 => ?_) (fun c50 => ?_)
      · skip
        have h := h.1 c50
        exact J_64 y s_4 0 0 v1 v2 r_1 r_3 H locs h hP hD hS ls (lv_sub hl [2, 3, 4, 1, 0] rfl)
      · skip
        have h := h.2 c50
        exact J_53 y s_4 0 0 v1 v2 r_1 r_3 H locs h hP hD hS ls (lv_sub hl [2, 3, 4, 1, 0] rfl)
  · skip
    have h := h.2 c9
    refine lv_aload_n G.1 G.2.1 d_Mo_reckon_12 rfl (lv_at hl 1 rfl) ?_
    refine lv_iload_n G.1 G.2.1 d_Mo_reckon_13 rfl (lv_at hl 2 rfl) ?_
    refine lv_iload_n G.1 G.2.1 d_Mo_reckon_14 rfl (lv_at hl 0 rfl) ?_
    refine lv_ineg G.1 G.2.1 d_Mo_reckon_15 ?_
    refine W.eq (g2 := F0 m 16 ls [.int (-r_1), .int v1, .ref (ad a0)]) rfl ?_
    refine lv_iconst (v := 0) G.1 G.2.1 d_Mo_reckon_16 (by decide) ?_
    refine ucVv (As := [.int v1, .int (-r_1), .int 0]) (rest := []) G hP hD hS (cu_Mo_push l D g ad y _ s_2 a0 v1 (-r_1) 0 H.size h_a0 h) w9_Mo_push q3907 ⟨Nat.le_of_ble_eq_true rfl, Nat.le_of_ble_eq_true rfl⟩ rfl rfl h_a0 (q := (RMo, TMo, 131)) rfl rfl hl.1 rfl (Nat.le_of_ble_eq_true rfl) rfl hd d_Mo_reckon_17 (fun s_23 H locs h hP hD hS => ?_)
    refine lv_aload_n G.1 G.2.1 d_Mo_reckon_20 rfl (lv_at hl 1 rfl) ?_
    obtain ⟨b_24, e_25, c_26, h⟩ := h
    refine ugf (v := .ref (ad b_24)) G hP h_a0 iMo rfl 46 (by decide) rfl q3110 rfl (by show va_rf ((sO s_23 a0 46).map ad) = _; rw [e_25]; rfl) d_Mo_reckon_21 ?_
    refine ugfN (v := .ref (yP y b_24 18)) G hP c_26 iMr rfl 18 (by decide) rfl q3009 rfl rfl d_Mo_reckon_24 ?_
    refine lv_iload_n G.1 G.2.1 d_Mo_reckon_27 rfl (lv_at hl 2 rfl) ?_
    refine lv_dup2_11 G.1 G.2.1 d_Mo_reckon_28 rfl rfl ?_
    refine uiald G hP (kdp c_26 rfl) (typ c_26 rfl) h d_Mo_reckon_29 (fun x_27 h => ?_)
    refine lv_iconst (v := 1) G.1 G.2.1 d_Mo_reckon_30 (by decide) ?_
    refine lv_iadd G.1 G.2.1 d_Mo_reckon_31 ?_
    refine uiast G hP hD hS (kdp c_26 rfl) (typ c_26 rfl) h d_Mo_reckon_32 (fun s_28 H locs h hP hD hS => ?_)
    exact hret (y, s_28, 0, 0) _ _ _ _ _ ls h hP hD hS (Nat.le_refl _) (Nat.le_refl _) hd.1 hd.2 d_Mo_reckon_33
theorem q3975 : Cond.methodLink "ClassWorksModel" 1072 y_Mo_newThing ∈ lw_ok := lw_okmem (List.mem_of_getElem? (i := 3975) (by decide +kernel)) rfl
theorem q3978 : Cond.code y_Mo_newThing b_Mo_newThing 5 (some .int) ∈ lw_ok := lw_okmem (List.mem_of_getElem? (i := 3978) (by decide +kernel)) rfl
theorem q3977 : Cond.instanceMethod y_Mo_newThing ∈ lw_ok := lw_okmem (List.mem_of_getElem? (i := 3977) (by decide +kernel)) rfl
theorem q283 : Cond.selects y_Mo_newThing.cls y_Mo_newThing y_Mo_newThing ∈ lw_ok := lw_okmem (List.mem_of_getElem? (i := 283) (by decide +kernel)) rfl
theorem w9_Mo_newThing : CWv y_Mo_newThing b_Mo_newThing 5 (some .int) 2 ∧ Cond.instanceMethod y_Mo_newThing ∈ lw_ok ∧ Cond.selects y_Mo_newThing.cls y_Mo_newThing y_Mo_newThing ∈ lw_ok := ⟨⟨q3978, q348, by decide +kernel, by decide +kernel, by decide +kernel⟩, q3977, q283⟩
def y_Mo_rowStep : MethodName := ⟨"ClassWorksModel", "rowStep", "(II)V"⟩
abbrev b_Mo_rowStep : ByteArray := prog_14_method_112_code
theorem d_Mo_rowStep_0 : decode b_Mo_rowStep 0 = .ok (.iload_n 2, 1) := by decide +kernel
theorem d_Mo_rowStep_1 : decode b_Mo_rowStep 1 = .ok (.bipush 44, 2) := by decide +kernel
theorem d_Mo_rowStep_3 : decode b_Mo_rowStep 3 = .ok (.if_icmp .ne 11, 3) := by decide +kernel
theorem d_Mo_rowStep_6 : decode b_Mo_rowStep 6 = .ok (.aload_n 0, 1) := by decide +kernel
theorem d_Mo_rowStep_7 : decode b_Mo_rowStep 7 = .ok (.iload_n 1, 1) := by decide +kernel
theorem d_Mo_rowStep_8 : decode b_Mo_rowStep 8 = .ok (.invokevirtual 1057, 3) := by decide +kernel
theorem d_Mo_rowStep_11 : decode b_Mo_rowStep 11 = .ok (.goto 4, 3) := by decide +kernel
theorem d_Mo_rowStep_14 : decode b_Mo_rowStep 14 = .ok (.iconst 0, 1) := by decide +kernel
theorem d_Mo_rowStep_15 : decode b_Mo_rowStep 15 = .ok (.istore_n 3, 1) := by decide +kernel
theorem d_Mo_rowStep_16 : decode b_Mo_rowStep 16 = .ok (.iload_n 2, 1) := by decide +kernel
theorem d_Mo_rowStep_17 : decode b_Mo_rowStep 17 = .ok (.bipush 45, 2) := by decide +kernel
theorem d_Mo_rowStep_19 : decode b_Mo_rowStep 19 = .ok (.if_icmp .ne 7, 3) := by decide +kernel
theorem d_Mo_rowStep_22 : decode b_Mo_rowStep 22 = .ok (.iconst 0, 1) := by decide +kernel
theorem d_Mo_rowStep_23 : decode b_Mo_rowStep 23 = .ok (.goto 8, 3) := by decide +kernel
theorem d_Mo_rowStep_26 : decode b_Mo_rowStep 26 = .ok (.aload_n 0, 1) := by decide +kernel
theorem d_Mo_rowStep_27 : decode b_Mo_rowStep 27 = .ok (.iload_n 1, 1) := by decide +kernel
theorem d_Mo_rowStep_28 : decode b_Mo_rowStep 28 = .ok (.invokevirtual 1057, 3) := by decide +kernel
theorem d_Mo_rowStep_31 : decode b_Mo_rowStep 31 = .ok (.istore 4, 2) := by decide +kernel
theorem d_Mo_rowStep_33 : decode b_Mo_rowStep 33 = .ok (.iload_n 2, 1) := by decide +kernel
theorem d_Mo_rowStep_34 : decode b_Mo_rowStep 34 = .ok (.bipush 42, 2) := by decide +kernel
theorem d_Mo_rowStep_36 : decode b_Mo_rowStep 36 = .ok (.if_icmp .ne 73, 3) := by decide +kernel
theorem d_Mo_rowStep_39 : decode b_Mo_rowStep 39 = .ok (.iload 4, 2) := by decide +kernel
theorem d_Mo_rowStep_41 : decode b_Mo_rowStep 41 = .ok (.ifCond .lt 11, 3) := by decide +kernel
theorem d_Mo_rowStep_44 : decode b_Mo_rowStep 44 = .ok (.iload 4, 2) := by decide +kernel
theorem d_Mo_rowStep_46 : decode b_Mo_rowStep 46 = .ok (.sipush 300, 3) := by decide +kernel
theorem d_Mo_rowStep_49 : decode b_Mo_rowStep 49 = .ok (.if_icmp .le 7, 3) := by decide +kernel
theorem d_Mo_rowStep_52 : decode b_Mo_rowStep 52 = .ok (.iconst (-1), 1) := by decide +kernel
theorem d_Mo_rowStep_53 : decode b_Mo_rowStep 53 = .ok (.goto 10, 3) := by decide +kernel
theorem d_Mo_rowStep_56 : decode b_Mo_rowStep 56 = .ok (.aload_n 0, 1) := by decide +kernel
theorem d_Mo_rowStep_57 : decode b_Mo_rowStep 57 = .ok (.iconst (-1), 1) := by decide +kernel
theorem d_Mo_rowStep_58 : decode b_Mo_rowStep 58 = .ok (.iload 4, 2) := by decide +kernel
theorem d_Mo_rowStep_60 : decode b_Mo_rowStep 60 = .ok (.invokevirtual 1072, 3) := by decide +kernel
theorem d_Mo_rowStep_63 : decode b_Mo_rowStep 63 = .ok (.istore 5, 2) := by decide +kernel
theorem d_Mo_rowStep_65 : decode b_Mo_rowStep 65 = .ok (.iload 5, 2) := by decide +kernel
theorem d_Mo_rowStep_67 : decode b_Mo_rowStep 67 = .ok (.ifCond .ge 20, 3) := by decide +kernel
theorem d_Mo_rowStep_70 : decode b_Mo_rowStep 70 = .ok (.aload_n 0, 1) := by decide +kernel
theorem d_Mo_rowStep_71 : decode b_Mo_rowStep 71 = .ok (.iconst 0, 1) := by decide +kernel
theorem d_Mo_rowStep_72 : decode b_Mo_rowStep 72 = .ok (.iload 4, 2) := by decide +kernel
theorem d_Mo_rowStep_74 : decode b_Mo_rowStep 74 = .ok (.ifCond .ge 7, 3) := by decide +kernel
theorem d_Mo_rowStep_77 : decode b_Mo_rowStep 77 = .ok (.iconst 5, 1) := by decide +kernel
theorem d_Mo_rowStep_78 : decode b_Mo_rowStep 78 = .ok (.goto 5, 3) := by decide +kernel
theorem d_Mo_rowStep_81 : decode b_Mo_rowStep 81 = .ok (.bipush 9, 2) := by decide +kernel
theorem d_Mo_rowStep_83 : decode b_Mo_rowStep 83 = .ok (.invokevirtual 1001, 3) := by decide +kernel
theorem d_Mo_rowStep_86 : decode b_Mo_rowStep 86 = .ok (.return_, 1) := by decide +kernel
theorem d_Mo_rowStep_87 : decode b_Mo_rowStep 87 = .ok (.aload_n 0, 1) := by decide +kernel
theorem d_Mo_rowStep_88 : decode b_Mo_rowStep 88 = .ok (.iload_n 1, 1) := by decide +kernel
theorem d_Mo_rowStep_89 : decode b_Mo_rowStep 89 = .ok (.iload 5, 2) := by decide +kernel
theorem d_Mo_rowStep_91 : decode b_Mo_rowStep 91 = .ok (.iconst 1, 1) := by decide +kernel
theorem d_Mo_rowStep_92 : decode b_Mo_rowStep 92 = .ok (.invokevirtual 970, 3) := by decide +kernel
theorem d_Mo_rowStep_95 : decode b_Mo_rowStep 95 = .ok (.aload_n 0, 1) := by decide +kernel
theorem d_Mo_rowStep_96 : decode b_Mo_rowStep 96 = .ok (.getfield 917, 3) := by decide +kernel
theorem d_Mo_rowStep_99 : decode b_Mo_rowStep 99 = .ok (.getfield 930, 3) := by decide +kernel
theorem d_Mo_rowStep_102 : decode b_Mo_rowStep 102 = .ok (.iload_n 1, 1) := by decide +kernel
theorem d_Mo_rowStep_103 : decode b_Mo_rowStep 103 = .ok (.dup2, 1) := by decide +kernel
theorem d_Mo_rowStep_104 : decode b_Mo_rowStep 104 = .ok (.iaload, 1) := by decide +kernel
theorem d_Mo_rowStep_105 : decode b_Mo_rowStep 105 = .ok (.iconst 1, 1) := by decide +kernel
theorem d_Mo_rowStep_106 : decode b_Mo_rowStep 106 = .ok (.iadd, 1) := by decide +kernel
theorem d_Mo_rowStep_107 : decode b_Mo_rowStep 107 = .ok (.iastore, 1) := by decide +kernel
theorem d_Mo_rowStep_108 : decode b_Mo_rowStep 108 = .ok (.return_, 1) := by decide +kernel
theorem d_Mo_rowStep_109 : decode b_Mo_rowStep 109 = .ok (.aload_n 0, 1) := by decide +kernel
theorem d_Mo_rowStep_110 : decode b_Mo_rowStep 110 = .ok (.iload_n 1, 1) := by decide +kernel
theorem d_Mo_rowStep_111 : decode b_Mo_rowStep 111 = .ok (.invokevirtual 1057, 3) := by decide +kernel
theorem d_Mo_rowStep_114 : decode b_Mo_rowStep 114 = .ok (.istore 5, 2) := by decide +kernel
theorem d_Mo_rowStep_116 : decode b_Mo_rowStep 116 = .ok (.iload 5, 2) := by decide +kernel
theorem d_Mo_rowStep_118 : decode b_Mo_rowStep 118 = .ok (.ifCond .ne 10, 3) := by decide +kernel
theorem d_Mo_rowStep_121 : decode b_Mo_rowStep 121 = .ok (.aload_n 0, 1) := by decide +kernel
theorem d_Mo_rowStep_122 : decode b_Mo_rowStep 122 = .ok (.iconst 0, 1) := by decide +kernel
theorem d_Mo_rowStep_123 : decode b_Mo_rowStep 123 = .ok (.iconst 2, 1) := by decide +kernel
theorem d_Mo_rowStep_124 : decode b_Mo_rowStep 124 = .ok (.invokevirtual 1001, 3) := by decide +kernel
theorem d_Mo_rowStep_127 : decode b_Mo_rowStep 127 = .ok (.return_, 1) := by decide +kernel
theorem d_Mo_rowStep_128 : decode b_Mo_rowStep 128 = .ok (.aload_n 0, 1) := by decide +kernel
theorem d_Mo_rowStep_129 : decode b_Mo_rowStep 129 = .ok (.getfield 522, 3) := by decide +kernel
theorem d_Mo_rowStep_132 : decode b_Mo_rowStep 132 = .ok (.getfield 887, 3) := by decide +kernel
theorem d_Mo_rowStep_135 : decode b_Mo_rowStep 135 = .ok (.iload 5, 2) := by decide +kernel
theorem d_Mo_rowStep_137 : decode b_Mo_rowStep 137 = .ok (.iaload, 1) := by decide +kernel
theorem d_Mo_rowStep_138 : decode b_Mo_rowStep 138 = .ok (.istore 6, 2) := by decide +kernel
theorem d_Mo_rowStep_140 : decode b_Mo_rowStep 140 = .ok (.iload_n 2, 1) := by decide +kernel
theorem d_Mo_rowStep_141 : decode b_Mo_rowStep 141 = .ok (.bipush 45, 2) := by decide +kernel
theorem d_Mo_rowStep_143 : decode b_Mo_rowStep 143 = .ok (.if_icmp .eq 22, 3) := by decide +kernel
theorem d_Mo_rowStep_146 : decode b_Mo_rowStep 146 = .ok (.iload 4, 2) := by decide +kernel
theorem d_Mo_rowStep_148 : decode b_Mo_rowStep 148 = .ok (.ifCond .lt 10, 3) := by decide +kernel
theorem d_Mo_rowStep_151 : decode b_Mo_rowStep 151 = .ok (.iload 4, 2) := by decide +kernel
theorem d_Mo_rowStep_153 : decode b_Mo_rowStep 153 = .ok (.iload 6, 2) := by decide +kernel
theorem d_Mo_rowStep_155 : decode b_Mo_rowStep 155 = .ok (.if_icmp .lt 10, 3) := by decide +kernel
theorem d_Mo_rowStep_158 : decode b_Mo_rowStep 158 = .ok (.aload_n 0, 1) := by decide +kernel
theorem d_Mo_rowStep_159 : decode b_Mo_rowStep 159 = .ok (.iconst 0, 1) := by decide +kernel
theorem d_Mo_rowStep_160 : decode b_Mo_rowStep 160 = .ok (.iconst 4, 1) := by decide +kernel
theorem d_Mo_rowStep_161 : decode b_Mo_rowStep 161 = .ok (.invokevirtual 1001, 3) := by decide +kernel
theorem d_Mo_rowStep_164 : decode b_Mo_rowStep 164 = .ok (.return_, 1) := by decide +kernel
theorem d_Mo_rowStep_165 : decode b_Mo_rowStep 165 = .ok (.iload_n 2, 1) := by decide +kernel
theorem d_Mo_rowStep_166 : decode b_Mo_rowStep 166 = .ok (.bipush 44, 2) := by decide +kernel
theorem d_Mo_rowStep_168 : decode b_Mo_rowStep 168 = .ok (.if_icmp .ne 28, 3) := by decide +kernel
theorem d_Mo_rowStep_171 : decode b_Mo_rowStep 171 = .ok (.aload_n 0, 1) := by decide +kernel
theorem d_Mo_rowStep_172 : decode b_Mo_rowStep 172 = .ok (.getfield 522, 3) := by decide +kernel
theorem d_Mo_rowStep_175 : decode b_Mo_rowStep 175 = .ok (.getfield 893, 3) := by decide +kernel
theorem d_Mo_rowStep_178 : decode b_Mo_rowStep 178 = .ok (.aload_n 0, 1) := by decide +kernel
theorem d_Mo_rowStep_179 : decode b_Mo_rowStep 179 = .ok (.getfield 522, 3) := by decide +kernel
theorem d_Mo_rowStep_182 : decode b_Mo_rowStep 182 = .ok (.getfield 884, 3) := by decide +kernel
theorem d_Mo_rowStep_185 : decode b_Mo_rowStep 185 = .ok (.iload 5, 2) := by decide +kernel
theorem d_Mo_rowStep_187 : decode b_Mo_rowStep 187 = .ok (.iaload, 1) := by decide +kernel
theorem d_Mo_rowStep_188 : decode b_Mo_rowStep 188 = .ok (.iload 4, 2) := by decide +kernel
theorem d_Mo_rowStep_190 : decode b_Mo_rowStep 190 = .ok (.iadd, 1) := by decide +kernel
theorem d_Mo_rowStep_191 : decode b_Mo_rowStep 191 = .ok (.iload_n 3, 1) := by decide +kernel
theorem d_Mo_rowStep_192 : decode b_Mo_rowStep 192 = .ok (.iastore, 1) := by decide +kernel
theorem d_Mo_rowStep_193 : decode b_Mo_rowStep 193 = .ok (.goto 41, 3) := by decide +kernel
theorem d_Mo_rowStep_196 : decode b_Mo_rowStep 196 = .ok (.aload_n 0, 1) := by decide +kernel
theorem d_Mo_rowStep_197 : decode b_Mo_rowStep 197 = .ok (.iload_n 1, 1) := by decide +kernel
theorem d_Mo_rowStep_198 : decode b_Mo_rowStep 198 = .ok (.iload_n 2, 1) := by decide +kernel
theorem d_Mo_rowStep_199 : decode b_Mo_rowStep 199 = .ok (.bipush 45, 2) := by decide +kernel
theorem d_Mo_rowStep_201 : decode b_Mo_rowStep 201 = .ok (.if_icmp .ne 8, 3) := by decide +kernel
theorem d_Mo_rowStep_204 : decode b_Mo_rowStep 204 = .ok (.iload 6, 2) := by decide +kernel
theorem d_Mo_rowStep_206 : decode b_Mo_rowStep 206 = .ok (.goto 24, 3) := by decide +kernel
theorem d_Mo_rowStep_209 : decode b_Mo_rowStep 209 = .ok (.aload_n 0, 1) := by decide +kernel
theorem d_Mo_rowStep_210 : decode b_Mo_rowStep 210 = .ok (.getfield 522, 3) := by decide +kernel
theorem d_Mo_rowStep_213 : decode b_Mo_rowStep 213 = .ok (.getfield 893, 3) := by decide +kernel
theorem d_Mo_rowStep_216 : decode b_Mo_rowStep 216 = .ok (.aload_n 0, 1) := by decide +kernel
theorem d_Mo_rowStep_217 : decode b_Mo_rowStep 217 = .ok (.getfield 522, 3) := by decide +kernel
theorem d_Mo_rowStep_220 : decode b_Mo_rowStep 220 = .ok (.getfield 884, 3) := by decide +kernel
theorem d_Mo_rowStep_223 : decode b_Mo_rowStep 223 = .ok (.iload 5, 2) := by decide +kernel
theorem d_Mo_rowStep_225 : decode b_Mo_rowStep 225 = .ok (.iaload, 1) := by decide +kernel
theorem d_Mo_rowStep_226 : decode b_Mo_rowStep 226 = .ok (.iload 4, 2) := by decide +kernel
theorem d_Mo_rowStep_228 : decode b_Mo_rowStep 228 = .ok (.iadd, 1) := by decide +kernel
theorem d_Mo_rowStep_229 : decode b_Mo_rowStep 229 = .ok (.iaload, 1) := by decide +kernel
theorem d_Mo_rowStep_230 : decode b_Mo_rowStep 230 = .ok (.iconst 0, 1) := by decide +kernel
theorem d_Mo_rowStep_231 : decode b_Mo_rowStep 231 = .ok (.invokevirtual 970, 3) := by decide +kernel
theorem d_Mo_rowStep_234 : decode b_Mo_rowStep 234 = .ok (.aload_n 0, 1) := by decide +kernel
theorem d_Mo_rowStep_235 : decode b_Mo_rowStep 235 = .ok (.getfield 917, 3) := by decide +kernel
theorem d_Mo_rowStep_238 : decode b_Mo_rowStep 238 = .ok (.getfield 930, 3) := by decide +kernel
theorem d_Mo_rowStep_241 : decode b_Mo_rowStep 241 = .ok (.iload_n 1, 1) := by decide +kernel
theorem d_Mo_rowStep_242 : decode b_Mo_rowStep 242 = .ok (.dup2, 1) := by decide +kernel
theorem d_Mo_rowStep_243 : decode b_Mo_rowStep 243 = .ok (.iaload, 1) := by decide +kernel
theorem d_Mo_rowStep_244 : decode b_Mo_rowStep 244 = .ok (.iconst 1, 1) := by decide +kernel
theorem d_Mo_rowStep_245 : decode b_Mo_rowStep 245 = .ok (.iadd, 1) := by decide +kernel
theorem d_Mo_rowStep_246 : decode b_Mo_rowStep 246 = .ok (.iastore, 1) := by decide +kernel
theorem d_Mo_rowStep_247 : decode b_Mo_rowStep 247 = .ok (.return_, 1) := by decide +kernel
abbrev ra_Mo_rowStep (mc ms : Nat) : Room := { frames := 8, cells := mc, slots := ms, locals := 220 }
def wja_Mo_rowStep_234 (mc ms : Nat) (Post : Ly → St → Nat → Nat → Prop) (a0 : Nat) (y_j234 : Ly) (s_j234 : St) (d_j234 e_j234 : Nat) (x1j234 : Int32) : Prop := (d_j234 ≤ mc ∧ e_j234 ≤ ms) ∧ ∃ b_7 : Nat, sO s_j234 a0 46 = some b_7 ∧ cl b_7 = 12 ∧ xA y_j234 s_j234 b_7 18 x1j234 (fun x_10 : Int32 => xS y_j234 s_j234 b_7 18 x1j234 (x_10 + 1) (fun s_11 : St => Post y_j234 s_11 d_j234 e_j234))
def wja_Mo_rowStep_230 (mc ms : Nat) (Post : Ly → St → Nat → Nat → Prop) (a0 : Nat) (y_j230 : Ly) (s_j230 : St) (d_j230 e_j230 : Nat) (x1j230 : Int32) (z1j230 : Int32) (z2j230 : Int32) : Prop := (d_j230 ≤ mc ∧ e_j230 ≤ ms) ∧ wu_Mo_push y_j230 (fun (s_13 : St) => wja_Mo_rowStep_234 mc ms Post a0 y_j230 s_13 d_j230 e_j230 x1j230) s_j230 a0 z1j230 z2j230 0
def wja_Mo_rowStep_165 (mc ms : Nat) (Post : Ly → St → Nat → Nat → Prop) (a0 : Nat) (y_j165 : Ly) (s_j165 : St) (d_j165 e_j165 : Nat) (x1j165 : Int32) (x2j165 : Int32) (x3j165 : Int32) (x4j165 : Int32) (x5j165 : Int32) (x6j165 : Int32) : Prop := (d_j165 ≤ mc ∧ e_j165 ≤ ms) ∧ ((¬ x2j165 = 44 → ((¬ x2j165 = 45 → ∃ b_14 : Nat, sO s_j165 a0 45 = some b_14 ∧ cl b_14 = 13 ∧ xA y_j165 s_j165 b_14 46 x5j165 (fun x_17 : Int32 => xA y_j165 s_j165 b_14 51 (x_17 + x4j165) (fun x_18 : Int32 => wja_Mo_rowStep_230 mc ms Post a0 y_j165 s_j165 d_j165 e_j165 x1j165 x1j165 x_18))) ∧ (x2j165 = 45 → wja_Mo_rowStep_230 mc ms Post a0 y_j165 s_j165 d_j165 e_j165 x1j165 x1j165 x6j165))) ∧ (x2j165 = 44 → ∃ b_19 : Nat, sO s_j165 a0 45 = some b_19 ∧ cl b_19 = 13 ∧ xA y_j165 s_j165 b_19 46 x5j165 (fun x_22 : Int32 => xS y_j165 s_j165 b_19 51 (x_22 + x4j165) x3j165 (fun s_23 : St => wja_Mo_rowStep_234 mc ms Post a0 y_j165 s_23 d_j165 e_j165 x1j165))))
def wja_Mo_rowStep_158 (mc ms : Nat) (Post : Ly → St → Nat → Nat → Prop) (a0 : Nat) (y_j158 : Ly) (s_j158 : St) (d_j158 e_j158 : Nat) : Prop := (d_j158 ≤ mc ∧ e_j158 ≤ ms) ∧ ∃ mc_29 ms_30 : Nat, (d_j158 + mc_29 ≤ mc ∧ e_j158 + ms_30 ≤ ms) ∧ wa_Mo_throwNew mc_29 ms_30 y_j158 (fun (y_26 : Ly) (s_25 : St) (d_27 e_28 : Nat) => (d_j158 + d_27 ≤ mc ∧ e_j158 + e_28 ≤ ms) ∧ Post y_26 s_25 (d_j158 + d_27) (e_j158 + e_28)) s_j158 a0 0 4
def wja_Mo_rowStep_83 (mc ms : Nat) (Post : Ly → St → Nat → Nat → Prop) (a0 : Nat) (y_j83 : Ly) (s_j83 : St) (d_j83 e_j83 : Nat) (z1j83 : Int32) (z2j83 : Int32) : Prop := (d_j83 ≤ mc ∧ e_j83 ≤ ms) ∧ ∃ mc_52 ms_53 : Nat, (d_j83 + mc_52 ≤ mc ∧ e_j83 + ms_53 ≤ ms) ∧ wa_Mo_throwNew mc_52 ms_53 y_j83 (fun (y_49 : Ly) (s_48 : St) (d_50 e_51 : Nat) => (d_j83 + d_50 ≤ mc ∧ e_j83 + e_51 ≤ ms) ∧ Post y_49 s_48 (d_j83 + d_50) (e_j83 + e_51)) s_j83 a0 z1j83 z2j83
def wja_Mo_rowStep_63 (mc ms : Nat) (Post : Ly → St → Nat → Nat → Prop) (a0 : Nat) (y_j63 : Ly) (s_j63 : St) (d_j63 e_j63 : Nat) (x1j63 : Int32) (x4j63 : Int32) (z0j63 : Int32) : Prop := (d_j63 ≤ mc ∧ e_j63 ≤ ms) ∧ ((0 ≤ z0j63 → wu_Mo_push y_j63 (fun (s_41 : St) => ∃ b_42 : Nat, sO s_41 a0 46 = some b_42 ∧ cl b_42 = 12 ∧ xA y_j63 s_41 b_42 18 x1j63 (fun x_45 : Int32 => xS y_j63 s_41 b_42 18 x1j63 (x_45 + 1) (fun s_46 : St => Post y_j63 s_46 d_j63 e_j63))) s_j63 a0 x1j63 z0j63 1) ∧ (¬ (0 ≤ z0j63) → ((0 ≤ x4j63 → wja_Mo_rowStep_83 mc ms Post a0 y_j63 s_j63 d_j63 e_j63 0 9) ∧ (¬ (0 ≤ x4j63) → wja_Mo_rowStep_83 mc ms Post a0 y_j63 s_j63 d_j63 e_j63 0 5))))
def wja_Mo_rowStep_52 (mc ms : Nat) (Post : Ly → St → Nat → Nat → Prop) (a0 : Nat) (y_j52 : Ly) (s_j52 : St) (d_j52 e_j52 : Nat) (x1j52 : Int32) (x4j52 : Int32) : Prop := (d_j52 ≤ mc ∧ e_j52 ≤ ms) ∧ wja_Mo_rowStep_63 mc ms Post a0 y_j52 s_j52 d_j52 e_j52 x1j52 x4j52 (-1)
def wja_Mo_rowStep_31 (mc ms : Nat) (Post : Ly → St → Nat → Nat → Prop) (a0 : Nat) (y_j31 : Ly) (s_j31 : St) (d_j31 e_j31 : Nat) (x1j31 : Int32) (x2j31 : Int32) (x3j31 : Int32) (z0j31 : Int32) : Prop := (d_j31 ≤ mc ∧ e_j31 ≤ ms) ∧ ((¬ x2j31 = 42 → wu_Mo_pop y_j31 (fun (s_2 : St) (r_1 : Int32) => ((¬ r_1 = 0 → ∃ b_3 : Nat, sO s_2 a0 45 = some b_3 ∧ cl b_3 = 13 ∧ xA y_j31 s_2 b_3 47 r_1 (fun x_6 : Int32 => ((x2j31 = 45 → wja_Mo_rowStep_165 mc ms Post a0 y_j31 s_2 d_j31 e_j31 x1j31 x2j31 x3j31 z0j31 r_1 x_6) ∧ (¬ (x2j31 = 45) → ((z0j31 < 0 → wja_Mo_rowStep_158 mc ms Post a0 y_j31 s_2 d_j31 e_j31) ∧ (¬ (z0j31 < 0) → ((z0j31 < x_6 → wja_Mo_rowStep_165 mc ms Post a0 y_j31 s_2 d_j31 e_j31 x1j31 x2j31 x3j31 z0j31 r_1 x_6) ∧ (¬ (z0j31 < x_6) → wja_Mo_rowStep_158 mc ms Post a0 y_j31 s_2 d_j31 e_j31)))))))) ∧ (r_1 = 0 → ∃ mc_37 ms_38 : Nat, (d_j31 + mc_37 ≤ mc ∧ e_j31 + ms_38 ≤ ms) ∧ wa_Mo_throwNew mc_37 ms_38 y_j31 (fun (y_34 : Ly) (s_33 : St) (d_35 e_36 : Nat) => (d_j31 + d_35 ≤ mc ∧ e_j31 + e_36 ≤ ms) ∧ Post y_34 s_33 (d_j31 + d_35) (e_j31 + e_36)) s_2 a0 0 2))) s_j31 a0 x1j31) ∧ (x2j31 = 42 → ((z0j31 < 0 → wja_Mo_rowStep_52 mc ms Post a0 y_j31 s_j31 d_j31 e_j31 x1j31 z0j31) ∧ (¬ (z0j31 < 0) → ((z0j31 ≤ 300 → wu_Mo_newThing y_j31 (fun (s_56 : St) (r_55 : Int32) => wja_Mo_rowStep_63 mc ms Post a0 y_j31 s_56 d_j31 e_j31 x1j31 z0j31 r_55) s_j31 a0 (-1) z0j31) ∧ (¬ (z0j31 ≤ 300) → wja_Mo_rowStep_52 mc ms Post a0 y_j31 s_j31 d_j31 e_j31 x1j31 z0j31))))))
def wja_Mo_rowStep_15 (mc ms : Nat) (Post : Ly → St → Nat → Nat → Prop) (a0 : Nat) (y_j15 : Ly) (s_j15 : St) (d_j15 e_j15 : Nat) (x1j15 : Int32) (x2j15 : Int32) (z0j15 : Int32) : Prop := (d_j15 ≤ mc ∧ e_j15 ≤ ms) ∧ ((¬ x2j15 = 45 → wu_Mo_pop y_j15 (fun (s_58 : St) (r_57 : Int32) => wja_Mo_rowStep_31 mc ms Post a0 y_j15 s_58 d_j15 e_j15 x1j15 x2j15 z0j15 r_57) s_j15 a0 x1j15) ∧ (x2j15 = 45 → wja_Mo_rowStep_31 mc ms Post a0 y_j15 s_j15 d_j15 e_j15 x1j15 x2j15 z0j15 0))
def wa_Mo_rowStep (mc ms : Nat) (y : Ly) (Post : Ly → St → Nat → Nat → Prop) (σ : St) (a0 : Nat) (v1 : Int32) (v2 : Int32) : Prop := ((¬ v2 = 44 → wja_Mo_rowStep_15 mc ms Post a0 y σ 0 0 v1 v2 0) ∧ (v2 = 44 → wu_Mo_pop y (fun (s_60 : St) (r_59 : Int32) => wja_Mo_rowStep_15 mc ms Post a0 y s_60 0 0 v1 v2 r_59) σ a0 v1))
set_option maxHeartbeats 4000000 in
set_option maxRecDepth 100000 in
theorem ca_Mo_rowStep (l : Launch) (D : va_G) (g : Nat → ClassId) (ad : Nat → Nat) (mc ms : Nat) (y : Ly) (Post : Ly → St → Nat → Nat → Prop) (σ : St) (a0 : Nat) (v1 : Int32) (v2 : Int32) (sz uz : Nat) (h_a0 : cl a0 = 14) (h : wa_Mo_rowStep mc ms y Post σ a0 v1 v2) : Met l y_Mo_rowStep (mw y_Mo_rowStep b_Mo_rowStep 7 (none)) (ra_Mo_rowStep mc ms) (PCu g D [] [.ref (ad a0), .int v1, .int v2] sz uz (ws g ad y σ)) (va_Qv (fun (u : Ly × St × Nat × Nat) => Post u.1 u.2.1 u.2.2.1 u.2.2.2) (QU D (va_A (ws g ad y σ) sz) (fun u => ws g ad u.1 u.2.1) sz uz (fun u => u.2.2.1) (fun u => u.2.2.2)) (va_A (ws g ad y σ) sz)) mc ms (va_A (ws g ad y σ) sz) := by
  refine ofVu (by decide +kernel) (Nat.le_of_ble_eq_true rfl) ?_
  intro p e s m args below meth c A Q ls H locs G hsz hP hD hS hl hret
  subst hsz
  have hl : lv_has ls 7 [(0, .ref (ad a0)), (1, .int v1), (2, .int v2)] := hl
  have hd : 0 ≤ mc ∧ 0 ≤ ms := ⟨Nat.zero_le _, Nat.zero_le _⟩
  unfold wa_Mo_rowStep at h
  refine lv_iload_n G.1 G.2.1 d_Mo_rowStep_0 rfl (lv_at hl 2 rfl) ?_
  refine lv_bipush (v := 44) G.1 G.2.1 d_Mo_rowStep_1 (by decide) ?_
  have J_15 : ∀ (y_j15 : Ly) (s_j15 : St) (d_j15 e_j15 : Nat) (x1j15 : Int32) (x2j15 : Int32) (z0j15 : Int32) (H : Heap) (locs : List Loc), wja_Mo_rowStep_15 mc ms Post a0 y_j15 s_j15 d_j15 e_j15 x1j15 x2j15 z0j15 → va_P D CL (ws g ad y_j15 s_j15) H → va_D A (ws g ad y_j15 s_j15) → va_S A s.heap H locs → ∀ ls, lv_has ls 7 [(0, .ref (ad a0)), (1, .int x1j15), (2, .int x2j15)] → W p l e (ra_Mo_rowStep mc ms) s m args below meth c H locs d_j15 e_j15 Q (F0 m 15 ls [.int z0j15]) := by
    intro y_j15 s_j15 d_j15 e_j15 x1j15 x2j15 z0j15 H locs h hP hD hS ls hl
    unfold wja_Mo_rowStep_15 at h
    obtain ⟨hd, h⟩ := h
    refine lv_istore_n (lv' := [(3, .int z0j15), (0, .ref (ad a0)), (1, .int x1j15), (2, .int x2j15)]) G.1 G.2.1 d_Mo_rowStep_15 rfl hl (by decide) rfl (fun ls hl => ?_)
    refine lv_iload_n G.1 G.2.1 d_Mo_rowStep_16 rfl (lv_at hl 3 rfl) ?_
    refine lv_bipush (v := 45) G.1 G.2.1 d_Mo_rowStep_17 (by decide) ?_
    have J_31 : ∀ (y_j31 : Ly) (s_j31 : St) (d_j31 e_j31 : Nat) (x1j31 : Int32) (x2j31 : Int32) (x3j31 : Int32) (z0j31 : Int32) (H : Heap) (locs : List Loc), wja_Mo_rowStep_31 mc ms Post a0 y_j31 s_j31 d_j31 e_j31 x1j31 x2j31 x3j31 z0j31 → va_P D CL (ws g ad y_j31 s_j31) H → va_D A (ws g ad y_j31 s_j31) → va_S A s.heap H locs → ∀ ls, lv_has ls 7 [(0, .ref (ad a0)), (1, .int x1j31), (2, .int x2j31), (3, .int x3j31)] → W p l e (ra_Mo_rowStep mc ms) s m args below meth c H locs d_j31 e_j31 Q (F0 m 31 ls [.int z0j31]) := by
      intro y_j31 s_j31 d_j31 e_j31 x1j31 x2j31 x3j31 z0j31 H locs h hP hD hS ls hl
      unfold wja_Mo_rowStep_31 at h
      obtain ⟨hd, h⟩ := h
      refine lv_istore (lv' := [(4, .int z0j31), (0, .ref (ad a0)), (1, .int x1j31), (2, .int x2j31), (3, .int x3j31)]) G.1 G.2.1 d_Mo_rowStep_31 hl (by decide) rfl (fun ls hl => ?_)
      refine lv_iload_n G.1 G.2.1 d_Mo_rowStep_33 rfl (lv_at hl 3 rfl) ?_
      refine lv_bipush (v := 42) G.1 G.2.1 d_Mo_rowStep_34 (by decide) ?_
      refine lv_icmp_ne (tgt := 109) G.1 G.2.1 d_Mo_rowStep_36 (by decide) (fun c36 => ?_) (fun c36 => ?_)
      · skip
        have h := h.1 c36
        refine lv_aload_n G.1 G.2.1 d_Mo_rowStep_109 rfl (lv_at hl 1 rfl) ?_
        refine lv_iload_n G.1 G.2.1 d_Mo_rowStep_110 rfl (lv_at hl 2 rfl) ?_
        refine ucVi (As := [.int x1j31]) (rest := []) G hP hD hS (cu_Mo_pop l D g ad y_j31 _ s_j31 a0 x1j31 H.size h_a0 h) w9_Mo_pop q3947 ⟨Nat.le_of_ble_eq_true rfl, Nat.le_of_ble_eq_true rfl⟩ rfl rfl h_a0 (q := (RMo, TMo, 131)) rfl rfl hl.1 rfl (Nat.le_of_ble_eq_true rfl) rfl hd d_Mo_rowStep_111 (fun r_1 s_2 H locs h hP hD hS => ?_)
        refine lv_istore (lv' := [(5, .int r_1), (4, .int z0j31), (0, .ref (ad a0)), (1, .int x1j31), (2, .int x2j31), (3, .int x3j31)]) G.1 G.2.1 d_Mo_rowStep_114 hl (by decide) rfl (fun ls hl => ?_)
        refine lv_iload G.1 G.2.1 d_Mo_rowStep_116 (lv_at hl 0 rfl) ?_
        refine lv_if_ne (tgt := 128) G.1 G.2.1 d_Mo_rowStep_118 (by decide) (fun c118 => ?_) (fun c118 => ?_)
        · skip
          have h := h.1 c118
          refine lv_aload_n G.1 G.2.1 d_Mo_rowStep_128 rfl (lv_at hl 2 rfl) ?_
          refine W.eq (g2 := F0 m 129 ls [.ref (ad a0)]) rfl ?_
          obtain ⟨b_3, e_4, c_5, h⟩ := h
          refine ugf (v := .ref (ad b_3)) G hP h_a0 iMo rfl 45 (by decide) rfl q3109 rfl (by show va_rf ((sO s_2 a0 45).map ad) = _; rw [e_4]; rfl) d_Mo_rowStep_129 ?_
          refine ugfN (v := .ref (yP y_j31 b_3 47)) G hP c_5 iMw rfl 47 (by decide) rfl q2794 rfl rfl d_Mo_rowStep_132 ?_
          refine lv_iload G.1 G.2.1 d_Mo_rowStep_135 (lv_at hl 0 rfl) ?_
          refine uiald G hP (kdp c_5 rfl) (typ c_5 rfl) h d_Mo_rowStep_137 (fun x_6 h => ?_)
          refine lv_istore (lv' := [(6, .int x_6), (5, .int r_1), (4, .int z0j31), (0, .ref (ad a0)), (1, .int x1j31), (2, .int x2j31), (3, .int x3j31)]) G.1 G.2.1 d_Mo_rowStep_138 hl (by decide) rfl (fun ls hl => ?_)
          refine lv_iload_n G.1 G.2.1 d_Mo_rowStep_140 rfl (lv_at hl 5 rfl) ?_
          refine lv_bipush (v := 45) G.1 G.2.1 d_Mo_rowStep_141 (by decide) ?_
          have J_165 : ∀ (y_j165 : Ly) (s_j165 : St) (d_j165 e_j165 : Nat) (x1j165 : Int32) (x2j165 : Int32) (x3j165 : Int32) (x4j165 : Int32) (x5j165 : Int32) (x6j165 : Int32) (H : Heap) (locs : List Loc), wja_Mo_rowStep_165 mc ms Post a0 y_j165 s_j165 d_j165 e_j165 x1j165 x2j165 x3j165 x4j165 x5j165 x6j165 → va_P D CL (ws g ad y_j165 s_j165) H → va_D A (ws g ad y_j165 s_j165) → va_S A s.heap H locs → ∀ ls, lv_has ls 7 [(0, .ref (ad a0)), (1, .int x1j165), (2, .int x2j165), (3, .int x3j165), (4, .int x4j165), (5, .int x5j165), (6, .int x6j165)] → W p l e (ra_Mo_rowStep mc ms) s m args below meth c H locs d_j165 e_j165 Q (F0 m 165 ls []) := by
            intro y_j165 s_j165 d_j165 e_j165 x1j165 x2j165 x3j165 x4j165 x5j165 x6j165 H locs h hP hD hS ls hl
            unfold wja_Mo_rowStep_165 at h
            obtain ⟨hd, h⟩ := h
            refine lv_iload_n G.1 G.2.1 d_Mo_rowStep_165 rfl (lv_at hl 2 rfl) ?_
            refine lv_bipush (v := 44) G.1 G.2.1 d_Mo_rowStep_166 (by decide) ?_
            have J_234 : ∀ (y_j234 : Ly) (s_j234 : St) (d_j234 e_j234 : Nat) (x1j234 : Int32) (H : Heap) (locs : List Loc), wja_Mo_rowStep_234 mc ms Post a0 y_j234 s_j234 d_j234 e_j234 x1j234 → va_P D CL (ws g ad y_j234 s_j234) H → va_D A (ws g ad y_j234 s_j234) → va_S A s.heap H locs → ∀ ls, lv_has ls 7 [(0, .ref (ad a0)), (1, .int x1j234)] → W p l e (ra_Mo_rowStep mc ms) s m args below meth c H locs d_j234 e_j234 Q (F0 m 234 ls []) := by
              intro y_j234 s_j234 d_j234 e_j234 x1j234 H locs h hP hD hS ls hl
              unfold wja_Mo_rowStep_234 at h
              obtain ⟨hd, h⟩ := h
              refine lv_aload_n G.1 G.2.1 d_Mo_rowStep_234 rfl (lv_at hl 0 rfl) ?_
              obtain ⟨b_7, e_8, c_9, h⟩ := h
              refine ugf (v := .ref (ad b_7)) G hP h_a0 iMo rfl 46 (by decide) rfl q3110 rfl (by show va_rf ((sO s_j234 a0 46).map ad) = _; rw [e_8]; rfl) d_Mo_rowStep_235 ?_
              refine ugfN (v := .ref (yP y_j234 b_7 18)) G hP c_9 iMr rfl 18 (by decide) rfl q3009 rfl rfl d_Mo_rowStep_238 ?_
              refine lv_iload_n G.1 G.2.1 d_Mo_rowStep_241 rfl (lv_at hl 1 rfl) ?_
              refine lv_dup2_11 G.1 G.2.1 d_Mo_rowStep_242 rfl rfl ?_
              refine uiald G hP (kdp c_9 rfl) (typ c_9 rfl) h d_Mo_rowStep_243 (fun x_10 h => ?_)
              refine lv_iconst (v := 1) G.1 G.2.1 d_Mo_rowStep_244 (by decide) ?_
              refine lv_iadd G.1 G.2.1 d_Mo_rowStep_245 ?_
              refine uiast G hP hD hS (kdp c_9 rfl) (typ c_9 rfl) h d_Mo_rowStep_246 (fun s_11 H locs h hP hD hS => ?_)
              exact hret (y_j234, s_11, d_j234, e_j234) _ _ _ _ _ ls h hP hD hS (Nat.le_refl _) (Nat.le_refl _) hd.1 hd.2 d_Mo_rowStep_247
            refine lv_icmp_ne (tgt := 196) G.1 G.2.1 d_Mo_rowStep_168 (by decide) (fun c168 => ?_) (fun c168 => ?_)
            · skip
              have h := h.1 c168
              refine lv_aload_n G.1 G.2.1 d_Mo_rowStep_196 rfl (lv_at hl 0 rfl) ?_
              refine lv_iload_n G.1 G.2.1 d_Mo_rowStep_197 rfl (lv_at hl 1 rfl) ?_
              refine lv_iload_n G.1 G.2.1 d_Mo_rowStep_198 rfl (lv_at hl 2 rfl) ?_
              refine lv_bipush (v := 45) G.1 G.2.1 d_Mo_rowStep_199 (by decide) ?_
              have J_230 : ∀ (y_j230 : Ly) (s_j230 : St) (d_j230 e_j230 : Nat) (x1j230 : Int32) (z1j230 : Int32) (z2j230 : Int32) (H : Heap) (locs : List Loc), wja_Mo_rowStep_230 mc ms Post a0 y_j230 s_j230 d_j230 e_j230 x1j230 z1j230 z2j230 → va_P D CL (ws g ad y_j230 s_j230) H → va_D A (ws g ad y_j230 s_j230) → va_S A s.heap H locs → ∀ ls, lv_has ls 7 [(0, .ref (ad a0)), (1, .int x1j230)] → W p l e (ra_Mo_rowStep mc ms) s m args below meth c H locs d_j230 e_j230 Q (F0 m 230 ls [.int z2j230, .int z1j230, .ref (ad a0)]) := by
                intro y_j230 s_j230 d_j230 e_j230 x1j230 z1j230 z2j230 H locs h hP hD hS ls hl
                unfold wja_Mo_rowStep_230 at h
                obtain ⟨hd, h⟩ := h
                refine lv_iconst (v := 0) G.1 G.2.1 d_Mo_rowStep_230 (by decide) ?_
                refine ucVv (As := [.int z1j230, .int z2j230, .int 0]) (rest := []) G hP hD hS (cu_Mo_push l D g ad y_j230 _ s_j230 a0 z1j230 z2j230 0 H.size h_a0 h) w9_Mo_push q3907 ⟨Nat.le_of_ble_eq_true rfl, Nat.le_of_ble_eq_true rfl⟩ rfl rfl h_a0 (q := (RMo, TMo, 131)) rfl rfl hl.1 rfl (Nat.le_of_ble_eq_true rfl) rfl hd d_Mo_rowStep_231 (fun s_13 H locs h hP hD hS => ?_)
                exact J_234 y_j230 s_13 d_j230 e_j230 x1j230 H locs h hP hD hS ls (lv_sub hl [0, 1] rfl)
              refine lv_icmp_ne (tgt := 209) G.1 G.2.1 d_Mo_rowStep_201 (by decide) (fun c201 => ?_) (fun c201 => ?_)
              · skip
                have h := h.1 c201
                refine lv_aload_n G.1 G.2.1 d_Mo_rowStep_209 rfl (lv_at hl 0 rfl) ?_
                obtain ⟨b_14, e_15, c_16, h⟩ := h
                refine ugf (v := .ref (ad b_14)) G hP h_a0 iMo rfl 45 (by decide) rfl q3109 rfl (by show va_rf ((sO s_j165 a0 45).map ad) = _; rw [e_15]; rfl) d_Mo_rowStep_210 ?_
                refine ugfN (v := .ref (yP y_j165 b_14 51)) G hP c_16 iMw rfl 51 (by decide) rfl q2801 rfl rfl d_Mo_rowStep_213 ?_
                refine W.eq (g2 := F0 m 216 ls [.ref (yP y_j165 b_14 51), .int x1j165, .ref (ad a0)]) rfl ?_
                refine lv_aload_n G.1 G.2.1 d_Mo_rowStep_216 rfl (lv_at hl 0 rfl) ?_
                refine ugf (v := .ref (ad b_14)) G hP h_a0 iMo rfl 45 (by decide) rfl q3109 rfl (by show va_rf ((sO s_j165 a0 45).map ad) = _; rw [e_15]; rfl) d_Mo_rowStep_217 ?_
                refine ugfN (v := .ref (yP y_j165 b_14 46)) G hP c_16 iMw rfl 46 (by decide) rfl q2792 rfl rfl d_Mo_rowStep_220 ?_
                refine lv_iload G.1 G.2.1 d_Mo_rowStep_223 (lv_at hl 5 rfl) ?_
                refine uiald G hP (kdp c_16 rfl) (typ c_16 rfl) h d_Mo_rowStep_225 (fun x_17 h => ?_)
                refine lv_iload G.1 G.2.1 d_Mo_rowStep_226 (lv_at hl 4 rfl) ?_
                refine lv_iadd G.1 G.2.1 d_Mo_rowStep_228 ?_
                refine uiald G hP (kdp c_16 rfl) (typ c_16 rfl) h d_Mo_rowStep_229 (fun x_18 h => ?_)
                exact J_230 y_j165 s_j165 d_j165 e_j165 x1j165 x1j165 x_18 H locs h hP hD hS ls (lv_sub hl [0, 1] rfl)
              · skip
                have h := h.2 c201
                refine lv_iload G.1 G.2.1 d_Mo_rowStep_204 (lv_at hl 6 rfl) ?_
                refine lv_goto (tgt := 230) G.1 G.2.1 d_Mo_rowStep_206 (by decide) ?_
                exact J_230 y_j165 s_j165 d_j165 e_j165 x1j165 x1j165 x6j165 H locs h hP hD hS ls (lv_sub hl [0, 1] rfl)
            · skip
              have h := h.2 c168
              refine lv_aload_n G.1 G.2.1 d_Mo_rowStep_171 rfl (lv_at hl 0 rfl) ?_
              obtain ⟨b_19, e_20, c_21, h⟩ := h
              refine ugf (v := .ref (ad b_19)) G hP h_a0 iMo rfl 45 (by decide) rfl q3109 rfl (by show va_rf ((sO s_j165 a0 45).map ad) = _; rw [e_20]; rfl) d_Mo_rowStep_172 ?_
              refine ugfN (v := .ref (yP y_j165 b_19 51)) G hP c_21 iMw rfl 51 (by decide) rfl q2801 rfl rfl d_Mo_rowStep_175 ?_
              refine lv_aload_n G.1 G.2.1 d_Mo_rowStep_178 rfl (lv_at hl 0 rfl) ?_
              refine ugf (v := .ref (ad b_19)) G hP h_a0 iMo rfl 45 (by decide) rfl q3109 rfl (by show va_rf ((sO s_j165 a0 45).map ad) = _; rw [e_20]; rfl) d_Mo_rowStep_179 ?_
              refine ugfN (v := .ref (yP y_j165 b_19 46)) G hP c_21 iMw rfl 46 (by decide) rfl q2792 rfl rfl d_Mo_rowStep_182 ?_
              refine lv_iload G.1 G.2.1 d_Mo_rowStep_185 (lv_at hl 5 rfl) ?_
              refine uiald G hP (kdp c_21 rfl) (typ c_21 rfl) h d_Mo_rowStep_187 (fun x_22 h => ?_)
              refine W.eq (g2 := F0 m 188 ls [.int x_22, .ref (yP y_j165 b_19 51)]) rfl ?_
              refine lv_iload G.1 G.2.1 d_Mo_rowStep_188 (lv_at hl 4 rfl) ?_
              refine lv_iadd G.1 G.2.1 d_Mo_rowStep_190 ?_
              refine lv_iload_n G.1 G.2.1 d_Mo_rowStep_191 rfl (lv_at hl 3 rfl) ?_
              refine uiast G hP hD hS (kdp c_21 rfl) (typ c_21 rfl) h d_Mo_rowStep_192 (fun s_23 H locs h hP hD hS => ?_)
              refine lv_goto (tgt := 234) G.1 G.2.1 d_Mo_rowStep_193 (by decide) ?_
              exact J_234 y_j165 s_23 d_j165 e_j165 x1j165 H locs h hP hD hS ls (lv_sub hl [0, 1] rfl)
          refine lv_icmp_eq (tgt := 165) G.1 G.2.1 d_Mo_rowStep_143 (by decide) (fun c143 => ?_) (fun c143 => ?_)
          · skip
            have h := h.1 c143
            exact J_165 y_j31 s_2 d_j31 e_j31 x1j31 x2j31 x3j31 z0j31 r_1 x_6 H locs h hP hD hS ls (lv_sub hl [3, 4, 5, 6, 2, 1, 0] rfl)
          · skip
            have h := h.2 c143
            refine lv_iload G.1 G.2.1 d_Mo_rowStep_146 (lv_at hl 2 rfl) ?_
            have J_158 : ∀ (y_j158 : Ly) (s_j158 : St) (d_j158 e_j158 : Nat) (H : Heap) (locs : List Loc), wja_Mo_rowStep_158 mc ms Post a0 y_j158 s_j158 d_j158 e_j158 → va_P D CL (ws g ad y_j158 s_j158) H → va_D A (ws g ad y_j158 s_j158) → va_S A s.heap H locs → ∀ ls, lv_has ls 7 [(0, .ref (ad a0))] → W p l e (ra_Mo_rowStep mc ms) s m args below meth c H locs d_j158 e_j158 Q (F0 m 158 ls []) := by
              intro y_j158 s_j158 d_j158 e_j158 H locs h hP hD hS ls hl
              unfold wja_Mo_rowStep_158 at h
              obtain ⟨hd, h⟩ := h
              refine lv_aload_n G.1 G.2.1 d_Mo_rowStep_158 rfl (lv_at hl 0 rfl) ?_
              refine lv_iconst (v := 0) G.1 G.2.1 d_Mo_rowStep_159 (by decide) ?_
              refine lv_iconst (v := 4) G.1 G.2.1 d_Mo_rowStep_160 (by decide) ?_
              obtain ⟨mc_29, ms_30, hr_31, h⟩ := h
              refine uaVv (As := [.int 0, .int 4]) (rest := []) G hP hD hS (ca_Mo_throwNew l D g ad mc_29 ms_30 y_j158 _ s_j158 a0 0 4 H.size (us H) h_a0 h) w9_Mo_throwNew q3883 ⟨Nat.le_of_ble_eq_true rfl, Nat.le_of_ble_eq_true rfl⟩ rfl rfl h_a0 (q := (RMo, TMo, 131)) rfl rfl hl.1 rfl (Nat.le_of_ble_eq_true rfl) rfl hr_31 d_Mo_rowStep_161 (fun y_26 s_25 d_27 e_28 H locs h hP hD hS => ?_)
              have hl := lv_sub (l' := []) hl [] rfl
              obtain ⟨hd, h⟩ := h
              exact hret (y_26, s_25, d_j158 + d_27, e_j158 + e_28) _ _ _ _ _ ls h hP hD hS (Nat.le_refl _) (Nat.le_refl _) hd.1 hd.2 d_Mo_rowStep_164
            refine lv_if_lt (tgt := 158) G.1 G.2.1 d_Mo_rowStep_148 (by decide) (fun c148 => ?_) (fun c148 => ?_)
            · skip
              have h := h.1 c148
              exact J_158 y_j31 s_2 d_j31 e_j31 H locs h hP hD hS ls (lv_sub hl [3] rfl)
            · skip
              have h := h.2 c148
              refine lv_iload G.1 G.2.1 d_Mo_rowStep_151 (lv_at hl 2 rfl) ?_
              refine lv_iload G.1 G.2.1 d_Mo_rowStep_153 (lv_at hl 0 rfl) ?_
              refine W.eq (g2 := F0 m 155 ls [.int x_6, .int z0j31]) rfl ?_
              refine lv_icmp_lt (tgt := 165) G.1 G.2.1 d_Mo_rowStep_155 (by decide) (fun c155 => ?_) (fun c155 => ?_)
              · skip
                have h := h.1 c155
                exact J_165 y_j31 s_2 d_j31 e_j31 x1j31 x2j31 x3j31 z0j31 r_1 x_6 H locs h hP hD hS ls (lv_sub hl [3, 4, 5, 6, 2, 1, 0] rfl)
              · skip
                have h := h.2 c155
                exact J_158 y_j31 s_2 d_j31 e_j31 H locs h hP hD hS ls (lv_sub hl [3] rfl)
        · skip
          have h := h.2 c118
          refine lv_aload_n G.1 G.2.1 d_Mo_rowStep_121 rfl (lv_at hl 2 rfl) ?_
          refine W.eq (g2 := F0 m 122 ls [.ref (ad a0)]) rfl ?_
          refine lv_iconst (v := 0) G.1 G.2.1 d_Mo_rowStep_122 (by decide) ?_
          refine lv_iconst (v := 2) G.1 G.2.1 d_Mo_rowStep_123 (by decide) ?_
          obtain ⟨mc_37, ms_38, hr_39, h⟩ := h
          refine uaVv (As := [.int 0, .int 2]) (rest := []) G hP hD hS (ca_Mo_throwNew l D g ad mc_37 ms_38 y_j31 _ s_2 a0 0 2 H.size (us H) h_a0 h) w9_Mo_throwNew q3883 ⟨Nat.le_of_ble_eq_true rfl, Nat.le_of_ble_eq_true rfl⟩ rfl rfl h_a0 (q := (RMo, TMo, 131)) rfl rfl hl.1 rfl (Nat.le_of_ble_eq_true rfl) rfl hr_39 d_Mo_rowStep_124 (fun y_34 s_33 d_35 e_36 H locs h hP hD hS => ?_)
          have hl := lv_sub (l' := []) hl [] rfl
          obtain ⟨hd, h⟩ := h
          exact hret (y_34, s_33, d_j31 + d_35, e_j31 + e_36) _ _ _ _ _ ls h hP hD hS (Nat.le_refl _) (Nat.le_refl _) hd.1 hd.2 d_Mo_rowStep_127
      · skip
        have h := h.2 c36
        refine lv_iload G.1 G.2.1 d_Mo_rowStep_39 (lv_at hl 0 rfl) ?_
        have J_63 : ∀ (y_j63 : Ly) (s_j63 : St) (d_j63 e_j63 : Nat) (x1j63 : Int32) (x4j63 : Int32) (z0j63 : Int32) (H : Heap) (locs : List Loc), wja_Mo_rowStep_63 mc ms Post a0 y_j63 s_j63 d_j63 e_j63 x1j63 x4j63 z0j63 → va_P D CL (ws g ad y_j63 s_j63) H → va_D A (ws g ad y_j63 s_j63) → va_S A s.heap H locs → ∀ ls, lv_has ls 7 [(0, .ref (ad a0)), (1, .int x1j63), (4, .int x4j63)] → W p l e (ra_Mo_rowStep mc ms) s m args below meth c H locs d_j63 e_j63 Q (F0 m 63 ls [.int z0j63]) := by
          intro y_j63 s_j63 d_j63 e_j63 x1j63 x4j63 z0j63 H locs h hP hD hS ls hl
          unfold wja_Mo_rowStep_63 at h
          obtain ⟨hd, h⟩ := h
          refine lv_istore (lv' := [(5, .int z0j63), (0, .ref (ad a0)), (1, .int x1j63), (4, .int x4j63)]) G.1 G.2.1 d_Mo_rowStep_63 hl (by decide) rfl (fun ls hl => ?_)
          refine lv_iload G.1 G.2.1 d_Mo_rowStep_65 (lv_at hl 0 rfl) ?_
          refine lv_if_ge (tgt := 87) G.1 G.2.1 d_Mo_rowStep_67 (by decide) (fun c67 => ?_) (fun c67 => ?_)
          · skip
            have h := h.1 c67
            refine lv_aload_n G.1 G.2.1 d_Mo_rowStep_87 rfl (lv_at hl 1 rfl) ?_
            refine lv_iload_n G.1 G.2.1 d_Mo_rowStep_88 rfl (lv_at hl 2 rfl) ?_
            refine lv_iload G.1 G.2.1 d_Mo_rowStep_89 (lv_at hl 0 rfl) ?_
            refine lv_iconst (v := 1) G.1 G.2.1 d_Mo_rowStep_91 (by decide) ?_
            refine ucVv (As := [.int x1j63, .int z0j63, .int 1]) (rest := []) G hP hD hS (cu_Mo_push l D g ad y_j63 _ s_j63 a0 x1j63 z0j63 1 H.size h_a0 h) w9_Mo_push q3907 ⟨Nat.le_of_ble_eq_true rfl, Nat.le_of_ble_eq_true rfl⟩ rfl rfl h_a0 (q := (RMo, TMo, 131)) rfl rfl hl.1 rfl (Nat.le_of_ble_eq_true rfl) rfl hd d_Mo_rowStep_92 (fun s_41 H locs h hP hD hS => ?_)
            refine lv_aload_n G.1 G.2.1 d_Mo_rowStep_95 rfl (lv_at hl 1 rfl) ?_
            obtain ⟨b_42, e_43, c_44, h⟩ := h
            refine ugf (v := .ref (ad b_42)) G hP h_a0 iMo rfl 46 (by decide) rfl q3110 rfl (by show va_rf ((sO s_41 a0 46).map ad) = _; rw [e_43]; rfl) d_Mo_rowStep_96 ?_
            refine ugfN (v := .ref (yP y_j63 b_42 18)) G hP c_44 iMr rfl 18 (by decide) rfl q3009 rfl rfl d_Mo_rowStep_99 ?_
            refine W.eq (g2 := F0 m 102 ls [.ref (yP y_j63 b_42 18)]) rfl ?_
            refine lv_iload_n G.1 G.2.1 d_Mo_rowStep_102 rfl (lv_at hl 2 rfl) ?_
            refine lv_dup2_11 G.1 G.2.1 d_Mo_rowStep_103 rfl rfl ?_
            refine uiald G hP (kdp c_44 rfl) (typ c_44 rfl) h d_Mo_rowStep_104 (fun x_45 h => ?_)
            refine lv_iconst (v := 1) G.1 G.2.1 d_Mo_rowStep_105 (by decide) ?_
            refine lv_iadd G.1 G.2.1 d_Mo_rowStep_106 ?_
            refine uiast G hP hD hS (kdp c_44 rfl) (typ c_44 rfl) h d_Mo_rowStep_107 (fun s_46 H locs h hP hD hS => ?_)
            exact hret (y_j63, s_46, d_j63, e_j63) _ _ _ _ _ ls h hP hD hS (Nat.le_refl _) (Nat.le_refl _) hd.1 hd.2 d_Mo_rowStep_108
          · skip
            have h := h.2 c67
            refine lv_aload_n G.1 G.2.1 d_Mo_rowStep_70 rfl (lv_at hl 1 rfl) ?_
            refine lv_iconst (v := 0) G.1 G.2.1 d_Mo_rowStep_71 (by decide) ?_
            refine lv_iload G.1 G.2.1 d_Mo_rowStep_72 (lv_at hl 3 rfl) ?_
            have J_83 : ∀ (y_j83 : Ly) (s_j83 : St) (d_j83 e_j83 : Nat) (z1j83 : Int32) (z2j83 : Int32) (H : Heap) (locs : List Loc), wja_Mo_rowStep_83 mc ms Post a0 y_j83 s_j83 d_j83 e_j83 z1j83 z2j83 → va_P D CL (ws g ad y_j83 s_j83) H → va_D A (ws g ad y_j83 s_j83) → va_S A s.heap H locs → ∀ ls, lv_has ls 7 [] → W p l e (ra_Mo_rowStep mc ms) s m args below meth c H locs d_j83 e_j83 Q (F0 m 83 ls [.int z2j83, .int z1j83, .ref (ad a0)]) := by
              intro y_j83 s_j83 d_j83 e_j83 z1j83 z2j83 H locs h hP hD hS ls hl
              unfold wja_Mo_rowStep_83 at h
              obtain ⟨hd, h⟩ := h
              obtain ⟨mc_52, ms_53, hr_54, h⟩ := h
              refine uaVv (As := [.int z1j83, .int z2j83]) (rest := []) G hP hD hS (ca_Mo_throwNew l D g ad mc_52 ms_53 y_j83 _ s_j83 a0 z1j83 z2j83 H.size (us H) h_a0 h) w9_Mo_throwNew q3883 ⟨Nat.le_of_ble_eq_true rfl, Nat.le_of_ble_eq_true rfl⟩ rfl rfl h_a0 (q := (RMo, TMo, 131)) rfl rfl hl.1 rfl (Nat.le_of_ble_eq_true rfl) rfl hr_54 d_Mo_rowStep_83 (fun y_49 s_48 d_50 e_51 H locs h hP hD hS => ?_)
              obtain ⟨hd, h⟩ := h
              exact hret (y_49, s_48, d_j83 + d_50, e_j83 + e_51) _ _ _ _ _ ls h hP hD hS (Nat.le_refl _) (Nat.le_refl _) hd.1 hd.2 d_Mo_rowStep_86
            refine lv_if_ge (tgt := 81) G.1 G.2.1 d_Mo_rowStep_74 (by decide) (fun c74 => ?_) (fun c74 => ?_)
            · skip
              have h := h.1 c74
              refine lv_bipush (v := 9) G.1 G.2.1 d_Mo_rowStep_81 (by decide) ?_
              exact J_83 y_j63 s_j63 d_j63 e_j63 0 9 H locs h hP hD hS ls (lv_sub hl [] rfl)
            · skip
              have h := h.2 c74
              refine lv_iconst (v := 5) G.1 G.2.1 d_Mo_rowStep_77 (by decide) ?_
              refine lv_goto (tgt := 83) G.1 G.2.1 d_Mo_rowStep_78 (by decide) ?_
              exact J_83 y_j63 s_j63 d_j63 e_j63 0 5 H locs h hP hD hS ls (lv_sub hl [] rfl)
        have J_52 : ∀ (y_j52 : Ly) (s_j52 : St) (d_j52 e_j52 : Nat) (x1j52 : Int32) (x4j52 : Int32) (H : Heap) (locs : List Loc), wja_Mo_rowStep_52 mc ms Post a0 y_j52 s_j52 d_j52 e_j52 x1j52 x4j52 → va_P D CL (ws g ad y_j52 s_j52) H → va_D A (ws g ad y_j52 s_j52) → va_S A s.heap H locs → ∀ ls, lv_has ls 7 [(0, .ref (ad a0)), (1, .int x1j52), (4, .int x4j52)] → W p l e (ra_Mo_rowStep mc ms) s m args below meth c H locs d_j52 e_j52 Q (F0 m 52 ls []) := by
          intro y_j52 s_j52 d_j52 e_j52 x1j52 x4j52 H locs h hP hD hS ls hl
          unfold wja_Mo_rowStep_52 at h
          obtain ⟨hd, h⟩ := h
          refine lv_iconst (v := (-1)) G.1 G.2.1 d_Mo_rowStep_52 (by decide) ?_
          refine lv_goto (tgt := 63) G.1 G.2.1 d_Mo_rowStep_53 (by decide) ?_
          exact J_63 y_j52 s_j52 d_j52 e_j52 x1j52 x4j52 (-1) H locs h hP hD hS ls (lv_sub hl [0, 1, 2] rfl)
        refine lv_if_lt (tgt := 52) G.1 G.2.1 d_Mo_rowStep_41 (by decide) (fun c41 => ?_) (fun c41 => ?_)
        · skip
          have h := h.1 c41
          exact J_52 y_j31 s_j31 d_j31 e_j31 x1j31 z0j31 H locs h hP hD hS ls (lv_sub hl [1, 2, 0] rfl)
        · skip
          have h := h.2 c41
          refine lv_iload G.1 G.2.1 d_Mo_rowStep_44 (lv_at hl 0 rfl) ?_
          refine lv_sipush (v := 300) G.1 G.2.1 d_Mo_rowStep_46 (by decide) ?_
          refine lv_icmp_le (tgt := 56) G.1 G.2.1 d_Mo_rowStep_49 (by decide) (fun c49 => ?_) (fun c49 => ?_)
          · skip
            have h := h.1 c49
            refine lv_aload_n G.1 G.2.1 d_Mo_rowStep_56 rfl (lv_at hl 1 rfl) ?_
            refine lv_iconst (v := (-1)) G.1 G.2.1 d_Mo_rowStep_57 (by decide) ?_
            refine W.eq (g2 := F0 m 58 ls [.int (-1), .ref (ad a0)]) rfl ?_
            refine lv_iload G.1 G.2.1 d_Mo_rowStep_58 (lv_at hl 0 rfl) ?_
            refine ucVi (As := [.int (-1), .int z0j31]) (rest := []) G hP hD hS (cu_Mo_newThing l D g ad y_j31 _ s_j31 a0 (-1) z0j31 H.size h_a0 h) w9_Mo_newThing q3975 ⟨Nat.le_of_ble_eq_true rfl, Nat.le_of_ble_eq_true rfl⟩ rfl rfl h_a0 (q := (RMo, TMo, 131)) rfl rfl hl.1 rfl (Nat.le_of_ble_eq_true rfl) rfl hd d_Mo_rowStep_60 (fun r_55 s_56 H locs h hP hD hS => ?_)
            exact J_63 y_j31 s_56 d_j31 e_j31 x1j31 z0j31 r_55 H locs h hP hD hS ls (lv_sub hl [1, 2, 0] rfl)
          · skip
            have h := h.2 c49
            exact J_52 y_j31 s_j31 d_j31 e_j31 x1j31 z0j31 H locs h hP hD hS ls (lv_sub hl [1, 2, 0] rfl)
    refine lv_icmp_ne (tgt := 26) G.1 G.2.1 d_Mo_rowStep_19 (by decide) (fun c19 => ?_) (fun c19 => ?_)
    · skip
      have h := h.1 c19
      refine lv_aload_n G.1 G.2.1 d_Mo_rowStep_26 rfl (lv_at hl 1 rfl) ?_
      refine lv_iload_n G.1 G.2.1 d_Mo_rowStep_27 rfl (lv_at hl 2 rfl) ?_
      refine ucVi (As := [.int x1j15]) (rest := []) G hP hD hS (cu_Mo_pop l D g ad y_j15 _ s_j15 a0 x1j15 H.size h_a0 h) w9_Mo_pop q3947 ⟨Nat.le_of_ble_eq_true rfl, Nat.le_of_ble_eq_true rfl⟩ rfl rfl h_a0 (q := (RMo, TMo, 131)) rfl rfl hl.1 rfl (Nat.le_of_ble_eq_true rfl) rfl hd d_Mo_rowStep_28 (fun r_57 s_58 H locs h hP hD hS => ?_)
      exact J_31 y_j15 s_58 d_j15 e_j15 x1j15 x2j15 z0j15 r_57 H locs h hP hD hS ls (lv_sub hl [1, 2, 3, 0] rfl)
    · skip
      have h := h.2 c19
      refine lv_iconst (v := 0) G.1 G.2.1 d_Mo_rowStep_22 (by decide) ?_
      refine lv_goto (tgt := 31) G.1 G.2.1 d_Mo_rowStep_23 (by decide) ?_
      exact J_31 y_j15 s_j15 d_j15 e_j15 x1j15 x2j15 z0j15 0 H locs h hP hD hS ls (lv_sub hl [1, 2, 3, 0] rfl)
  refine lv_icmp_ne (tgt := 14) G.1 G.2.1 d_Mo_rowStep_3 (by decide) (fun c3 => ?_) (fun c3 => ?_)
  · skip
    have h := h.1 c3
    refine lv_iconst (v := 0) G.1 G.2.1 d_Mo_rowStep_14 (by decide) ?_
    exact J_15 y σ 0 0 v1 v2 0 H locs h hP hD hS ls (lv_sub hl [0, 1, 2] rfl)
  · skip
    have h := h.2 c3
    refine lv_aload_n G.1 G.2.1 d_Mo_rowStep_6 rfl (lv_at hl 0 rfl) ?_
    refine lv_iload_n G.1 G.2.1 d_Mo_rowStep_7 rfl (lv_at hl 1 rfl) ?_
    refine ucVi (As := [.int v1]) (rest := []) G hP hD hS (cu_Mo_pop l D g ad y _ σ a0 v1 H.size h_a0 h) w9_Mo_pop q3947 ⟨Nat.le_of_ble_eq_true rfl, Nat.le_of_ble_eq_true rfl⟩ rfl rfl h_a0 (q := (RMo, TMo, 131)) rfl rfl hl.1 rfl (Nat.le_of_ble_eq_true rfl) rfl hd d_Mo_rowStep_8 (fun r_59 s_60 H locs h hP hD hS => ?_)
    refine lv_goto (tgt := 15) G.1 G.2.1 d_Mo_rowStep_11 (by decide) ?_
    exact J_15 y s_60 0 0 v1 v2 r_59 H locs h hP hD hS ls (lv_sub hl [0, 1, 2] rfl)
def y_Mo_put : MethodName := ⟨"ClassWorksModel", "put", "(I)V"⟩
abbrev b_Mo_put : ByteArray := prog_14_method_155_code
theorem d_Mo_put_0 : decode b_Mo_put 0 = .ok (.aload_n 0, 1) := by decide +kernel
theorem d_Mo_put_1 : decode b_Mo_put 1 = .ok (.aload_n 0, 1) := by decide +kernel
theorem d_Mo_put_2 : decode b_Mo_put 2 = .ok (.getfield 323, 3) := by decide +kernel
theorem d_Mo_put_5 : decode b_Mo_put 5 = .ok (.aload_n 0, 1) := by decide +kernel
theorem d_Mo_put_6 : decode b_Mo_put 6 = .ok (.getfield 1176, 3) := by decide +kernel
theorem d_Mo_put_9 : decode b_Mo_put 9 = .ok (.iconst 1, 1) := by decide +kernel
theorem d_Mo_put_10 : decode b_Mo_put 10 = .ok (.iadd, 1) := by decide +kernel
theorem d_Mo_put_11 : decode b_Mo_put 11 = .ok (.invokestatic 36, 3) := by decide +kernel
theorem d_Mo_put_14 : decode b_Mo_put 14 = .ok (.putfield 323, 3) := by decide +kernel
theorem d_Mo_put_17 : decode b_Mo_put 17 = .ok (.aload_n 0, 1) := by decide +kernel
theorem d_Mo_put_18 : decode b_Mo_put 18 = .ok (.getfield 323, 3) := by decide +kernel
theorem d_Mo_put_21 : decode b_Mo_put 21 = .ok (.aload_n 0, 1) := by decide +kernel
theorem d_Mo_put_22 : decode b_Mo_put 22 = .ok (.getfield 1176, 3) := by decide +kernel
theorem d_Mo_put_25 : decode b_Mo_put 25 = .ok (.iload_n 1, 1) := by decide +kernel
theorem d_Mo_put_26 : decode b_Mo_put 26 = .ok (.i2b, 1) := by decide +kernel
theorem d_Mo_put_27 : decode b_Mo_put 27 = .ok (.bastore, 1) := by decide +kernel
theorem d_Mo_put_28 : decode b_Mo_put 28 = .ok (.aload_n 0, 1) := by decide +kernel
theorem d_Mo_put_29 : decode b_Mo_put 29 = .ok (.dup, 1) := by decide +kernel
theorem d_Mo_put_30 : decode b_Mo_put 30 = .ok (.getfield 1176, 3) := by decide +kernel
theorem d_Mo_put_33 : decode b_Mo_put 33 = .ok (.iconst 1, 1) := by decide +kernel
theorem d_Mo_put_34 : decode b_Mo_put 34 = .ok (.iadd, 1) := by decide +kernel
theorem d_Mo_put_35 : decode b_Mo_put 35 = .ok (.putfield 1176, 3) := by decide +kernel
theorem d_Mo_put_38 : decode b_Mo_put 38 = .ok (.return_, 1) := by decide +kernel
abbrev ra_Mo_put (mc ms : Nat) : Room := { frames := 2, cells := mc, slots := ms, locals := 150 }
def wa_Mo_put (mc ms : Nat) (y : Ly) (Post : Ly → St → Nat → Nat → Prop) (σ : St) (a0 : Nat) (v1 : Int32) : Prop := xR mc ms 0 0 .byte y σ a0 94 ((sV σ a0 95) + 1) (fun (y_1 : Ly) (s_2 : St) (d_3 e_4 : Nat) => (d_3 ≤ mc ∧ e_4 ≤ ms) ∧ xS y_1 s_2 a0 94 (sV s_2 a0 95) (vp_nar .byte v1.toInt8.toInt32) (fun s_5 : St => xP (uV s_5 a0 95 ((sV s_5 a0 95) + 1)) (fun s_6 : St => Post y_1 s_6 d_3 e_4)))
set_option maxHeartbeats 4000000 in
set_option maxRecDepth 100000 in
theorem ca_Mo_put (l : Launch) (D : va_G) (g : Nat → ClassId) (ad : Nat → Nat) (mc ms : Nat) (y : Ly) (Post : Ly → St → Nat → Nat → Prop) (σ : St) (a0 : Nat) (v1 : Int32) (sz uz : Nat) (h_a0 : cl a0 = 14) (h : wa_Mo_put mc ms y Post σ a0 v1) : Met l y_Mo_put (mw y_Mo_put b_Mo_put 2 (none)) (ra_Mo_put mc ms) (PCu g D [] [.ref (ad a0), .int v1] sz uz (ws g ad y σ)) (va_Qv (fun (u : Ly × St × Nat × Nat) => Post u.1 u.2.1 u.2.2.1 u.2.2.2) (QU D (va_A (ws g ad y σ) sz) (fun u => ws g ad u.1 u.2.1) sz uz (fun u => u.2.2.1) (fun u => u.2.2.2)) (va_A (ws g ad y σ) sz)) mc ms (va_A (ws g ad y σ) sz) := by
  refine ofVu (by decide +kernel) (Nat.le_of_ble_eq_true rfl) ?_
  intro p e s m args below meth c A Q ls H locs G hsz hP hD hS hl hret
  subst hsz
  have hl : lv_has ls 2 [(0, .ref (ad a0)), (1, .int v1)] := hl
  have hd : 0 ≤ mc ∧ 0 ≤ ms := ⟨Nat.zero_le _, Nat.zero_le _⟩
  unfold wa_Mo_put at h
  refine lv_aload_n G.1 G.2.1 d_Mo_put_0 rfl (lv_at hl 0 rfl) ?_
  refine lv_aload_n G.1 G.2.1 d_Mo_put_1 rfl (lv_at hl 0 rfl) ?_
  refine ugf (v := .ref (yP y a0 94)) G hP h_a0 iMo rfl 94 (by decide) rfl q3158 rfl rfl d_Mo_put_2 ?_
  refine lv_aload_n G.1 G.2.1 d_Mo_put_5 rfl (lv_at hl 0 rfl) ?_
  refine ugf (v := .int (sV σ a0 95)) G hP h_a0 iMo rfl 95 (by decide) rfl q3159 rfl rfl d_Mo_put_6 ?_
  refine lv_iconst (v := 1) G.1 G.2.1 d_Mo_put_9 (by decide) ?_
  refine lv_iadd G.1 G.2.1 d_Mo_put_10 ?_
  refine uroom (C := RMo) (T := TMo) (N := 131) G hP hD hS (fun ws0 q1 q t n f sz he ht hn => c_Mo_roomy_k l D g ws0 q1 q t n f sz he ht hn) (fun ws0 q1 q t n f sz he hn ht hf => c_Mo_roomy_g l D g ws0 q1 q t n f sz he hn ht hf) w9_Mo_roomy q2591 ⟨Nat.le_of_ble_eq_true rfl, Nat.le_of_ble_eq_true rfl⟩ (Nat.le_refl _) (Nat.le_refl _) hd h_a0 rfl rfl iMo tMo tMo_ok nMo rfl (by decide) q3158 rfl rfl (fun _ => rfl) (fun _ => rfl) hl.1 (Nat.le_of_ble_eq_true rfl) h d_Mo_put_11 d_Mo_put_14 (fun y_1 s_2 d_3 e_4 H locs h hP hD hS => ?_)
  obtain ⟨hd, h⟩ := h
  refine lv_aload_n G.1 G.2.1 d_Mo_put_17 rfl (lv_at hl 0 rfl) ?_
  refine ugf (v := .ref (yP y_1 a0 94)) G hP h_a0 iMo rfl 94 (by decide) rfl q3158 rfl rfl d_Mo_put_18 ?_
  refine lv_aload_n G.1 G.2.1 d_Mo_put_21 rfl (lv_at hl 0 rfl) ?_
  refine W.eq (g2 := F0 m 22 ls [.ref (ad a0), .ref (yP y_1 a0 94)]) rfl ?_
  refine ugf (v := .int (sV s_2 a0 95)) G hP h_a0 iMo rfl 95 (by decide) rfl q3159 rfl rfl d_Mo_put_22 ?_
  refine lv_iload_n G.1 G.2.1 d_Mo_put_25 rfl (lv_at hl 1 rfl) ?_
  refine lv_i2b G.1 G.2.1 d_Mo_put_26 rfl ?_
  refine ubast G hP hD hS (kdp h_a0 rfl) (typ h_a0 rfl) h d_Mo_put_27 (fun s_5 H locs h hP hD hS => ?_)
  refine lv_aload_n G.1 G.2.1 d_Mo_put_28 rfl (lv_at hl 0 rfl) ?_
  refine lv_dup G.1 G.2.1 d_Mo_put_29 rfl ?_
  refine ugf (v := .int (sV s_5 a0 95)) G hP h_a0 iMo rfl 95 (by decide) rfl q3159 rfl rfl d_Mo_put_30 ?_
  refine lv_iconst (v := 1) G.1 G.2.1 d_Mo_put_33 (by decide) ?_
  refine lv_iadd G.1 G.2.1 d_Mo_put_34 ?_
  refine upf G hP hD hS h 95 putV h_a0 iMo tMo tMo_ok nMo rfl (by decide) rfl q3159 rfl rfl fV rfl rfl d_Mo_put_35 (fun s_6 H locs h hP hD hS => ?_)
  exact hret (y_1, s_6, d_3, e_4) _ _ _ _ _ ls h hP hD hS (Nat.le_refl _) (Nat.le_refl _) hd.1 hd.2 d_Mo_put_38
theorem q4055 : Cond.methodLink "ClassWorksModel" 1179 y_Mo_put ∈ lw_ok := lw_okmem (List.mem_of_getElem? (i := 4055) (by decide +kernel)) rfl
theorem q4058 : Cond.code y_Mo_put b_Mo_put 2 (none) ∈ lw_ok := lw_okmem (List.mem_of_getElem? (i := 4058) (by decide +kernel)) rfl
theorem q4057 : Cond.instanceMethod y_Mo_put ∈ lw_ok := lw_okmem (List.mem_of_getElem? (i := 4057) (by decide +kernel)) rfl
theorem q296 : Cond.selects y_Mo_put.cls y_Mo_put y_Mo_put ∈ lw_ok := lw_okmem (List.mem_of_getElem? (i := 296) (by decide +kernel)) rfl
theorem w9_Mo_put : CWv y_Mo_put b_Mo_put 2 (none) 1 ∧ Cond.instanceMethod y_Mo_put ∈ lw_ok ∧ Cond.selects y_Mo_put.cls y_Mo_put y_Mo_put ∈ lw_ok := ⟨⟨q4058, q348, by decide +kernel, by decide +kernel, by decide +kernel⟩, q4057, q296⟩
def y_Mo_putWord : MethodName := ⟨"ClassWorksModel", "putWord", "(Ljava/lang/String;)V"⟩
abbrev b_Mo_putWord : ByteArray := prog_14_method_156_code
theorem d_Mo_putWord_0 : decode b_Mo_putWord 0 = .ok (.iconst 0, 1) := by decide +kernel
theorem d_Mo_putWord_1 : decode b_Mo_putWord 1 = .ok (.istore_n 2, 1) := by decide +kernel
theorem d_Mo_putWord_2 : decode b_Mo_putWord 2 = .ok (.iload_n 2, 1) := by decide +kernel
theorem d_Mo_putWord_3 : decode b_Mo_putWord 3 = .ok (.aload_n 1, 1) := by decide +kernel
theorem d_Mo_putWord_4 : decode b_Mo_putWord 4 = .ok (.invokevirtual 47, 3) := by decide +kernel
theorem d_Mo_putWord_7 : decode b_Mo_putWord 7 = .ok (.if_icmp .ge 18, 3) := by decide +kernel
theorem d_Mo_putWord_10 : decode b_Mo_putWord 10 = .ok (.aload_n 0, 1) := by decide +kernel
theorem d_Mo_putWord_11 : decode b_Mo_putWord 11 = .ok (.aload_n 1, 1) := by decide +kernel
theorem d_Mo_putWord_12 : decode b_Mo_putWord 12 = .ok (.iload_n 2, 1) := by decide +kernel
theorem d_Mo_putWord_13 : decode b_Mo_putWord 13 = .ok (.invokevirtual 56, 3) := by decide +kernel
theorem d_Mo_putWord_16 : decode b_Mo_putWord 16 = .ok (.invokevirtual 1179, 3) := by decide +kernel
theorem d_Mo_putWord_19 : decode b_Mo_putWord 19 = .ok (.iinc 2 1, 3) := by decide +kernel
theorem d_Mo_putWord_22 : decode b_Mo_putWord 22 = .ok (.goto (-20), 3) := by decide +kernel
theorem d_Mo_putWord_25 : decode b_Mo_putWord 25 = .ok (.return_, 1) := by decide +kernel
abbrev ra_Mo_putWord (mc ms : Nat) : Room := { frames := 4, cells := mc, slots := ms, locals := 171 }
def wba_Mo_putWord_2 (mc ms : Nat) (Post : Ly → St → Nat → Nat → Prop) (K_2 : Ly → St → Nat → Nat → Int32 → Prop) (a0 : Nat) (n1 : Nat) (y_h2 : Ly) (s_h2 : St) (d_h2 e_h2 : Nat) (x2h2 : Int32) : Prop := (d_h2 ≤ mc ∧ e_h2 ≤ ms) ∧ (((nI (stb n1).length) ≤ x2h2 → Post y_h2 s_h2 d_h2 e_h2) ∧ (¬ ((nI (stb n1).length) ≤ x2h2) → xH n1 x2h2 (fun x_1 : Int32 => ∃ mc_7 ms_8 : Nat, (d_h2 + mc_7 ≤ mc ∧ e_h2 + ms_8 ≤ ms) ∧ wa_Mo_put mc_7 ms_8 y_h2 (fun (y_4 : Ly) (s_3 : St) (d_5 e_6 : Nat) => (d_h2 + d_5 ≤ mc ∧ e_h2 + e_6 ≤ ms) ∧ K_2 y_4 s_3 (d_h2 + d_5) (e_h2 + e_6) (x2h2 + 1)) s_h2 a0 x_1)))
def wla_Mo_putWord_2 (mc ms : Nat) (Post : Ly → St → Nat → Nat → Prop) (a0 : Nat) (n1 : Nat) (y_h2 : Ly) (s_h2 : St) (d_h2 e_h2 : Nat) (x2h2 : Int32) : Prop := ∃ (I : Ly → St → Nat → Nat → Int32 → Prop) (μ : Ly → St → Nat → Nat → Int32 → Nat), I y_h2 s_h2 d_h2 e_h2 x2h2 ∧ ∀ (u1 : Ly) (u2 : St) (u3 u4 : Nat) (t0 : Int32), I u1 u2 u3 u4 t0 → wba_Mo_putWord_2 mc ms Post (fun z1 z2 z3 z4 t0q => I z1 z2 z3 z4 t0q ∧ μ z1 z2 z3 z4 t0q < μ u1 u2 u3 u4 t0) a0 n1 u1 u2 u3 u4 t0
def wa_Mo_putWord (mc ms : Nat) (y : Ly) (Post : Ly → St → Nat → Nat → Prop) (σ : St) (a0 : Nat) (n1 : Nat) : Prop := wla_Mo_putWord_2 mc ms Post a0 n1 y σ 0 0 0
set_option maxHeartbeats 4000000 in
set_option maxRecDepth 100000 in
theorem ca_Mo_putWord (l : Launch) (D : va_G) (g : Nat → ClassId) (F : Nat → SL) (sl : List SL) (hF : SOK F sl) (ad : Nat → Nat) (mc ms : Nat) (y : Ly) (Post : Ly → St → Nat → Nat → Prop) (σ : St) (a0 : Nat) (n1 : Nat) (sz uz : Nat) (h_a0 : cl a0 = 14) (h_n1 : n1 < strT.length) (h : wa_Mo_putWord mc ms y Post σ a0 n1) : Met l y_Mo_putWord (mw y_Mo_putWord b_Mo_putWord 3 (none)) (ra_Mo_putWord mc ms) (PCu g D sl [.ref (ad a0), .ref (sk (F n1))] sz uz (ws g ad y σ)) (va_Qv (fun (u : Ly × St × Nat × Nat) => Post u.1 u.2.1 u.2.2.1 u.2.2.2) (QU D (va_A (ws g ad y σ) sz) (fun u => ws g ad u.1 u.2.1) sz uz (fun u => u.2.2.1) (fun u => u.2.2.2)) (va_A (ws g ad y σ) sz)) mc ms (va_A (ws g ad y σ) sz) := by
  refine ofVu (by decide +kernel) (Nat.le_of_ble_eq_true rfl) ?_
  intro p e s m args below meth c A Q ls H locs G hsz hP hD hS hl hret
  subst hsz
  have hl : lv_has ls 3 [(0, .ref (ad a0)), (1, .ref (sk (F n1)))] := hl
  have hd : 0 ≤ mc ∧ 0 ≤ ms := ⟨Nat.zero_le _, Nat.zero_le _⟩
  unfold wa_Mo_putWord at h
  refine lv_iconst (v := 0) G.1 G.2.1 d_Mo_putWord_0 (by decide) ?_
  refine lv_istore_n (lv' := [(2, .int 0), (0, .ref (ad a0)), (1, .ref (sk (F n1)))]) G.1 G.2.1 d_Mo_putWord_1 rfl hl (by decide) rfl (fun ls hl => ?_)
  unfold wla_Mo_putWord_2 at h
  obtain ⟨I_2, μ_2, hI_2, hB_2⟩ := h
  have L_2 : ∀ (n_2 : Nat) (y_h2 : Ly) (s_h2 : St) (d_h2 e_h2 : Nat) (x2h2 : Int32), μ_2 y_h2 s_h2 d_h2 e_h2 x2h2 < n_2 → I_2 y_h2 s_h2 d_h2 e_h2 x2h2 → ∀ (H : Heap) (locs : List Loc), va_P D CL (ws g ad y_h2 s_h2) H → va_D A (ws g ad y_h2 s_h2) → va_S A s.heap H locs → ∀ ls, lv_has ls 3 [(0, .ref (ad a0)), (1, .ref (sk (F n1))), (2, .int x2h2)] → W p l e (ra_Mo_putWord mc ms) s m args below meth c H locs d_h2 e_h2 Q (F0 m 2 ls []) := by
    intro n_2
    induction n_2 with
    | zero => intro y_h2 s_h2 d_h2 e_h2 x2h2 hμ; exact absurd hμ (Nat.not_lt_zero _)
    | succ n_2 ih_2 =>
      intro y_h2 s_h2 d_h2 e_h2 x2h2 hμ_2 hJ H locs hP hD hS ls hl
      obtain ⟨K_2, hK_2, h⟩ : ∃ K : Ly → St → Nat → Nat → Int32 → Prop, (∀ z1 z2 z3 z4 (t0 : Int32), K z1 z2 z3 z4 t0 → I_2 z1 z2 z3 z4 t0 ∧ μ_2 z1 z2 z3 z4 t0 < μ_2 y_h2 s_h2 d_h2 e_h2 x2h2) ∧ wba_Mo_putWord_2 mc ms Post K a0 n1 y_h2 s_h2 d_h2 e_h2 x2h2 := ⟨_, fun _ _ _ _ _ h => h, hB_2 y_h2 s_h2 d_h2 e_h2 x2h2 hJ⟩
      unfold wba_Mo_putWord_2 at h
      obtain ⟨hd, h⟩ := h
      refine lv_iload_n G.1 G.2.1 d_Mo_putWord_2 rfl (lv_at hl 2 rfl) ?_
      refine lv_aload_n G.1 G.2.1 d_Mo_putWord_3 rfl (lv_at hl 1 rfl) ?_
      refine ulen hF h_n1 G hP hD hS w9_Js_length q2581 ⟨Nat.le_of_ble_eq_true rfl, Nat.le_of_ble_eq_true rfl⟩ hl.1 (Nat.le_of_ble_eq_true rfl) hd d_Mo_putWord_4 (fun H locs hP hD hS => ?_)
      refine lv_icmp_ge (tgt := 25) G.1 G.2.1 d_Mo_putWord_7 (by decide) (fun c7 => ?_) (fun c7 => ?_)
      · skip
        have h := h.1 c7
        exact hret (y_h2, s_h2, d_h2, e_h2) _ _ _ _ _ ls h hP hD hS (Nat.le_refl _) (Nat.le_refl _) hd.1 hd.2 d_Mo_putWord_25
      · skip
        have h := h.2 c7
        refine lv_aload_n G.1 G.2.1 d_Mo_putWord_10 rfl (lv_at hl 0 rfl) ?_
        refine lv_aload_n G.1 G.2.1 d_Mo_putWord_11 rfl (lv_at hl 1 rfl) ?_
        refine lv_iload_n G.1 G.2.1 d_Mo_putWord_12 rfl (lv_at hl 2 rfl) ?_
        refine uchar hF h_n1 G hP hD hS h w9_Js_charAt q2582 ⟨Nat.le_of_ble_eq_true rfl, Nat.le_of_ble_eq_true rfl⟩ hl.1 (Nat.le_of_ble_eq_true rfl) hd d_Mo_putWord_13 (fun x_1 H locs h hP hD hS => ?_)
        obtain ⟨mc_7, ms_8, hr_9, h⟩ := h
        refine uaVv (As := [.int x_1]) (rest := []) G hP hD hS (ca_Mo_put l D g ad mc_7 ms_8 y_h2 _ s_h2 a0 x_1 H.size (us H) h_a0 h) w9_Mo_put q4055 ⟨Nat.le_of_ble_eq_true rfl, Nat.le_of_ble_eq_true rfl⟩ rfl rfl h_a0 (q := (RMo, TMo, 131)) rfl rfl hl.1 rfl (Nat.le_of_ble_eq_true rfl) rfl hr_9 d_Mo_putWord_16 (fun y_4 s_3 d_5 e_6 H locs h hP hD hS => ?_)
        obtain ⟨hd, h⟩ := h
        refine lv_iinc (v := x2h2 + 1) (lv' := [(2, .int (x2h2 + 1)), (0, .ref (ad a0)), (1, .ref (sk (F n1)))]) G.1 G.2.1 d_Mo_putWord_19 hl (k := 2) rfl rfl (by decide) rfl (fun ls hl => ?_)
        refine lv_goto (tgt := 2) G.1 G.2.1 d_Mo_putWord_22 (by decide) ?_
        have h := hK_2 y_4 s_3 (d_h2 + d_5) (e_h2 + e_6) (x2h2 + 1) h
        exact ih_2 y_4 s_3 (d_h2 + d_5) (e_h2 + e_6) (x2h2 + 1) (Nat.lt_of_lt_of_le h.2 (Nat.le_of_lt_succ hμ_2)) h.1 H locs hP hD hS ls (lv_sub hl [1, 2, 0] rfl)
  exact L_2 _ y σ 0 0 0 (Nat.lt_succ_self _) hI_2 H locs hP hD hS ls (lv_sub hl [1, 2, 0] rfl)
theorem q4051 : Cond.methodLink "ClassWorksModel" 1187 y_Mo_putWord ∈ lw_ok := lw_okmem (List.mem_of_getElem? (i := 4051) (by decide +kernel)) rfl
theorem q4054 : Cond.code y_Mo_putWord b_Mo_putWord 3 (none) ∈ lw_ok := lw_okmem (List.mem_of_getElem? (i := 4054) (by decide +kernel)) rfl
theorem q4053 : Cond.instanceMethod y_Mo_putWord ∈ lw_ok := lw_okmem (List.mem_of_getElem? (i := 4053) (by decide +kernel)) rfl
theorem q295 : Cond.selects y_Mo_putWord.cls y_Mo_putWord y_Mo_putWord ∈ lw_ok := lw_okmem (List.mem_of_getElem? (i := 295) (by decide +kernel)) rfl
theorem w9_Mo_putWord : CWv y_Mo_putWord b_Mo_putWord 3 (none) 1 ∧ Cond.instanceMethod y_Mo_putWord ∈ lw_ok ∧ Cond.selects y_Mo_putWord.cls y_Mo_putWord y_Mo_putWord ∈ lw_ok := ⟨⟨q4054, q348, by decide +kernel, by decide +kernel, by decide +kernel⟩, q4053, q295⟩
def y_Mo_putFlag : MethodName := ⟨"ClassWorksModel", "putFlag", "(ZLjava/lang/String;)V"⟩
abbrev b_Mo_putFlag : ByteArray := prog_14_method_161_code
theorem d_Mo_putFlag_0 : decode b_Mo_putFlag 0 = .ok (.iload_n 1, 1) := by decide +kernel
theorem d_Mo_putFlag_1 : decode b_Mo_putFlag 1 = .ok (.ifCond .eq 8, 3) := by decide +kernel
theorem d_Mo_putFlag_4 : decode b_Mo_putFlag 4 = .ok (.aload_n 0, 1) := by decide +kernel
theorem d_Mo_putFlag_5 : decode b_Mo_putFlag 5 = .ok (.aload_n 2, 1) := by decide +kernel
theorem d_Mo_putFlag_6 : decode b_Mo_putFlag 6 = .ok (.invokevirtual 1187, 3) := by decide +kernel
theorem d_Mo_putFlag_9 : decode b_Mo_putFlag 9 = .ok (.return_, 1) := by decide +kernel
abbrev ra_Mo_putFlag (mc ms : Nat) : Room := { frames := 5, cells := mc, slots := ms, locals := 193 }
def wja_Mo_putFlag_9 (mc ms : Nat) (Post : Ly → St → Nat → Nat → Prop) (a0 : Nat) (n2 : Nat) (y_j9 : Ly) (s_j9 : St) (d_j9 e_j9 : Nat) : Prop := (d_j9 ≤ mc ∧ e_j9 ≤ ms) ∧ Post y_j9 s_j9 d_j9 e_j9
def wa_Mo_putFlag (mc ms : Nat) (y : Ly) (Post : Ly → St → Nat → Nat → Prop) (σ : St) (a0 : Nat) (v1 : Int32) (n2 : Nat) : Prop := ((v1 = 0 → wja_Mo_putFlag_9 mc ms Post a0 n2 y σ 0 0) ∧ (¬ (v1 = 0) → ∃ mc_6 ms_7 : Nat, (0 + mc_6 ≤ mc ∧ 0 + ms_7 ≤ ms) ∧ wa_Mo_putWord mc_6 ms_7 y (fun (y_3 : Ly) (s_2 : St) (d_4 e_5 : Nat) => (0 + d_4 ≤ mc ∧ 0 + e_5 ≤ ms) ∧ wja_Mo_putFlag_9 mc ms Post a0 n2 y_3 s_2 (0 + d_4) (0 + e_5)) σ a0 n2))
set_option maxHeartbeats 4000000 in
set_option maxRecDepth 100000 in
theorem ca_Mo_putFlag (l : Launch) (D : va_G) (g : Nat → ClassId) (F : Nat → SL) (sl : List SL) (hF : SOK F sl) (ad : Nat → Nat) (mc ms : Nat) (y : Ly) (Post : Ly → St → Nat → Nat → Prop) (σ : St) (a0 : Nat) (v1 : Int32) (n2 : Nat) (sz uz : Nat) (h_a0 : cl a0 = 14) (h_n2 : n2 < strT.length) (h : wa_Mo_putFlag mc ms y Post σ a0 v1 n2) : Met l y_Mo_putFlag (mw y_Mo_putFlag b_Mo_putFlag 3 (none)) (ra_Mo_putFlag mc ms) (PCu g D sl [.ref (ad a0), .int v1, .ref (sk (F n2))] sz uz (ws g ad y σ)) (va_Qv (fun (u : Ly × St × Nat × Nat) => Post u.1 u.2.1 u.2.2.1 u.2.2.2) (QU D (va_A (ws g ad y σ) sz) (fun u => ws g ad u.1 u.2.1) sz uz (fun u => u.2.2.1) (fun u => u.2.2.2)) (va_A (ws g ad y σ) sz)) mc ms (va_A (ws g ad y σ) sz) := by
  refine ofVu (by decide +kernel) (Nat.le_of_ble_eq_true rfl) ?_
  intro p e s m args below meth c A Q ls H locs G hsz hP hD hS hl hret
  subst hsz
  have hl : lv_has ls 3 [(0, .ref (ad a0)), (1, .int v1), (2, .ref (sk (F n2)))] := hl
  have hd : 0 ≤ mc ∧ 0 ≤ ms := ⟨Nat.zero_le _, Nat.zero_le _⟩
  unfold wa_Mo_putFlag at h
  refine lv_iload_n G.1 G.2.1 d_Mo_putFlag_0 rfl (lv_at hl 1 rfl) ?_
  have J_9 : ∀ (y_j9 : Ly) (s_j9 : St) (d_j9 e_j9 : Nat) (H : Heap) (locs : List Loc), wja_Mo_putFlag_9 mc ms Post a0 n2 y_j9 s_j9 d_j9 e_j9 → va_P D CL (ws g ad y_j9 s_j9) H → va_D A (ws g ad y_j9 s_j9) → va_S A s.heap H locs → ∀ ls, lv_has ls 3 [] → W p l e (ra_Mo_putFlag mc ms) s m args below meth c H locs d_j9 e_j9 Q (F0 m 9 ls []) := by
    intro y_j9 s_j9 d_j9 e_j9 H locs h hP hD hS ls hl
    unfold wja_Mo_putFlag_9 at h
    obtain ⟨hd, h⟩ := h
    exact hret (y_j9, s_j9, d_j9, e_j9) _ _ _ _ _ ls h hP hD hS (Nat.le_refl _) (Nat.le_refl _) hd.1 hd.2 d_Mo_putFlag_9
  refine lv_if_eq (tgt := 9) G.1 G.2.1 d_Mo_putFlag_1 (by decide) (fun c1 => ?_) (fun c1 => ?_)
  · skip
    have h := h.1 c1
    exact J_9 y σ 0 0 H locs h hP hD hS ls (lv_sub hl [] rfl)
  · skip
    have h := h.2 c1
    refine lv_aload_n G.1 G.2.1 d_Mo_putFlag_4 rfl (lv_at hl 0 rfl) ?_
    refine lv_aload_n G.1 G.2.1 d_Mo_putFlag_5 rfl (lv_at hl 2 rfl) ?_
    obtain ⟨mc_6, ms_7, hr_8, h⟩ := h
    refine utVv (As := [.ref (sk (F n2))]) (rest := []) G hP hD hS (ca_Mo_putWord l D g F sl hF ad mc_6 ms_7 y _ σ a0 n2 H.size (us H) h_a0 h_n2 h) w9_Mo_putWord q4051 ⟨Nat.le_of_ble_eq_true rfl, Nat.le_of_ble_eq_true rfl⟩ rfl rfl h_a0 (q := (RMo, TMo, 131)) rfl rfl hl.1 rfl (Nat.le_of_ble_eq_true rfl) rfl hr_8 d_Mo_putFlag_6 (fun y_3 s_2 d_4 e_5 H locs h hP hD hS => ?_)
    have hl := lv_sub (l' := []) hl [] rfl
    obtain ⟨hd, h⟩ := h
    exact J_9 y_3 s_2 (0 + d_4) (0 + e_5) H locs h hP hD hS ls (lv_sub hl [] rfl)
def y_Mo_putName : MethodName := ⟨"ClassWorksModel", "putName", "(I)V"⟩
abbrev b_Mo_putName : ByteArray := prog_14_method_157_code
theorem d_Mo_putName_0 : decode b_Mo_putName 0 = .ok (.iconst 0, 1) := by decide +kernel
theorem d_Mo_putName_1 : decode b_Mo_putName 1 = .ok (.istore_n 2, 1) := by decide +kernel
theorem d_Mo_putName_2 : decode b_Mo_putName 2 = .ok (.iload_n 2, 1) := by decide +kernel
theorem d_Mo_putName_3 : decode b_Mo_putName 3 = .ok (.aload_n 0, 1) := by decide +kernel
theorem d_Mo_putName_4 : decode b_Mo_putName 4 = .ok (.getfield 40, 3) := by decide +kernel
theorem d_Mo_putName_7 : decode b_Mo_putName 7 = .ok (.iload_n 1, 1) := by decide +kernel
theorem d_Mo_putName_8 : decode b_Mo_putName 8 = .ok (.baload, 1) := by decide +kernel
theorem d_Mo_putName_9 : decode b_Mo_putName 9 = .ok (.if_icmp .ge 24, 3) := by decide +kernel
theorem d_Mo_putName_12 : decode b_Mo_putName 12 = .ok (.aload_n 0, 1) := by decide +kernel
theorem d_Mo_putName_13 : decode b_Mo_putName 13 = .ok (.aload_n 0, 1) := by decide +kernel
theorem d_Mo_putName_14 : decode b_Mo_putName 14 = .ok (.getfield 28, 3) := by decide +kernel
theorem d_Mo_putName_17 : decode b_Mo_putName 17 = .ok (.bipush 12, 2) := by decide +kernel
theorem d_Mo_putName_19 : decode b_Mo_putName 19 = .ok (.iload_n 1, 1) := by decide +kernel
theorem d_Mo_putName_20 : decode b_Mo_putName 20 = .ok (.imul, 1) := by decide +kernel
theorem d_Mo_putName_21 : decode b_Mo_putName 21 = .ok (.iload_n 2, 1) := by decide +kernel
theorem d_Mo_putName_22 : decode b_Mo_putName 22 = .ok (.iadd, 1) := by decide +kernel
theorem d_Mo_putName_23 : decode b_Mo_putName 23 = .ok (.baload, 1) := by decide +kernel
theorem d_Mo_putName_24 : decode b_Mo_putName 24 = .ok (.invokevirtual 1179, 3) := by decide +kernel
theorem d_Mo_putName_27 : decode b_Mo_putName 27 = .ok (.iinc 2 1, 3) := by decide +kernel
theorem d_Mo_putName_30 : decode b_Mo_putName 30 = .ok (.goto (-28), 3) := by decide +kernel
theorem d_Mo_putName_33 : decode b_Mo_putName 33 = .ok (.return_, 1) := by decide +kernel
abbrev ra_Mo_putName (mc ms : Nat) : Room := { frames := 3, cells := mc, slots := ms, locals := 171 }
def wba_Mo_putName_2 (mc ms : Nat) (Post : Ly → St → Nat → Nat → Prop) (K_2 : Ly → St → Nat → Nat → Int32 → Int32 → Prop) (a0 : Nat) (y_h2 : Ly) (s_h2 : St) (d_h2 e_h2 : Nat) (x1h2 : Int32) (x2h2 : Int32) : Prop := (d_h2 ≤ mc ∧ e_h2 ≤ ms) ∧ xA y_h2 s_h2 a0 1 x1h2 (fun x_1 : Int32 => ((x_1 ≤ x2h2 → Post y_h2 s_h2 d_h2 e_h2) ∧ (¬ (x_1 ≤ x2h2) → xA y_h2 s_h2 a0 0 ((12 * x1h2) + x2h2) (fun x_2 : Int32 => ∃ mc_8 ms_9 : Nat, (d_h2 + mc_8 ≤ mc ∧ e_h2 + ms_9 ≤ ms) ∧ wa_Mo_put mc_8 ms_9 y_h2 (fun (y_5 : Ly) (s_4 : St) (d_6 e_7 : Nat) => (d_h2 + d_6 ≤ mc ∧ e_h2 + e_7 ≤ ms) ∧ K_2 y_5 s_4 (d_h2 + d_6) (e_h2 + e_7) x1h2 (x2h2 + 1)) s_h2 a0 x_2))))
def wla_Mo_putName_2 (mc ms : Nat) (Post : Ly → St → Nat → Nat → Prop) (a0 : Nat) (y_h2 : Ly) (s_h2 : St) (d_h2 e_h2 : Nat) (x1h2 : Int32) (x2h2 : Int32) : Prop := ∃ (I : Ly → St → Nat → Nat → Int32 → Int32 → Prop) (μ : Ly → St → Nat → Nat → Int32 → Int32 → Nat), I y_h2 s_h2 d_h2 e_h2 x1h2 x2h2 ∧ ∀ (u1 : Ly) (u2 : St) (u3 u4 : Nat) (t0 : Int32) (t1 : Int32), I u1 u2 u3 u4 t0 t1 → wba_Mo_putName_2 mc ms Post (fun z1 z2 z3 z4 t0q t1q => I z1 z2 z3 z4 t0q t1q ∧ μ z1 z2 z3 z4 t0q t1q < μ u1 u2 u3 u4 t0 t1) a0 u1 u2 u3 u4 t0 t1
def wa_Mo_putName (mc ms : Nat) (y : Ly) (Post : Ly → St → Nat → Nat → Prop) (σ : St) (a0 : Nat) (v1 : Int32) : Prop := wla_Mo_putName_2 mc ms Post a0 y σ 0 0 v1 0
set_option maxHeartbeats 4000000 in
set_option maxRecDepth 100000 in
theorem ca_Mo_putName (l : Launch) (D : va_G) (g : Nat → ClassId) (ad : Nat → Nat) (mc ms : Nat) (y : Ly) (Post : Ly → St → Nat → Nat → Prop) (σ : St) (a0 : Nat) (v1 : Int32) (sz uz : Nat) (h_a0 : cl a0 = 14) (h : wa_Mo_putName mc ms y Post σ a0 v1) : Met l y_Mo_putName (mw y_Mo_putName b_Mo_putName 3 (none)) (ra_Mo_putName mc ms) (PCu g D [] [.ref (ad a0), .int v1] sz uz (ws g ad y σ)) (va_Qv (fun (u : Ly × St × Nat × Nat) => Post u.1 u.2.1 u.2.2.1 u.2.2.2) (QU D (va_A (ws g ad y σ) sz) (fun u => ws g ad u.1 u.2.1) sz uz (fun u => u.2.2.1) (fun u => u.2.2.2)) (va_A (ws g ad y σ) sz)) mc ms (va_A (ws g ad y σ) sz) := by
  refine ofVu (by decide +kernel) (Nat.le_of_ble_eq_true rfl) ?_
  intro p e s m args below meth c A Q ls H locs G hsz hP hD hS hl hret
  subst hsz
  have hl : lv_has ls 3 [(0, .ref (ad a0)), (1, .int v1)] := hl
  have hd : 0 ≤ mc ∧ 0 ≤ ms := ⟨Nat.zero_le _, Nat.zero_le _⟩
  unfold wa_Mo_putName at h
  refine lv_iconst (v := 0) G.1 G.2.1 d_Mo_putName_0 (by decide) ?_
  refine lv_istore_n (lv' := [(2, .int 0), (0, .ref (ad a0)), (1, .int v1)]) G.1 G.2.1 d_Mo_putName_1 rfl hl (by decide) rfl (fun ls hl => ?_)
  unfold wla_Mo_putName_2 at h
  obtain ⟨I_2, μ_2, hI_2, hB_2⟩ := h
  have L_2 : ∀ (n_2 : Nat) (y_h2 : Ly) (s_h2 : St) (d_h2 e_h2 : Nat) (x1h2 : Int32) (x2h2 : Int32), μ_2 y_h2 s_h2 d_h2 e_h2 x1h2 x2h2 < n_2 → I_2 y_h2 s_h2 d_h2 e_h2 x1h2 x2h2 → ∀ (H : Heap) (locs : List Loc), va_P D CL (ws g ad y_h2 s_h2) H → va_D A (ws g ad y_h2 s_h2) → va_S A s.heap H locs → ∀ ls, lv_has ls 3 [(0, .ref (ad a0)), (1, .int x1h2), (2, .int x2h2)] → W p l e (ra_Mo_putName mc ms) s m args below meth c H locs d_h2 e_h2 Q (F0 m 2 ls []) := by
    intro n_2
    induction n_2 with
    | zero => intro y_h2 s_h2 d_h2 e_h2 x1h2 x2h2 hμ; exact absurd hμ (Nat.not_lt_zero _)
    | succ n_2 ih_2 =>
      intro y_h2 s_h2 d_h2 e_h2 x1h2 x2h2 hμ_2 hJ H locs hP hD hS ls hl
      obtain ⟨K_2, hK_2, h⟩ : ∃ K : Ly → St → Nat → Nat → Int32 → Int32 → Prop, (∀ z1 z2 z3 z4 (t0 : Int32) (t1 : Int32), K z1 z2 z3 z4 t0 t1 → I_2 z1 z2 z3 z4 t0 t1 ∧ μ_2 z1 z2 z3 z4 t0 t1 < μ_2 y_h2 s_h2 d_h2 e_h2 x1h2 x2h2) ∧ wba_Mo_putName_2 mc ms Post K a0 y_h2 s_h2 d_h2 e_h2 x1h2 x2h2 := ⟨_, fun _ _ _ _ _ _ h => h, hB_2 y_h2 s_h2 d_h2 e_h2 x1h2 x2h2 hJ⟩
      unfold wba_Mo_putName_2 at h
      obtain ⟨hd, h⟩ := h
      refine lv_iload_n G.1 G.2.1 d_Mo_putName_2 rfl (lv_at hl 2 rfl) ?_
      refine lv_aload_n G.1 G.2.1 d_Mo_putName_3 rfl (lv_at hl 0 rfl) ?_
      refine ugf (v := .ref (yP y_h2 a0 1)) G hP h_a0 iMo rfl 1 (by decide) rfl q3065 rfl rfl d_Mo_putName_4 ?_
      refine lv_iload_n G.1 G.2.1 d_Mo_putName_7 rfl (lv_at hl 1 rfl) ?_
      refine ubald G hP (kdp h_a0 rfl) (typ h_a0 rfl) h d_Mo_putName_8 (fun x_1 h => ?_)
      refine lv_icmp_ge (tgt := 33) G.1 G.2.1 d_Mo_putName_9 (by decide) (fun c9 => ?_) (fun c9 => ?_)
      · skip
        have h := h.1 c9
        exact hret (y_h2, s_h2, d_h2, e_h2) _ _ _ _ _ ls h hP hD hS (Nat.le_refl _) (Nat.le_refl _) hd.1 hd.2 d_Mo_putName_33
      · skip
        have h := h.2 c9
        refine lv_aload_n G.1 G.2.1 d_Mo_putName_12 rfl (lv_at hl 0 rfl) ?_
        refine lv_aload_n G.1 G.2.1 d_Mo_putName_13 rfl (lv_at hl 0 rfl) ?_
        refine ugf (v := .ref (yP y_h2 a0 0)) G hP h_a0 iMo rfl 0 (by decide) rfl q3064 rfl rfl d_Mo_putName_14 ?_
        refine lv_bipush (v := 12) G.1 G.2.1 d_Mo_putName_17 (by decide) ?_
        refine lv_iload_n G.1 G.2.1 d_Mo_putName_19 rfl (lv_at hl 1 rfl) ?_
        refine W.eq (g2 := F0 m 20 ls [.int x1h2, .int 12, .ref (yP y_h2 a0 0), .ref (ad a0)]) rfl ?_
        refine lv_imul G.1 G.2.1 d_Mo_putName_20 ?_
        refine lv_iload_n G.1 G.2.1 d_Mo_putName_21 rfl (lv_at hl 2 rfl) ?_
        refine lv_iadd G.1 G.2.1 d_Mo_putName_22 ?_
        refine ubald G hP (kdp h_a0 rfl) (typ h_a0 rfl) h d_Mo_putName_23 (fun x_2 h => ?_)
        obtain ⟨mc_8, ms_9, hr_10, h⟩ := h
        refine uaVv (As := [.int x_2]) (rest := []) G hP hD hS (ca_Mo_put l D g ad mc_8 ms_9 y_h2 _ s_h2 a0 x_2 H.size (us H) h_a0 h) w9_Mo_put q4055 ⟨Nat.le_of_ble_eq_true rfl, Nat.le_of_ble_eq_true rfl⟩ rfl rfl h_a0 (q := (RMo, TMo, 131)) rfl rfl hl.1 rfl (Nat.le_of_ble_eq_true rfl) rfl hr_10 d_Mo_putName_24 (fun y_5 s_4 d_6 e_7 H locs h hP hD hS => ?_)
        obtain ⟨hd, h⟩ := h
        refine lv_iinc (v := x2h2 + 1) (lv' := [(2, .int (x2h2 + 1)), (0, .ref (ad a0)), (1, .int x1h2)]) G.1 G.2.1 d_Mo_putName_27 hl (k := 2) rfl rfl (by decide) rfl (fun ls hl => ?_)
        refine lv_goto (tgt := 2) G.1 G.2.1 d_Mo_putName_30 (by decide) ?_
        have h := hK_2 y_5 s_4 (d_h2 + d_6) (e_h2 + e_7) x1h2 (x2h2 + 1) h
        exact ih_2 y_5 s_4 (d_h2 + d_6) (e_h2 + e_7) x1h2 (x2h2 + 1) (Nat.lt_of_lt_of_le h.2 (Nat.le_of_lt_succ hμ_2)) h.1 H locs hP hD hS ls (lv_sub hl [1, 2, 0] rfl)
  exact L_2 _ y σ 0 0 v1 0 (Nat.lt_succ_self _) hI_2 H locs hP hD hS ls (lv_sub hl [1, 2, 0] rfl)
theorem q4047 : Cond.methodLink "ClassWorksModel" 1201 y_Mo_putFlag ∈ lw_ok := lw_okmem (List.mem_of_getElem? (i := 4047) (by decide +kernel)) rfl
theorem q4050 : Cond.code y_Mo_putFlag b_Mo_putFlag 3 (none) ∈ lw_ok := lw_okmem (List.mem_of_getElem? (i := 4050) (by decide +kernel)) rfl
theorem q4049 : Cond.instanceMethod y_Mo_putFlag ∈ lw_ok := lw_okmem (List.mem_of_getElem? (i := 4049) (by decide +kernel)) rfl
theorem q294 : Cond.selects y_Mo_putFlag.cls y_Mo_putFlag y_Mo_putFlag ∈ lw_ok := lw_okmem (List.mem_of_getElem? (i := 294) (by decide +kernel)) rfl
theorem w9_Mo_putFlag : CWv y_Mo_putFlag b_Mo_putFlag 3 (none) 2 ∧ Cond.instanceMethod y_Mo_putFlag ∈ lw_ok ∧ Cond.selects y_Mo_putFlag.cls y_Mo_putFlag y_Mo_putFlag ∈ lw_ok := ⟨⟨q4050, q348, by decide +kernel, by decide +kernel, by decide +kernel⟩, q4049, q294⟩
def y_Mo_putFlags : MethodName := ⟨"ClassWorksModel", "putFlags", "(I)V"⟩
abbrev b_Mo_putFlags : ByteArray := prog_14_method_163_code
theorem d_Mo_putFlags_0 : decode b_Mo_putFlags 0 = .ok (.aload_n 0, 1) := by decide +kernel
theorem d_Mo_putFlags_1 : decode b_Mo_putFlags 1 = .ok (.iload_n 1, 1) := by decide +kernel
theorem d_Mo_putFlags_2 : decode b_Mo_putFlags 2 = .ok (.iconst 1, 1) := by decide +kernel
theorem d_Mo_putFlags_3 : decode b_Mo_putFlags 3 = .ok (.iand, 1) := by decide +kernel
theorem d_Mo_putFlags_4 : decode b_Mo_putFlags 4 = .ok (.ifCond .eq 7, 3) := by decide +kernel
theorem d_Mo_putFlags_7 : decode b_Mo_putFlags 7 = .ok (.iconst 1, 1) := by decide +kernel
theorem d_Mo_putFlags_8 : decode b_Mo_putFlags 8 = .ok (.goto 4, 3) := by decide +kernel
theorem d_Mo_putFlags_11 : decode b_Mo_putFlags 11 = .ok (.iconst 0, 1) := by decide +kernel
theorem d_Mo_putFlags_12 : decode b_Mo_putFlags 12 = .ok (.ldc_w 1226, 3) := by decide +kernel
theorem d_Mo_putFlags_15 : decode b_Mo_putFlags 15 = .ok (.invokevirtual 1201, 3) := by decide +kernel
theorem d_Mo_putFlags_18 : decode b_Mo_putFlags 18 = .ok (.aload_n 0, 1) := by decide +kernel
theorem d_Mo_putFlags_19 : decode b_Mo_putFlags 19 = .ok (.iload_n 1, 1) := by decide +kernel
theorem d_Mo_putFlags_20 : decode b_Mo_putFlags 20 = .ok (.iconst 2, 1) := by decide +kernel
theorem d_Mo_putFlags_21 : decode b_Mo_putFlags 21 = .ok (.iand, 1) := by decide +kernel
theorem d_Mo_putFlags_22 : decode b_Mo_putFlags 22 = .ok (.ifCond .eq 7, 3) := by decide +kernel
theorem d_Mo_putFlags_25 : decode b_Mo_putFlags 25 = .ok (.iconst 1, 1) := by decide +kernel
theorem d_Mo_putFlags_26 : decode b_Mo_putFlags 26 = .ok (.goto 4, 3) := by decide +kernel
theorem d_Mo_putFlags_29 : decode b_Mo_putFlags 29 = .ok (.iconst 0, 1) := by decide +kernel
theorem d_Mo_putFlags_30 : decode b_Mo_putFlags 30 = .ok (.ldc_w 1199, 3) := by decide +kernel
theorem d_Mo_putFlags_33 : decode b_Mo_putFlags 33 = .ok (.invokevirtual 1201, 3) := by decide +kernel
theorem d_Mo_putFlags_36 : decode b_Mo_putFlags 36 = .ok (.aload_n 0, 1) := by decide +kernel
theorem d_Mo_putFlags_37 : decode b_Mo_putFlags 37 = .ok (.iload_n 1, 1) := by decide +kernel
theorem d_Mo_putFlags_38 : decode b_Mo_putFlags 38 = .ok (.iconst 4, 1) := by decide +kernel
theorem d_Mo_putFlags_39 : decode b_Mo_putFlags 39 = .ok (.iand, 1) := by decide +kernel
theorem d_Mo_putFlags_40 : decode b_Mo_putFlags 40 = .ok (.ifCond .eq 7, 3) := by decide +kernel
theorem d_Mo_putFlags_43 : decode b_Mo_putFlags 43 = .ok (.iconst 1, 1) := by decide +kernel
theorem d_Mo_putFlags_44 : decode b_Mo_putFlags 44 = .ok (.goto 4, 3) := by decide +kernel
theorem d_Mo_putFlags_47 : decode b_Mo_putFlags 47 = .ok (.iconst 0, 1) := by decide +kernel
theorem d_Mo_putFlags_48 : decode b_Mo_putFlags 48 = .ok (.ldc_w 1228, 3) := by decide +kernel
theorem d_Mo_putFlags_51 : decode b_Mo_putFlags 51 = .ok (.invokevirtual 1201, 3) := by decide +kernel
theorem d_Mo_putFlags_54 : decode b_Mo_putFlags 54 = .ok (.aload_n 0, 1) := by decide +kernel
theorem d_Mo_putFlags_55 : decode b_Mo_putFlags 55 = .ok (.iload_n 1, 1) := by decide +kernel
theorem d_Mo_putFlags_56 : decode b_Mo_putFlags 56 = .ok (.bipush 8, 2) := by decide +kernel
theorem d_Mo_putFlags_58 : decode b_Mo_putFlags 58 = .ok (.iand, 1) := by decide +kernel
theorem d_Mo_putFlags_59 : decode b_Mo_putFlags 59 = .ok (.ifCond .eq 7, 3) := by decide +kernel
theorem d_Mo_putFlags_62 : decode b_Mo_putFlags 62 = .ok (.iconst 1, 1) := by decide +kernel
theorem d_Mo_putFlags_63 : decode b_Mo_putFlags 63 = .ok (.goto 4, 3) := by decide +kernel
theorem d_Mo_putFlags_66 : decode b_Mo_putFlags 66 = .ok (.iconst 0, 1) := by decide +kernel
theorem d_Mo_putFlags_67 : decode b_Mo_putFlags 67 = .ok (.ldc_w 1205, 3) := by decide +kernel
theorem d_Mo_putFlags_70 : decode b_Mo_putFlags 70 = .ok (.invokevirtual 1201, 3) := by decide +kernel
theorem d_Mo_putFlags_73 : decode b_Mo_putFlags 73 = .ok (.return_, 1) := by decide +kernel
abbrev ra_Mo_putFlags (mc ms : Nat) : Room := { frames := 6, cells := mc, slots := ms, locals := 215 }
def wja_Mo_putFlags_67 (mc ms : Nat) (Post : Ly → St → Nat → Nat → Prop) (a0 : Nat) (y_j67 : Ly) (s_j67 : St) (d_j67 e_j67 : Nat) (z1j67 : Int32) : Prop := (d_j67 ≤ mc ∧ e_j67 ≤ ms) ∧ ∃ mc_30 ms_31 : Nat, (d_j67 + mc_30 ≤ mc ∧ e_j67 + ms_31 ≤ ms) ∧ wa_Mo_putFlag mc_30 ms_31 y_j67 (fun (y_27 : Ly) (s_26 : St) (d_28 e_29 : Nat) => (d_j67 + d_28 ≤ mc ∧ e_j67 + e_29 ≤ ms) ∧ Post y_27 s_26 (d_j67 + d_28) (e_j67 + e_29)) s_j67 a0 z1j67 39
def wja_Mo_putFlags_48 (mc ms : Nat) (Post : Ly → St → Nat → Nat → Prop) (a0 : Nat) (y_j48 : Ly) (s_j48 : St) (d_j48 e_j48 : Nat) (x1j48 : Int32) (z1j48 : Int32) : Prop := (d_j48 ≤ mc ∧ e_j48 ≤ ms) ∧ ∃ mc_22 ms_23 : Nat, (d_j48 + mc_22 ≤ mc ∧ e_j48 + ms_23 ≤ ms) ∧ wa_Mo_putFlag mc_22 ms_23 y_j48 (fun (y_19 : Ly) (s_18 : St) (d_20 e_21 : Nat) => (d_j48 + d_20 ≤ mc ∧ e_j48 + e_21 ≤ ms) ∧ (((x1j48 &&& 8) = 0 → wja_Mo_putFlags_67 mc ms Post a0 y_19 s_18 (d_j48 + d_20) (e_j48 + e_21) 0) ∧ (¬ ((x1j48 &&& 8) = 0) → wja_Mo_putFlags_67 mc ms Post a0 y_19 s_18 (d_j48 + d_20) (e_j48 + e_21) 1))) s_j48 a0 z1j48 46
def wja_Mo_putFlags_30 (mc ms : Nat) (Post : Ly → St → Nat → Nat → Prop) (a0 : Nat) (y_j30 : Ly) (s_j30 : St) (d_j30 e_j30 : Nat) (x1j30 : Int32) (z1j30 : Int32) : Prop := (d_j30 ≤ mc ∧ e_j30 ≤ ms) ∧ ∃ mc_14 ms_15 : Nat, (d_j30 + mc_14 ≤ mc ∧ e_j30 + ms_15 ≤ ms) ∧ wa_Mo_putFlag mc_14 ms_15 y_j30 (fun (y_11 : Ly) (s_10 : St) (d_12 e_13 : Nat) => (d_j30 + d_12 ≤ mc ∧ e_j30 + e_13 ≤ ms) ∧ (((x1j30 &&& 4) = 0 → wja_Mo_putFlags_48 mc ms Post a0 y_11 s_10 (d_j30 + d_12) (e_j30 + e_13) x1j30 0) ∧ (¬ ((x1j30 &&& 4) = 0) → wja_Mo_putFlags_48 mc ms Post a0 y_11 s_10 (d_j30 + d_12) (e_j30 + e_13) x1j30 1))) s_j30 a0 z1j30 38
def wja_Mo_putFlags_12 (mc ms : Nat) (Post : Ly → St → Nat → Nat → Prop) (a0 : Nat) (y_j12 : Ly) (s_j12 : St) (d_j12 e_j12 : Nat) (x1j12 : Int32) (z1j12 : Int32) : Prop := (d_j12 ≤ mc ∧ e_j12 ≤ ms) ∧ ∃ mc_6 ms_7 : Nat, (d_j12 + mc_6 ≤ mc ∧ e_j12 + ms_7 ≤ ms) ∧ wa_Mo_putFlag mc_6 ms_7 y_j12 (fun (y_3 : Ly) (s_2 : St) (d_4 e_5 : Nat) => (d_j12 + d_4 ≤ mc ∧ e_j12 + e_5 ≤ ms) ∧ (((x1j12 &&& 2) = 0 → wja_Mo_putFlags_30 mc ms Post a0 y_3 s_2 (d_j12 + d_4) (e_j12 + e_5) x1j12 0) ∧ (¬ ((x1j12 &&& 2) = 0) → wja_Mo_putFlags_30 mc ms Post a0 y_3 s_2 (d_j12 + d_4) (e_j12 + e_5) x1j12 1))) s_j12 a0 z1j12 45
def wa_Mo_putFlags (mc ms : Nat) (y : Ly) (Post : Ly → St → Nat → Nat → Prop) (σ : St) (a0 : Nat) (v1 : Int32) : Prop := (((v1 &&& 1) = 0 → wja_Mo_putFlags_12 mc ms Post a0 y σ 0 0 v1 0) ∧ (¬ ((v1 &&& 1) = 0) → wja_Mo_putFlags_12 mc ms Post a0 y σ 0 0 v1 1))
set_option maxHeartbeats 4000000 in
set_option maxRecDepth 100000 in
theorem ca_Mo_putFlags (l : Launch) (D : va_G) (g : Nat → ClassId) (F : Nat → SL) (sl : List SL) (hF : SOK F sl) (ad : Nat → Nat) (mc ms : Nat) (y : Ly) (Post : Ly → St → Nat → Nat → Prop) (σ : St) (a0 : Nat) (v1 : Int32) (sz uz : Nat) (h_a0 : cl a0 = 14) (h : wa_Mo_putFlags mc ms y Post σ a0 v1) : Met l y_Mo_putFlags (mw y_Mo_putFlags b_Mo_putFlags 2 (none)) (ra_Mo_putFlags mc ms) (PCu g D sl [.ref (ad a0), .int v1] sz uz (ws g ad y σ)) (va_Qv (fun (u : Ly × St × Nat × Nat) => Post u.1 u.2.1 u.2.2.1 u.2.2.2) (QU D (va_A (ws g ad y σ) sz) (fun u => ws g ad u.1 u.2.1) sz uz (fun u => u.2.2.1) (fun u => u.2.2.2)) (va_A (ws g ad y σ) sz)) mc ms (va_A (ws g ad y σ) sz) := by
  refine ofVu (by decide +kernel) (Nat.le_of_ble_eq_true rfl) ?_
  intro p e s m args below meth c A Q ls H locs G hsz hP hD hS hl hret
  subst hsz
  have hl : lv_has ls 2 [(0, .ref (ad a0)), (1, .int v1)] := hl
  have hd : 0 ≤ mc ∧ 0 ≤ ms := ⟨Nat.zero_le _, Nat.zero_le _⟩
  unfold wa_Mo_putFlags at h
  refine lv_aload_n G.1 G.2.1 d_Mo_putFlags_0 rfl (lv_at hl 0 rfl) ?_
  refine lv_iload_n G.1 G.2.1 d_Mo_putFlags_1 rfl (lv_at hl 1 rfl) ?_
  refine lv_iconst (v := 1) G.1 G.2.1 d_Mo_putFlags_2 (by decide) ?_
  refine lv_iand G.1 G.2.1 d_Mo_putFlags_3 ?_
  have J_12 : ∀ (y_j12 : Ly) (s_j12 : St) (d_j12 e_j12 : Nat) (x1j12 : Int32) (z1j12 : Int32) (H : Heap) (locs : List Loc), wja_Mo_putFlags_12 mc ms Post a0 y_j12 s_j12 d_j12 e_j12 x1j12 z1j12 → va_P D CL (ws g ad y_j12 s_j12) H → va_D A (ws g ad y_j12 s_j12) → va_S A s.heap H locs → ∀ ls, lv_has ls 2 [(0, .ref (ad a0)), (1, .int x1j12)] → W p l e (ra_Mo_putFlags mc ms) s m args below meth c H locs d_j12 e_j12 Q (F0 m 12 ls [.int z1j12, .ref (ad a0)]) := by
    intro y_j12 s_j12 d_j12 e_j12 x1j12 z1j12 H locs h hP hD hS ls hl
    unfold wja_Mo_putFlags_12 at h
    obtain ⟨hd, h⟩ := h
    refine uldcw (n := 45) hF rfl G d_Mo_putFlags_12 ?_
    obtain ⟨mc_6, ms_7, hr_8, h⟩ := h
    refine utVv (As := [.int z1j12, .ref (sk (F 45))]) (rest := []) G hP hD hS (ca_Mo_putFlag l D g F sl hF ad mc_6 ms_7 y_j12 _ s_j12 a0 z1j12 45 H.size (us H) h_a0 (by decide +kernel) h) w9_Mo_putFlag q4047 ⟨Nat.le_of_ble_eq_true rfl, Nat.le_of_ble_eq_true rfl⟩ rfl rfl h_a0 (q := (RMo, TMo, 131)) rfl rfl hl.1 rfl (Nat.le_of_ble_eq_true rfl) rfl hr_8 d_Mo_putFlags_15 (fun y_3 s_2 d_4 e_5 H locs h hP hD hS => ?_)
    obtain ⟨hd, h⟩ := h
    refine lv_aload_n G.1 G.2.1 d_Mo_putFlags_18 rfl (lv_at hl 0 rfl) ?_
    refine lv_iload_n G.1 G.2.1 d_Mo_putFlags_19 rfl (lv_at hl 1 rfl) ?_
    refine lv_iconst (v := 2) G.1 G.2.1 d_Mo_putFlags_20 (by decide) ?_
    refine lv_iand G.1 G.2.1 d_Mo_putFlags_21 ?_
    have J_30 : ∀ (y_j30 : Ly) (s_j30 : St) (d_j30 e_j30 : Nat) (x1j30 : Int32) (z1j30 : Int32) (H : Heap) (locs : List Loc), wja_Mo_putFlags_30 mc ms Post a0 y_j30 s_j30 d_j30 e_j30 x1j30 z1j30 → va_P D CL (ws g ad y_j30 s_j30) H → va_D A (ws g ad y_j30 s_j30) → va_S A s.heap H locs → ∀ ls, lv_has ls 2 [(0, .ref (ad a0)), (1, .int x1j30)] → W p l e (ra_Mo_putFlags mc ms) s m args below meth c H locs d_j30 e_j30 Q (F0 m 30 ls [.int z1j30, .ref (ad a0)]) := by
      intro y_j30 s_j30 d_j30 e_j30 x1j30 z1j30 H locs h hP hD hS ls hl
      unfold wja_Mo_putFlags_30 at h
      obtain ⟨hd, h⟩ := h
      refine uldcw (n := 38) hF rfl G d_Mo_putFlags_30 ?_
      obtain ⟨mc_14, ms_15, hr_16, h⟩ := h
      refine utVv (As := [.int z1j30, .ref (sk (F 38))]) (rest := []) G hP hD hS (ca_Mo_putFlag l D g F sl hF ad mc_14 ms_15 y_j30 _ s_j30 a0 z1j30 38 H.size (us H) h_a0 (by decide +kernel) h) w9_Mo_putFlag q4047 ⟨Nat.le_of_ble_eq_true rfl, Nat.le_of_ble_eq_true rfl⟩ rfl rfl h_a0 (q := (RMo, TMo, 131)) rfl rfl hl.1 rfl (Nat.le_of_ble_eq_true rfl) rfl hr_16 d_Mo_putFlags_33 (fun y_11 s_10 d_12 e_13 H locs h hP hD hS => ?_)
      obtain ⟨hd, h⟩ := h
      refine lv_aload_n G.1 G.2.1 d_Mo_putFlags_36 rfl (lv_at hl 0 rfl) ?_
      refine lv_iload_n G.1 G.2.1 d_Mo_putFlags_37 rfl (lv_at hl 1 rfl) ?_
      refine lv_iconst (v := 4) G.1 G.2.1 d_Mo_putFlags_38 (by decide) ?_
      refine lv_iand G.1 G.2.1 d_Mo_putFlags_39 ?_
      have J_48 : ∀ (y_j48 : Ly) (s_j48 : St) (d_j48 e_j48 : Nat) (x1j48 : Int32) (z1j48 : Int32) (H : Heap) (locs : List Loc), wja_Mo_putFlags_48 mc ms Post a0 y_j48 s_j48 d_j48 e_j48 x1j48 z1j48 → va_P D CL (ws g ad y_j48 s_j48) H → va_D A (ws g ad y_j48 s_j48) → va_S A s.heap H locs → ∀ ls, lv_has ls 2 [(0, .ref (ad a0)), (1, .int x1j48)] → W p l e (ra_Mo_putFlags mc ms) s m args below meth c H locs d_j48 e_j48 Q (F0 m 48 ls [.int z1j48, .ref (ad a0)]) := by
        intro y_j48 s_j48 d_j48 e_j48 x1j48 z1j48 H locs h hP hD hS ls hl
        unfold wja_Mo_putFlags_48 at h
        obtain ⟨hd, h⟩ := h
        refine uldcw (n := 46) hF rfl G d_Mo_putFlags_48 ?_
        obtain ⟨mc_22, ms_23, hr_24, h⟩ := h
        refine utVv (As := [.int z1j48, .ref (sk (F 46))]) (rest := []) G hP hD hS (ca_Mo_putFlag l D g F sl hF ad mc_22 ms_23 y_j48 _ s_j48 a0 z1j48 46 H.size (us H) h_a0 (by decide +kernel) h) w9_Mo_putFlag q4047 ⟨Nat.le_of_ble_eq_true rfl, Nat.le_of_ble_eq_true rfl⟩ rfl rfl h_a0 (q := (RMo, TMo, 131)) rfl rfl hl.1 rfl (Nat.le_of_ble_eq_true rfl) rfl hr_24 d_Mo_putFlags_51 (fun y_19 s_18 d_20 e_21 H locs h hP hD hS => ?_)
        obtain ⟨hd, h⟩ := h
        refine lv_aload_n G.1 G.2.1 d_Mo_putFlags_54 rfl (lv_at hl 0 rfl) ?_
        refine lv_iload_n G.1 G.2.1 d_Mo_putFlags_55 rfl (lv_at hl 1 rfl) ?_
        refine lv_bipush (v := 8) G.1 G.2.1 d_Mo_putFlags_56 (by decide) ?_
        refine lv_iand G.1 G.2.1 d_Mo_putFlags_58 ?_
        have J_67 : ∀ (y_j67 : Ly) (s_j67 : St) (d_j67 e_j67 : Nat) (z1j67 : Int32) (H : Heap) (locs : List Loc), wja_Mo_putFlags_67 mc ms Post a0 y_j67 s_j67 d_j67 e_j67 z1j67 → va_P D CL (ws g ad y_j67 s_j67) H → va_D A (ws g ad y_j67 s_j67) → va_S A s.heap H locs → ∀ ls, lv_has ls 2 [] → W p l e (ra_Mo_putFlags mc ms) s m args below meth c H locs d_j67 e_j67 Q (F0 m 67 ls [.int z1j67, .ref (ad a0)]) := by
          intro y_j67 s_j67 d_j67 e_j67 z1j67 H locs h hP hD hS ls hl
          unfold wja_Mo_putFlags_67 at h
          obtain ⟨hd, h⟩ := h
          refine uldcw (n := 39) hF rfl G d_Mo_putFlags_67 ?_
          obtain ⟨mc_30, ms_31, hr_32, h⟩ := h
          refine utVv (As := [.int z1j67, .ref (sk (F 39))]) (rest := []) G hP hD hS (ca_Mo_putFlag l D g F sl hF ad mc_30 ms_31 y_j67 _ s_j67 a0 z1j67 39 H.size (us H) h_a0 (by decide +kernel) h) w9_Mo_putFlag q4047 ⟨Nat.le_of_ble_eq_true rfl, Nat.le_of_ble_eq_true rfl⟩ rfl rfl h_a0 (q := (RMo, TMo, 131)) rfl rfl hl.1 rfl (Nat.le_of_ble_eq_true rfl) rfl hr_32 d_Mo_putFlags_70 (fun y_27 s_26 d_28 e_29 H locs h hP hD hS => ?_)
          obtain ⟨hd, h⟩ := h
          exact hret (y_27, s_26, d_j67 + d_28, e_j67 + e_29) _ _ _ _ _ ls h hP hD hS (Nat.le_refl _) (Nat.le_refl _) hd.1 hd.2 d_Mo_putFlags_73
        refine lv_if_eq (tgt := 66) G.1 G.2.1 d_Mo_putFlags_59 (by decide) (fun c59 => ?_) (fun c59 => ?_)
        · skip
          have h := h.1 c59
          refine lv_iconst (v := 0) G.1 G.2.1 d_Mo_putFlags_66 (by decide) ?_
          exact J_67 y_19 s_18 (d_j48 + d_20) (e_j48 + e_21) 0 H locs h hP hD hS ls (lv_sub hl [] rfl)
        · skip
          have h := h.2 c59
          refine lv_iconst (v := 1) G.1 G.2.1 d_Mo_putFlags_62 (by decide) ?_
          refine lv_goto (tgt := 67) G.1 G.2.1 d_Mo_putFlags_63 (by decide) ?_
          exact J_67 y_19 s_18 (d_j48 + d_20) (e_j48 + e_21) 1 H locs h hP hD hS ls (lv_sub hl [] rfl)
      refine lv_if_eq (tgt := 47) G.1 G.2.1 d_Mo_putFlags_40 (by decide) (fun c40 => ?_) (fun c40 => ?_)
      · skip
        have h := h.1 c40
        refine lv_iconst (v := 0) G.1 G.2.1 d_Mo_putFlags_47 (by decide) ?_
        exact J_48 y_11 s_10 (d_j30 + d_12) (e_j30 + e_13) x1j30 0 H locs h hP hD hS ls (lv_sub hl [0, 1] rfl)
      · skip
        have h := h.2 c40
        refine lv_iconst (v := 1) G.1 G.2.1 d_Mo_putFlags_43 (by decide) ?_
        refine lv_goto (tgt := 48) G.1 G.2.1 d_Mo_putFlags_44 (by decide) ?_
        exact J_48 y_11 s_10 (d_j30 + d_12) (e_j30 + e_13) x1j30 1 H locs h hP hD hS ls (lv_sub hl [0, 1] rfl)
    refine lv_if_eq (tgt := 29) G.1 G.2.1 d_Mo_putFlags_22 (by decide) (fun c22 => ?_) (fun c22 => ?_)
    · skip
      have h := h.1 c22
      refine lv_iconst (v := 0) G.1 G.2.1 d_Mo_putFlags_29 (by decide) ?_
      exact J_30 y_3 s_2 (d_j12 + d_4) (e_j12 + e_5) x1j12 0 H locs h hP hD hS ls (lv_sub hl [0, 1] rfl)
    · skip
      have h := h.2 c22
      refine lv_iconst (v := 1) G.1 G.2.1 d_Mo_putFlags_25 (by decide) ?_
      refine lv_goto (tgt := 30) G.1 G.2.1 d_Mo_putFlags_26 (by decide) ?_
      exact J_30 y_3 s_2 (d_j12 + d_4) (e_j12 + e_5) x1j12 1 H locs h hP hD hS ls (lv_sub hl [0, 1] rfl)
  refine lv_if_eq (tgt := 11) G.1 G.2.1 d_Mo_putFlags_4 (by decide) (fun c4 => ?_) (fun c4 => ?_)
  · skip
    have h := h.1 c4
    refine lv_iconst (v := 0) G.1 G.2.1 d_Mo_putFlags_11 (by decide) ?_
    exact J_12 y σ 0 0 v1 0 H locs h hP hD hS ls (lv_sub hl [0, 1] rfl)
  · skip
    have h := h.2 c4
    refine lv_iconst (v := 1) G.1 G.2.1 d_Mo_putFlags_7 (by decide) ?_
    refine lv_goto (tgt := 12) G.1 G.2.1 d_Mo_putFlags_8 (by decide) ?_
    exact J_12 y σ 0 0 v1 1 H locs h hP hD hS ls (lv_sub hl [0, 1] rfl)
theorem q4062 : Cond.methodLink "ClassWorksModel" 1182 y_Mo_putName ∈ lw_ok := lw_okmem (List.mem_of_getElem? (i := 4062) (by decide +kernel)) rfl
theorem q4065 : Cond.code y_Mo_putName b_Mo_putName 3 (none) ∈ lw_ok := lw_okmem (List.mem_of_getElem? (i := 4065) (by decide +kernel)) rfl
theorem q4064 : Cond.instanceMethod y_Mo_putName ∈ lw_ok := lw_okmem (List.mem_of_getElem? (i := 4064) (by decide +kernel)) rfl
theorem q297 : Cond.selects y_Mo_putName.cls y_Mo_putName y_Mo_putName ∈ lw_ok := lw_okmem (List.mem_of_getElem? (i := 297) (by decide +kernel)) rfl
theorem w9_Mo_putName : CWv y_Mo_putName b_Mo_putName 3 (none) 1 ∧ Cond.instanceMethod y_Mo_putName ∈ lw_ok ∧ Cond.selects y_Mo_putName.cls y_Mo_putName y_Mo_putName ∈ lw_ok := ⟨⟨q4065, q348, by decide +kernel, by decide +kernel, by decide +kernel⟩, q4064, q297⟩
def y_Mo_putType : MethodName := ⟨"ClassWorksModel", "putType", "(I)V"⟩
abbrev b_Mo_putType : ByteArray := prog_14_method_159_code
theorem d_Mo_putType_0 : decode b_Mo_putType 0 = .ok (.iload_n 1, 1) := by decide +kernel
theorem d_Mo_putType_1 : decode b_Mo_putType 1 = .ok (.bipush 16, 2) := by decide +kernel
theorem d_Mo_putType_3 : decode b_Mo_putType 3 = .ok (.if_icmp .lt 14, 3) := by decide +kernel
theorem d_Mo_putType_6 : decode b_Mo_putType 6 = .ok (.aload_n 0, 1) := by decide +kernel
theorem d_Mo_putType_7 : decode b_Mo_putType 7 = .ok (.iload_n 1, 1) := by decide +kernel
theorem d_Mo_putType_8 : decode b_Mo_putType 8 = .ok (.bipush 16, 2) := by decide +kernel
theorem d_Mo_putType_10 : decode b_Mo_putType 10 = .ok (.isub, 1) := by decide +kernel
theorem d_Mo_putType_11 : decode b_Mo_putType 11 = .ok (.invokevirtual 1182, 3) := by decide +kernel
theorem d_Mo_putType_14 : decode b_Mo_putType 14 = .ok (.goto 29, 3) := by decide +kernel
theorem d_Mo_putType_17 : decode b_Mo_putType 17 = .ok (.aload_n 0, 1) := by decide +kernel
theorem d_Mo_putType_18 : decode b_Mo_putType 18 = .ok (.iload_n 1, 1) := by decide +kernel
theorem d_Mo_putType_19 : decode b_Mo_putType 19 = .ok (.ifCond .ne 8, 3) := by decide +kernel
theorem d_Mo_putType_22 : decode b_Mo_putType 22 = .ok (.ldc 215, 2) := by decide +kernel
theorem d_Mo_putType_24 : decode b_Mo_putType 24 = .ok (.goto 16, 3) := by decide +kernel
theorem d_Mo_putType_27 : decode b_Mo_putType 27 = .ok (.iload_n 1, 1) := by decide +kernel
theorem d_Mo_putType_28 : decode b_Mo_putType 28 = .ok (.iconst 1, 1) := by decide +kernel
theorem d_Mo_putType_29 : decode b_Mo_putType 29 = .ok (.if_icmp .ne 9, 3) := by decide +kernel
theorem d_Mo_putType_32 : decode b_Mo_putType 32 = .ok (.ldc_w 1185, 3) := by decide +kernel
theorem d_Mo_putType_35 : decode b_Mo_putType 35 = .ok (.goto 5, 3) := by decide +kernel
theorem d_Mo_putType_38 : decode b_Mo_putType 38 = .ok (.ldc 210, 2) := by decide +kernel
theorem d_Mo_putType_40 : decode b_Mo_putType 40 = .ok (.invokevirtual 1187, 3) := by decide +kernel
theorem d_Mo_putType_43 : decode b_Mo_putType 43 = .ok (.return_, 1) := by decide +kernel
abbrev ra_Mo_putType (mc ms : Nat) : Room := { frames := 5, cells := mc, slots := ms, locals := 193 }
def wja_Mo_putType_43 (mc ms : Nat) (Post : Ly → St → Nat → Nat → Prop) (a0 : Nat) (y_j43 : Ly) (s_j43 : St) (d_j43 e_j43 : Nat) : Prop := (d_j43 ≤ mc ∧ e_j43 ≤ ms) ∧ Post y_j43 s_j43 d_j43 e_j43
def wja_Mo_putType_40 (mc ms : Nat) (Post : Ly → St → Nat → Nat → Prop) (a0 : Nat) (y_j40 : Ly) (s_j40 : St) (d_j40 e_j40 : Nat) (z1j40 : Nat) : Prop := (d_j40 ≤ mc ∧ e_j40 ≤ ms) ∧ z1j40 < strT.length ∧ ∃ mc_6 ms_7 : Nat, (d_j40 + mc_6 ≤ mc ∧ e_j40 + ms_7 ≤ ms) ∧ wa_Mo_putWord mc_6 ms_7 y_j40 (fun (y_3 : Ly) (s_2 : St) (d_4 e_5 : Nat) => (d_j40 + d_4 ≤ mc ∧ e_j40 + e_5 ≤ ms) ∧ wja_Mo_putType_43 mc ms Post a0 y_3 s_2 (d_j40 + d_4) (e_j40 + e_5)) s_j40 a0 z1j40
def wa_Mo_putType (mc ms : Nat) (y : Ly) (Post : Ly → St → Nat → Nat → Prop) (σ : St) (a0 : Nat) (v1 : Int32) : Prop := ((v1 < 16 → ((¬ v1 = 0 → ((¬ v1 = 1 → wja_Mo_putType_40 mc ms Post a0 y σ 0 0 30) ∧ (v1 = 1 → wja_Mo_putType_40 mc ms Post a0 y σ 0 0 47))) ∧ (v1 = 0 → wja_Mo_putType_40 mc ms Post a0 y σ 0 0 31))) ∧ (¬ (v1 < 16) → ∃ mc_14 ms_15 : Nat, (0 + mc_14 ≤ mc ∧ 0 + ms_15 ≤ ms) ∧ wa_Mo_putName mc_14 ms_15 y (fun (y_11 : Ly) (s_10 : St) (d_12 e_13 : Nat) => (0 + d_12 ≤ mc ∧ 0 + e_13 ≤ ms) ∧ wja_Mo_putType_43 mc ms Post a0 y_11 s_10 (0 + d_12) (0 + e_13)) σ a0 (v1 - 16)))
set_option maxHeartbeats 4000000 in
set_option maxRecDepth 100000 in
theorem ca_Mo_putType (l : Launch) (D : va_G) (g : Nat → ClassId) (F : Nat → SL) (sl : List SL) (hF : SOK F sl) (ad : Nat → Nat) (mc ms : Nat) (y : Ly) (Post : Ly → St → Nat → Nat → Prop) (σ : St) (a0 : Nat) (v1 : Int32) (sz uz : Nat) (h_a0 : cl a0 = 14) (h : wa_Mo_putType mc ms y Post σ a0 v1) : Met l y_Mo_putType (mw y_Mo_putType b_Mo_putType 2 (none)) (ra_Mo_putType mc ms) (PCu g D sl [.ref (ad a0), .int v1] sz uz (ws g ad y σ)) (va_Qv (fun (u : Ly × St × Nat × Nat) => Post u.1 u.2.1 u.2.2.1 u.2.2.2) (QU D (va_A (ws g ad y σ) sz) (fun u => ws g ad u.1 u.2.1) sz uz (fun u => u.2.2.1) (fun u => u.2.2.2)) (va_A (ws g ad y σ) sz)) mc ms (va_A (ws g ad y σ) sz) := by
  refine ofVu (by decide +kernel) (Nat.le_of_ble_eq_true rfl) ?_
  intro p e s m args below meth c A Q ls H locs G hsz hP hD hS hl hret
  subst hsz
  have hl : lv_has ls 2 [(0, .ref (ad a0)), (1, .int v1)] := hl
  have hd : 0 ≤ mc ∧ 0 ≤ ms := ⟨Nat.zero_le _, Nat.zero_le _⟩
  unfold wa_Mo_putType at h
  refine lv_iload_n G.1 G.2.1 d_Mo_putType_0 rfl (lv_at hl 1 rfl) ?_
  refine lv_bipush (v := 16) G.1 G.2.1 d_Mo_putType_1 (by decide) ?_
  have J_43 : ∀ (y_j43 : Ly) (s_j43 : St) (d_j43 e_j43 : Nat) (H : Heap) (locs : List Loc), wja_Mo_putType_43 mc ms Post a0 y_j43 s_j43 d_j43 e_j43 → va_P D CL (ws g ad y_j43 s_j43) H → va_D A (ws g ad y_j43 s_j43) → va_S A s.heap H locs → ∀ ls, lv_has ls 2 [] → W p l e (ra_Mo_putType mc ms) s m args below meth c H locs d_j43 e_j43 Q (F0 m 43 ls []) := by
    intro y_j43 s_j43 d_j43 e_j43 H locs h hP hD hS ls hl
    unfold wja_Mo_putType_43 at h
    obtain ⟨hd, h⟩ := h
    exact hret (y_j43, s_j43, d_j43, e_j43) _ _ _ _ _ ls h hP hD hS (Nat.le_refl _) (Nat.le_refl _) hd.1 hd.2 d_Mo_putType_43
  refine lv_icmp_lt (tgt := 17) G.1 G.2.1 d_Mo_putType_3 (by decide) (fun c3 => ?_) (fun c3 => ?_)
  · skip
    have h := h.1 c3
    refine lv_aload_n G.1 G.2.1 d_Mo_putType_17 rfl (lv_at hl 0 rfl) ?_
    refine lv_iload_n G.1 G.2.1 d_Mo_putType_18 rfl (lv_at hl 1 rfl) ?_
    have J_40 : ∀ (y_j40 : Ly) (s_j40 : St) (d_j40 e_j40 : Nat) (z1j40 : Nat) (H : Heap) (locs : List Loc), wja_Mo_putType_40 mc ms Post a0 y_j40 s_j40 d_j40 e_j40 z1j40 → va_P D CL (ws g ad y_j40 s_j40) H → va_D A (ws g ad y_j40 s_j40) → va_S A s.heap H locs → ∀ ls, lv_has ls 2 [] → W p l e (ra_Mo_putType mc ms) s m args below meth c H locs d_j40 e_j40 Q (F0 m 40 ls [.ref (sk (F z1j40)), .ref (ad a0)]) := by
      intro y_j40 s_j40 d_j40 e_j40 z1j40 H locs h hP hD hS ls hl
      unfold wja_Mo_putType_40 at h
      obtain ⟨hd, h⟩ := h
      obtain ⟨c_z1j40, h⟩ := h
      obtain ⟨mc_6, ms_7, hr_8, h⟩ := h
      refine utVv (As := [.ref (sk (F z1j40))]) (rest := []) G hP hD hS (ca_Mo_putWord l D g F sl hF ad mc_6 ms_7 y_j40 _ s_j40 a0 z1j40 H.size (us H) h_a0 c_z1j40 h) w9_Mo_putWord q4051 ⟨Nat.le_of_ble_eq_true rfl, Nat.le_of_ble_eq_true rfl⟩ rfl rfl h_a0 (q := (RMo, TMo, 131)) rfl rfl hl.1 rfl (Nat.le_of_ble_eq_true rfl) rfl hr_8 d_Mo_putType_40 (fun y_3 s_2 d_4 e_5 H locs h hP hD hS => ?_)
      obtain ⟨hd, h⟩ := h
      exact J_43 y_3 s_2 (d_j40 + d_4) (e_j40 + e_5) H locs h hP hD hS ls (lv_sub hl [] rfl)
    refine lv_if_ne (tgt := 27) G.1 G.2.1 d_Mo_putType_19 (by decide) (fun c19 => ?_) (fun c19 => ?_)
    · skip
      have h := h.1 c19
      refine lv_iload_n G.1 G.2.1 d_Mo_putType_27 rfl (lv_at hl 1 rfl) ?_
      refine lv_iconst (v := 1) G.1 G.2.1 d_Mo_putType_28 (by decide) ?_
      refine lv_icmp_ne (tgt := 38) G.1 G.2.1 d_Mo_putType_29 (by decide) (fun c29 => ?_) (fun c29 => ?_)
      · skip
        have h := h.1 c29
        refine uldc (n := 30) hF rfl G d_Mo_putType_38 ?_
        exact J_40 y σ 0 0 30 H locs h hP hD hS ls (lv_sub hl [] rfl)
      · skip
        have h := h.2 c29
        refine uldcw (n := 47) hF rfl G d_Mo_putType_32 ?_
        refine lv_goto (tgt := 40) G.1 G.2.1 d_Mo_putType_35 (by decide) ?_
        exact J_40 y σ 0 0 47 H locs h hP hD hS ls (lv_sub hl [] rfl)
    · skip
      have h := h.2 c19
      refine uldc (n := 31) hF rfl G d_Mo_putType_22 ?_
      refine lv_goto (tgt := 40) G.1 G.2.1 d_Mo_putType_24 (by decide) ?_
      exact J_40 y σ 0 0 31 H locs h hP hD hS ls (lv_sub hl [] rfl)
  · skip
    have h := h.2 c3
    refine lv_aload_n G.1 G.2.1 d_Mo_putType_6 rfl (lv_at hl 0 rfl) ?_
    refine lv_iload_n G.1 G.2.1 d_Mo_putType_7 rfl (lv_at hl 1 rfl) ?_
    refine lv_bipush (v := 16) G.1 G.2.1 d_Mo_putType_8 (by decide) ?_
    refine lv_isub G.1 G.2.1 d_Mo_putType_10 ?_
    obtain ⟨mc_14, ms_15, hr_16, h⟩ := h
    refine uaVv (As := [.int (v1 - 16)]) (rest := []) G hP hD hS (ca_Mo_putName l D g ad mc_14 ms_15 y _ σ a0 (v1 - 16) H.size (us H) h_a0 h) w9_Mo_putName q4062 ⟨Nat.le_of_ble_eq_true rfl, Nat.le_of_ble_eq_true rfl⟩ rfl rfl h_a0 (q := (RMo, TMo, 131)) rfl rfl hl.1 rfl (Nat.le_of_ble_eq_true rfl) rfl hr_16 d_Mo_putType_11 (fun y_11 s_10 d_12 e_13 H locs h hP hD hS => ?_)
    have hl := lv_sub (l' := []) hl [] rfl
    obtain ⟨hd, h⟩ := h
    refine lv_goto (tgt := 43) G.1 G.2.1 d_Mo_putType_14 (by decide) ?_
    exact J_43 y_11 s_10 (0 + d_12) (0 + e_13) H locs h hP hD hS ls (lv_sub hl [] rfl)
def y_Mo_putNumber : MethodName := ⟨"ClassWorksModel", "putNumber", "(I)V"⟩
abbrev b_Mo_putNumber : ByteArray := prog_14_method_158_code
theorem d_Mo_putNumber_0 : decode b_Mo_putNumber 0 = .ok (.iload_n 1, 1) := by decide +kernel
theorem d_Mo_putNumber_1 : decode b_Mo_putNumber 1 = .ok (.ifCond .ge 9, 3) := by decide +kernel
theorem d_Mo_putNumber_4 : decode b_Mo_putNumber 4 = .ok (.iload_n 1, 1) := by decide +kernel
theorem d_Mo_putNumber_5 : decode b_Mo_putNumber 5 = .ok (.i2l, 1) := by decide +kernel
theorem d_Mo_putNumber_6 : decode b_Mo_putNumber 6 = .ok (.lneg, 1) := by decide +kernel
theorem d_Mo_putNumber_7 : decode b_Mo_putNumber 7 = .ok (.goto 5, 3) := by decide +kernel
theorem d_Mo_putNumber_10 : decode b_Mo_putNumber 10 = .ok (.iload_n 1, 1) := by decide +kernel
theorem d_Mo_putNumber_11 : decode b_Mo_putNumber 11 = .ok (.i2l, 1) := by decide +kernel
theorem d_Mo_putNumber_12 : decode b_Mo_putNumber 12 = .ok (.lstore_n 2, 1) := by decide +kernel
theorem d_Mo_putNumber_13 : decode b_Mo_putNumber 13 = .ok (.lconst 1, 1) := by decide +kernel
theorem d_Mo_putNumber_14 : decode b_Mo_putNumber 14 = .ok (.lstore 4, 2) := by decide +kernel
theorem d_Mo_putNumber_16 : decode b_Mo_putNumber 16 = .ok (.lload 4, 2) := by decide +kernel
theorem d_Mo_putNumber_18 : decode b_Mo_putNumber 18 = .ok (.ldc2_w 130, 3) := by decide +kernel
theorem d_Mo_putNumber_21 : decode b_Mo_putNumber 21 = .ok (.lmul, 1) := by decide +kernel
theorem d_Mo_putNumber_22 : decode b_Mo_putNumber 22 = .ok (.lload_n 2, 1) := by decide +kernel
theorem d_Mo_putNumber_23 : decode b_Mo_putNumber 23 = .ok (.lcmp, 1) := by decide +kernel
theorem d_Mo_putNumber_24 : decode b_Mo_putNumber 24 = .ok (.ifCond .gt 14, 3) := by decide +kernel
theorem d_Mo_putNumber_27 : decode b_Mo_putNumber 27 = .ok (.lload 4, 2) := by decide +kernel
theorem d_Mo_putNumber_29 : decode b_Mo_putNumber 29 = .ok (.ldc2_w 130, 3) := by decide +kernel
theorem d_Mo_putNumber_32 : decode b_Mo_putNumber 32 = .ok (.lmul, 1) := by decide +kernel
theorem d_Mo_putNumber_33 : decode b_Mo_putNumber 33 = .ok (.lstore 4, 2) := by decide +kernel
theorem d_Mo_putNumber_35 : decode b_Mo_putNumber 35 = .ok (.goto (-19), 3) := by decide +kernel
theorem d_Mo_putNumber_38 : decode b_Mo_putNumber 38 = .ok (.iload_n 1, 1) := by decide +kernel
theorem d_Mo_putNumber_39 : decode b_Mo_putNumber 39 = .ok (.ifCond .ge 9, 3) := by decide +kernel
theorem d_Mo_putNumber_42 : decode b_Mo_putNumber 42 = .ok (.aload_n 0, 1) := by decide +kernel
theorem d_Mo_putNumber_43 : decode b_Mo_putNumber 43 = .ok (.bipush 45, 2) := by decide +kernel
theorem d_Mo_putNumber_45 : decode b_Mo_putNumber 45 = .ok (.invokevirtual 1179, 3) := by decide +kernel
theorem d_Mo_putNumber_48 : decode b_Mo_putNumber 48 = .ok (.lload 4, 2) := by decide +kernel
theorem d_Mo_putNumber_50 : decode b_Mo_putNumber 50 = .ok (.lconst 0, 1) := by decide +kernel
theorem d_Mo_putNumber_51 : decode b_Mo_putNumber 51 = .ok (.lcmp, 1) := by decide +kernel
theorem d_Mo_putNumber_52 : decode b_Mo_putNumber 52 = .ok (.ifCond .le 31, 3) := by decide +kernel
theorem d_Mo_putNumber_55 : decode b_Mo_putNumber 55 = .ok (.aload_n 0, 1) := by decide +kernel
theorem d_Mo_putNumber_56 : decode b_Mo_putNumber 56 = .ok (.ldc2_w 132, 3) := by decide +kernel
theorem d_Mo_putNumber_59 : decode b_Mo_putNumber 59 = .ok (.lload_n 2, 1) := by decide +kernel
theorem d_Mo_putNumber_60 : decode b_Mo_putNumber 60 = .ok (.lload 4, 2) := by decide +kernel
theorem d_Mo_putNumber_62 : decode b_Mo_putNumber 62 = .ok (.ldiv, 1) := by decide +kernel
theorem d_Mo_putNumber_63 : decode b_Mo_putNumber 63 = .ok (.ldc2_w 130, 3) := by decide +kernel
theorem d_Mo_putNumber_66 : decode b_Mo_putNumber 66 = .ok (.lrem, 1) := by decide +kernel
theorem d_Mo_putNumber_67 : decode b_Mo_putNumber 67 = .ok (.ladd, 1) := by decide +kernel
theorem d_Mo_putNumber_68 : decode b_Mo_putNumber 68 = .ok (.l2i, 1) := by decide +kernel
theorem d_Mo_putNumber_69 : decode b_Mo_putNumber 69 = .ok (.invokevirtual 1179, 3) := by decide +kernel
theorem d_Mo_putNumber_72 : decode b_Mo_putNumber 72 = .ok (.lload 4, 2) := by decide +kernel
theorem d_Mo_putNumber_74 : decode b_Mo_putNumber 74 = .ok (.ldc2_w 130, 3) := by decide +kernel
theorem d_Mo_putNumber_77 : decode b_Mo_putNumber 77 = .ok (.ldiv, 1) := by decide +kernel
theorem d_Mo_putNumber_78 : decode b_Mo_putNumber 78 = .ok (.lstore 4, 2) := by decide +kernel
theorem d_Mo_putNumber_80 : decode b_Mo_putNumber 80 = .ok (.goto (-32), 3) := by decide +kernel
theorem d_Mo_putNumber_83 : decode b_Mo_putNumber 83 = .ok (.return_, 1) := by decide +kernel
abbrev ra_Mo_putNumber (mc ms : Nat) : Room := { frames := 3, cells := mc, slots := ms, locals := 171 }
def wba_Mo_putNumber_48 (mc ms : Nat) (Post : Ly → St → Nat → Nat → Prop) (K_48 : Ly → St → Nat → Nat → Int64 → Int64 → Prop) (a0 : Nat) (y_h48 : Ly) (s_h48 : St) (d_h48 e_h48 : Nat) (x2h48 : Int64) (x4h48 : Int64) : Prop := (d_h48 ≤ mc ∧ e_h48 ≤ ms) ∧ (((lg_cmp x4h48 0) ≤ 0 → Post y_h48 s_h48 d_h48 e_h48) ∧ (¬ ((lg_cmp x4h48 0) ≤ 0) → ¬ x4h48 = 0 ∧ ∃ mc_7 ms_8 : Nat, (d_h48 + mc_7 ≤ mc ∧ e_h48 + ms_8 ≤ ms) ∧ wa_Mo_put mc_7 ms_8 y_h48 (fun (y_4 : Ly) (s_3 : St) (d_5 e_6 : Nat) => (d_h48 + d_5 ≤ mc ∧ e_h48 + e_6 ≤ ms) ∧ K_48 y_4 s_3 (d_h48 + d_5) (e_h48 + e_6) x2h48 (x4h48 / (10))) s_h48 a0 (((48) + ((x2h48 / x4h48) - (x2h48 / x4h48) / (10) * (10))).toInt32)))
def wla_Mo_putNumber_48 (mc ms : Nat) (Post : Ly → St → Nat → Nat → Prop) (a0 : Nat) (y_h48 : Ly) (s_h48 : St) (d_h48 e_h48 : Nat) (x2h48 : Int64) (x4h48 : Int64) : Prop := ∃ (I : Ly → St → Nat → Nat → Int64 → Int64 → Prop) (μ : Ly → St → Nat → Nat → Int64 → Int64 → Nat), I y_h48 s_h48 d_h48 e_h48 x2h48 x4h48 ∧ ∀ (u1 : Ly) (u2 : St) (u3 u4 : Nat) (t0 : Int64) (t1 : Int64), I u1 u2 u3 u4 t0 t1 → wba_Mo_putNumber_48 mc ms Post (fun z1 z2 z3 z4 t0q t1q => I z1 z2 z3 z4 t0q t1q ∧ μ z1 z2 z3 z4 t0q t1q < μ u1 u2 u3 u4 t0 t1) a0 u1 u2 u3 u4 t0 t1
def wja_Mo_putNumber_48 (mc ms : Nat) (Post : Ly → St → Nat → Nat → Prop) (a0 : Nat) (y_j48 : Ly) (s_j48 : St) (d_j48 e_j48 : Nat) (x2j48 : Int64) (x4j48 : Int64) : Prop := (d_j48 ≤ mc ∧ e_j48 ≤ ms) ∧ wla_Mo_putNumber_48 mc ms Post a0 y_j48 s_j48 d_j48 e_j48 x2j48 x4j48
def wba_Mo_putNumber_16 (mc ms : Nat) (Post : Ly → St → Nat → Nat → Prop) (K_16 : Ly → St → Nat → Nat → Int32 → Int64 → Int64 → Prop) (a0 : Nat) (y_h16 : Ly) (s_h16 : St) (d_h16 e_h16 : Nat) (x1h16 : Int32) (x2h16 : Int64) (x4h16 : Int64) : Prop := (d_h16 ≤ mc ∧ e_h16 ≤ ms) ∧ ((0 < (lg_cmp (x4h16 * (10)) x2h16) → ((0 ≤ x1h16 → wja_Mo_putNumber_48 mc ms Post a0 y_h16 s_h16 d_h16 e_h16 x2h16 x4h16) ∧ (¬ (0 ≤ x1h16) → ∃ mc_15 ms_16 : Nat, (d_h16 + mc_15 ≤ mc ∧ e_h16 + ms_16 ≤ ms) ∧ wa_Mo_put mc_15 ms_16 y_h16 (fun (y_12 : Ly) (s_11 : St) (d_13 e_14 : Nat) => (d_h16 + d_13 ≤ mc ∧ e_h16 + e_14 ≤ ms) ∧ wja_Mo_putNumber_48 mc ms Post a0 y_12 s_11 (d_h16 + d_13) (e_h16 + e_14) x2h16 x4h16) s_h16 a0 45))) ∧ (¬ (0 < (lg_cmp (x4h16 * (10)) x2h16)) → K_16 y_h16 s_h16 d_h16 e_h16 x1h16 x2h16 (x4h16 * (10))))
def wla_Mo_putNumber_16 (mc ms : Nat) (Post : Ly → St → Nat → Nat → Prop) (a0 : Nat) (y_h16 : Ly) (s_h16 : St) (d_h16 e_h16 : Nat) (x1h16 : Int32) (x2h16 : Int64) (x4h16 : Int64) : Prop := ∃ (I : Ly → St → Nat → Nat → Int32 → Int64 → Int64 → Prop) (μ : Ly → St → Nat → Nat → Int32 → Int64 → Int64 → Nat), I y_h16 s_h16 d_h16 e_h16 x1h16 x2h16 x4h16 ∧ ∀ (u1 : Ly) (u2 : St) (u3 u4 : Nat) (t0 : Int32) (t1 : Int64) (t2 : Int64), I u1 u2 u3 u4 t0 t1 t2 → wba_Mo_putNumber_16 mc ms Post (fun z1 z2 z3 z4 t0q t1q t2q => I z1 z2 z3 z4 t0q t1q t2q ∧ μ z1 z2 z3 z4 t0q t1q t2q < μ u1 u2 u3 u4 t0 t1 t2) a0 u1 u2 u3 u4 t0 t1 t2
def wja_Mo_putNumber_12 (mc ms : Nat) (Post : Ly → St → Nat → Nat → Prop) (a0 : Nat) (y_j12 : Ly) (s_j12 : St) (d_j12 e_j12 : Nat) (x1j12 : Int32) (z0j12 : Int64) : Prop := (d_j12 ≤ mc ∧ e_j12 ≤ ms) ∧ wla_Mo_putNumber_16 mc ms Post a0 y_j12 s_j12 d_j12 e_j12 x1j12 z0j12 1
def wa_Mo_putNumber (mc ms : Nat) (y : Ly) (Post : Ly → St → Nat → Nat → Prop) (σ : St) (a0 : Nat) (v1 : Int32) : Prop := ((0 ≤ v1 → wja_Mo_putNumber_12 mc ms Post a0 y σ 0 0 v1 v1.toInt64) ∧ (¬ (0 ≤ v1) → wja_Mo_putNumber_12 mc ms Post a0 y σ 0 0 v1 (-v1.toInt64)))
set_option maxHeartbeats 4000000 in
set_option maxRecDepth 100000 in
theorem ca_Mo_putNumber (l : Launch) (D : va_G) (g : Nat → ClassId) (ad : Nat → Nat) (mc ms : Nat) (y : Ly) (Post : Ly → St → Nat → Nat → Prop) (σ : St) (a0 : Nat) (v1 : Int32) (sz uz : Nat) (h_a0 : cl a0 = 14) (h : wa_Mo_putNumber mc ms y Post σ a0 v1) : Met l y_Mo_putNumber (mw y_Mo_putNumber b_Mo_putNumber 6 (none)) (ra_Mo_putNumber mc ms) (PCu g D [] [.ref (ad a0), .int v1] sz uz (ws g ad y σ)) (va_Qv (fun (u : Ly × St × Nat × Nat) => Post u.1 u.2.1 u.2.2.1 u.2.2.2) (QU D (va_A (ws g ad y σ) sz) (fun u => ws g ad u.1 u.2.1) sz uz (fun u => u.2.2.1) (fun u => u.2.2.2)) (va_A (ws g ad y σ) sz)) mc ms (va_A (ws g ad y σ) sz) := by
  refine ofVu (by decide +kernel) (Nat.le_of_ble_eq_true rfl) ?_
  intro p e s m args below meth c A Q ls H locs G hsz hP hD hS hl hret
  subst hsz
  have hl : lv_has ls 6 [(0, .ref (ad a0)), (1, .int v1)] := hl
  have hd : 0 ≤ mc ∧ 0 ≤ ms := ⟨Nat.zero_le _, Nat.zero_le _⟩
  unfold wa_Mo_putNumber at h
  refine lv_iload_n G.1 G.2.1 d_Mo_putNumber_0 rfl (lv_at hl 1 rfl) ?_
  have J_12 : ∀ (y_j12 : Ly) (s_j12 : St) (d_j12 e_j12 : Nat) (x1j12 : Int32) (z0j12 : Int64) (H : Heap) (locs : List Loc), wja_Mo_putNumber_12 mc ms Post a0 y_j12 s_j12 d_j12 e_j12 x1j12 z0j12 → va_P D CL (ws g ad y_j12 s_j12) H → va_D A (ws g ad y_j12 s_j12) → va_S A s.heap H locs → ∀ ls, lv_has ls 6 [(0, .ref (ad a0)), (1, .int x1j12)] → W p l e (ra_Mo_putNumber mc ms) s m args below meth c H locs d_j12 e_j12 Q (F0 m 12 ls [.long z0j12]) := by
    intro y_j12 s_j12 d_j12 e_j12 x1j12 z0j12 H locs h hP hD hS ls hl
    unfold wja_Mo_putNumber_12 at h
    obtain ⟨hd, h⟩ := h
    refine lv_lstore_n (lv' := [(2, .long z0j12), (0, .ref (ad a0)), (1, .int x1j12)]) G.1 G.2.1 d_Mo_putNumber_12 rfl hl (by decide) rfl (fun ls hl => ?_)
    refine lv_lconst (v := 1) G.1 G.2.1 d_Mo_putNumber_13 (by decide) ?_
    refine lv_lstore (lv' := [(4, .long 1), (2, .long z0j12), (0, .ref (ad a0)), (1, .int x1j12)]) G.1 G.2.1 d_Mo_putNumber_14 hl (by decide) rfl (fun ls hl => ?_)
    unfold wla_Mo_putNumber_16 at h
    obtain ⟨I_16, μ_16, hI_16, hB_16⟩ := h
    have L_16 : ∀ (n_16 : Nat) (y_h16 : Ly) (s_h16 : St) (d_h16 e_h16 : Nat) (x1h16 : Int32) (x2h16 : Int64) (x4h16 : Int64), μ_16 y_h16 s_h16 d_h16 e_h16 x1h16 x2h16 x4h16 < n_16 → I_16 y_h16 s_h16 d_h16 e_h16 x1h16 x2h16 x4h16 → ∀ (H : Heap) (locs : List Loc), va_P D CL (ws g ad y_h16 s_h16) H → va_D A (ws g ad y_h16 s_h16) → va_S A s.heap H locs → ∀ ls, lv_has ls 6 [(0, .ref (ad a0)), (1, .int x1h16), (2, .long x2h16), (4, .long x4h16)] → W p l e (ra_Mo_putNumber mc ms) s m args below meth c H locs d_h16 e_h16 Q (F0 m 16 ls []) := by
      intro n_16
      induction n_16 with
      | zero => intro y_h16 s_h16 d_h16 e_h16 x1h16 x2h16 x4h16 hμ; exact absurd hμ (Nat.not_lt_zero _)
      | succ n_16 ih_16 =>
        intro y_h16 s_h16 d_h16 e_h16 x1h16 x2h16 x4h16 hμ_16 hJ H locs hP hD hS ls hl
        obtain ⟨K_16, hK_16, h⟩ : ∃ K : Ly → St → Nat → Nat → Int32 → Int64 → Int64 → Prop, (∀ z1 z2 z3 z4 (t0 : Int32) (t1 : Int64) (t2 : Int64), K z1 z2 z3 z4 t0 t1 t2 → I_16 z1 z2 z3 z4 t0 t1 t2 ∧ μ_16 z1 z2 z3 z4 t0 t1 t2 < μ_16 y_h16 s_h16 d_h16 e_h16 x1h16 x2h16 x4h16) ∧ wba_Mo_putNumber_16 mc ms Post K a0 y_h16 s_h16 d_h16 e_h16 x1h16 x2h16 x4h16 := ⟨_, fun _ _ _ _ _ _ _ h => h, hB_16 y_h16 s_h16 d_h16 e_h16 x1h16 x2h16 x4h16 hJ⟩
        unfold wba_Mo_putNumber_16 at h
        obtain ⟨hd, h⟩ := h
        refine lv_lload G.1 G.2.1 d_Mo_putNumber_16 (lv_at hl 3 rfl) ?_
        refine lv_ldc2 (v := (10)) G.1 G.2.1 G.2.2.2.2.2.2.1 (G.2.2.2.2.2.1 _ q3512) d_Mo_putNumber_18 ?_
        refine lv_lmul G.1 G.2.1 d_Mo_putNumber_21 ?_
        refine lv_lload_n G.1 G.2.1 d_Mo_putNumber_22 rfl (lv_at hl 2 rfl) ?_
        refine W.lcmp G.1 G.2.1 d_Mo_putNumber_23 ?_
        refine lv_if_gt (tgt := 38) G.1 G.2.1 d_Mo_putNumber_24 (by decide) (fun c24 => ?_) (fun c24 => ?_)
        · skip
          have h := h.1 c24
          refine lv_iload_n G.1 G.2.1 d_Mo_putNumber_38 rfl (lv_at hl 1 rfl) ?_
          have J_48 : ∀ (y_j48 : Ly) (s_j48 : St) (d_j48 e_j48 : Nat) (x2j48 : Int64) (x4j48 : Int64) (H : Heap) (locs : List Loc), wja_Mo_putNumber_48 mc ms Post a0 y_j48 s_j48 d_j48 e_j48 x2j48 x4j48 → va_P D CL (ws g ad y_j48 s_j48) H → va_D A (ws g ad y_j48 s_j48) → va_S A s.heap H locs → ∀ ls, lv_has ls 6 [(0, .ref (ad a0)), (2, .long x2j48), (4, .long x4j48)] → W p l e (ra_Mo_putNumber mc ms) s m args below meth c H locs d_j48 e_j48 Q (F0 m 48 ls []) := by
            intro y_j48 s_j48 d_j48 e_j48 x2j48 x4j48 H locs h hP hD hS ls hl
            unfold wja_Mo_putNumber_48 at h
            obtain ⟨hd, h⟩ := h
            unfold wla_Mo_putNumber_48 at h
            obtain ⟨I_48, μ_48, hI_48, hB_48⟩ := h
            have L_48 : ∀ (n_48 : Nat) (y_h48 : Ly) (s_h48 : St) (d_h48 e_h48 : Nat) (x2h48 : Int64) (x4h48 : Int64), μ_48 y_h48 s_h48 d_h48 e_h48 x2h48 x4h48 < n_48 → I_48 y_h48 s_h48 d_h48 e_h48 x2h48 x4h48 → ∀ (H : Heap) (locs : List Loc), va_P D CL (ws g ad y_h48 s_h48) H → va_D A (ws g ad y_h48 s_h48) → va_S A s.heap H locs → ∀ ls, lv_has ls 6 [(0, .ref (ad a0)), (2, .long x2h48), (4, .long x4h48)] → W p l e (ra_Mo_putNumber mc ms) s m args below meth c H locs d_h48 e_h48 Q (F0 m 48 ls []) := by
              intro n_48
              induction n_48 with
              | zero => intro y_h48 s_h48 d_h48 e_h48 x2h48 x4h48 hμ; exact absurd hμ (Nat.not_lt_zero _)
              | succ n_48 ih_48 =>
                intro y_h48 s_h48 d_h48 e_h48 x2h48 x4h48 hμ_48 hJ H locs hP hD hS ls hl
                obtain ⟨K_48, hK_48, h⟩ : ∃ K : Ly → St → Nat → Nat → Int64 → Int64 → Prop, (∀ z1 z2 z3 z4 (t0 : Int64) (t1 : Int64), K z1 z2 z3 z4 t0 t1 → I_48 z1 z2 z3 z4 t0 t1 ∧ μ_48 z1 z2 z3 z4 t0 t1 < μ_48 y_h48 s_h48 d_h48 e_h48 x2h48 x4h48) ∧ wba_Mo_putNumber_48 mc ms Post K a0 y_h48 s_h48 d_h48 e_h48 x2h48 x4h48 := ⟨_, fun _ _ _ _ _ _ h => h, hB_48 y_h48 s_h48 d_h48 e_h48 x2h48 x4h48 hJ⟩
                unfold wba_Mo_putNumber_48 at h
                obtain ⟨hd, h⟩ := h
                refine lv_lload G.1 G.2.1 d_Mo_putNumber_48 (lv_at hl 2 rfl) ?_
                refine lv_lconst (v := 0) G.1 G.2.1 d_Mo_putNumber_50 (by decide) ?_
                refine W.lcmp G.1 G.2.1 d_Mo_putNumber_51 ?_
                refine lv_if_le (tgt := 83) G.1 G.2.1 d_Mo_putNumber_52 (by decide) (fun c52 => ?_) (fun c52 => ?_)
                · skip
                  have h := h.1 c52
                  exact hret (y_h48, s_h48, d_h48, e_h48) _ _ _ _ _ ls h hP hD hS (Nat.le_refl _) (Nat.le_refl _) hd.1 hd.2 d_Mo_putNumber_83
                · skip
                  have h := h.2 c52
                  refine lv_aload_n G.1 G.2.1 d_Mo_putNumber_55 rfl (lv_at hl 0 rfl) ?_
                  refine lv_ldc2 (v := (48)) G.1 G.2.1 G.2.2.2.2.2.2.1 (G.2.2.2.2.2.1 _ q3513) d_Mo_putNumber_56 ?_
                  refine lv_lload_n G.1 G.2.1 d_Mo_putNumber_59 rfl (lv_at hl 1 rfl) ?_
                  refine lv_lload G.1 G.2.1 d_Mo_putNumber_60 (lv_at hl 2 rfl) ?_
                  obtain ⟨n_1, h⟩ := h
                  refine lv_ldiv G.1 G.2.1 d_Mo_putNumber_62 n_1 ?_
                  refine lv_ldc2 (v := (10)) G.1 G.2.1 G.2.2.2.2.2.2.1 (G.2.2.2.2.2.1 _ q3512) d_Mo_putNumber_63 ?_
                  refine lv_lrem G.1 G.2.1 d_Mo_putNumber_66 (by decide) ?_
                  refine W.eq (g2 := F0 m 67 ls [.long ((x2h48 / x4h48) - (x2h48 / x4h48) / (10) * (10)), .long (48), .ref (ad a0)]) rfl ?_
                  refine lv_ladd G.1 G.2.1 d_Mo_putNumber_67 ?_
                  refine lv_l2i G.1 G.2.1 d_Mo_putNumber_68 rfl ?_
                  obtain ⟨mc_7, ms_8, hr_9, h⟩ := h
                  refine uaVv (As := [.int (((48) + ((x2h48 / x4h48) - (x2h48 / x4h48) / (10) * (10))).toInt32)]) (rest := []) G hP hD hS (ca_Mo_put l D g ad mc_7 ms_8 y_h48 _ s_h48 a0 (((48) + ((x2h48 / x4h48) - (x2h48 / x4h48) / (10) * (10))).toInt32) H.size (us H) h_a0 h) w9_Mo_put q4055 ⟨Nat.le_of_ble_eq_true rfl, Nat.le_of_ble_eq_true rfl⟩ rfl rfl h_a0 (q := (RMo, TMo, 131)) rfl rfl hl.1 rfl (Nat.le_of_ble_eq_true rfl) rfl hr_9 d_Mo_putNumber_69 (fun y_4 s_3 d_5 e_6 H locs h hP hD hS => ?_)
                  obtain ⟨hd, h⟩ := h
                  refine lv_lload G.1 G.2.1 d_Mo_putNumber_72 (lv_at hl 2 rfl) ?_
                  refine lv_ldc2 (v := (10)) G.1 G.2.1 G.2.2.2.2.2.2.1 (G.2.2.2.2.2.1 _ q3512) d_Mo_putNumber_74 ?_
                  refine lv_ldiv G.1 G.2.1 d_Mo_putNumber_77 (by decide) ?_
                  refine lv_lstore (lv' := [(4, .long (x4h48 / (10))), (0, .ref (ad a0)), (2, .long x2h48)]) G.1 G.2.1 d_Mo_putNumber_78 hl (by decide) rfl (fun ls hl => ?_)
                  refine lv_goto (tgt := 48) G.1 G.2.1 d_Mo_putNumber_80 (by decide) ?_
                  have h := hK_48 y_4 s_3 (d_h48 + d_5) (e_h48 + e_6) x2h48 (x4h48 / (10)) h
                  exact ih_48 y_4 s_3 (d_h48 + d_5) (e_h48 + e_6) x2h48 (x4h48 / (10)) (Nat.lt_of_lt_of_le h.2 (Nat.le_of_lt_succ hμ_48)) h.1 H locs hP hD hS ls (lv_sub hl [1, 2, 0] rfl)
            exact L_48 _ y_j48 s_j48 d_j48 e_j48 x2j48 x4j48 (Nat.lt_succ_self _) hI_48 H locs hP hD hS ls (lv_sub hl [0, 1, 2] rfl)
          refine lv_if_ge (tgt := 48) G.1 G.2.1 d_Mo_putNumber_39 (by decide) (fun c39 => ?_) (fun c39 => ?_)
          · skip
            have h := h.1 c39
            exact J_48 y_h16 s_h16 d_h16 e_h16 x2h16 x4h16 H locs h hP hD hS ls (lv_sub hl [0, 2, 3] rfl)
          · skip
            have h := h.2 c39
            refine lv_aload_n G.1 G.2.1 d_Mo_putNumber_42 rfl (lv_at hl 0 rfl) ?_
            refine lv_bipush (v := 45) G.1 G.2.1 d_Mo_putNumber_43 (by decide) ?_
            obtain ⟨mc_15, ms_16, hr_17, h⟩ := h
            refine uaVv (As := [.int 45]) (rest := []) G hP hD hS (ca_Mo_put l D g ad mc_15 ms_16 y_h16 _ s_h16 a0 45 H.size (us H) h_a0 h) w9_Mo_put q4055 ⟨Nat.le_of_ble_eq_true rfl, Nat.le_of_ble_eq_true rfl⟩ rfl rfl h_a0 (q := (RMo, TMo, 131)) rfl rfl hl.1 rfl (Nat.le_of_ble_eq_true rfl) rfl hr_17 d_Mo_putNumber_45 (fun y_12 s_11 d_13 e_14 H locs h hP hD hS => ?_)
            have hl := lv_sub (l' := [(0, .ref (ad a0)), (2, .long x2h16), (4, .long x4h16)]) hl [0, 2, 3] rfl
            obtain ⟨hd, h⟩ := h
            exact J_48 y_12 s_11 (d_h16 + d_13) (e_h16 + e_14) x2h16 x4h16 H locs h hP hD hS ls (lv_sub hl [0, 1, 2] rfl)
        · skip
          have h := h.2 c24
          refine lv_lload G.1 G.2.1 d_Mo_putNumber_27 (lv_at hl 3 rfl) ?_
          refine lv_ldc2 (v := (10)) G.1 G.2.1 G.2.2.2.2.2.2.1 (G.2.2.2.2.2.1 _ q3512) d_Mo_putNumber_29 ?_
          refine lv_lmul G.1 G.2.1 d_Mo_putNumber_32 ?_
          refine lv_lstore (lv' := [(4, .long (x4h16 * (10))), (0, .ref (ad a0)), (1, .int x1h16), (2, .long x2h16)]) G.1 G.2.1 d_Mo_putNumber_33 hl (by decide) rfl (fun ls hl => ?_)
          refine lv_goto (tgt := 16) G.1 G.2.1 d_Mo_putNumber_35 (by decide) ?_
          have h := hK_16 y_h16 s_h16 d_h16 e_h16 x1h16 x2h16 (x4h16 * (10)) h
          exact ih_16 y_h16 s_h16 d_h16 e_h16 x1h16 x2h16 (x4h16 * (10)) (Nat.lt_of_lt_of_le h.2 (Nat.le_of_lt_succ hμ_16)) h.1 H locs hP hD hS ls (lv_sub hl [1, 2, 3, 0] rfl)
    exact L_16 _ y_j12 s_j12 d_j12 e_j12 x1j12 z0j12 1 (Nat.lt_succ_self _) hI_16 H locs hP hD hS ls (lv_sub hl [2, 3, 1, 0] rfl)
  refine lv_if_ge (tgt := 10) G.1 G.2.1 d_Mo_putNumber_1 (by decide) (fun c1 => ?_) (fun c1 => ?_)
  · skip
    have h := h.1 c1
    refine lv_iload_n G.1 G.2.1 d_Mo_putNumber_10 rfl (lv_at hl 1 rfl) ?_
    refine lv_i2l G.1 G.2.1 d_Mo_putNumber_11 rfl ?_
    exact J_12 y σ 0 0 v1 v1.toInt64 H locs h hP hD hS ls (lv_sub hl [0, 1] rfl)
  · skip
    have h := h.2 c1
    refine lv_iload_n G.1 G.2.1 d_Mo_putNumber_4 rfl (lv_at hl 1 rfl) ?_
    refine lv_i2l G.1 G.2.1 d_Mo_putNumber_5 rfl ?_
    refine lv_lneg G.1 G.2.1 d_Mo_putNumber_6 ?_
    refine lv_goto (tgt := 12) G.1 G.2.1 d_Mo_putNumber_7 (by decide) ?_
    exact J_12 y σ 0 0 v1 (-v1.toInt64) H locs h hP hD hS ls (lv_sub hl [0, 1] rfl)
theorem q4081 : Cond.methodLink "ClassWorksModel" 1220 y_Mo_putNumber ∈ lw_ok := lw_okmem (List.mem_of_getElem? (i := 4081) (by decide +kernel)) rfl
theorem q4084 : Cond.code y_Mo_putNumber b_Mo_putNumber 6 (none) ∈ lw_ok := lw_okmem (List.mem_of_getElem? (i := 4084) (by decide +kernel)) rfl
theorem q4083 : Cond.instanceMethod y_Mo_putNumber ∈ lw_ok := lw_okmem (List.mem_of_getElem? (i := 4083) (by decide +kernel)) rfl
theorem q300 : Cond.selects y_Mo_putNumber.cls y_Mo_putNumber y_Mo_putNumber ∈ lw_ok := lw_okmem (List.mem_of_getElem? (i := 300) (by decide +kernel)) rfl
theorem w9_Mo_putNumber : CWv y_Mo_putNumber b_Mo_putNumber 6 (none) 1 ∧ Cond.instanceMethod y_Mo_putNumber ∈ lw_ok ∧ Cond.selects y_Mo_putNumber.cls y_Mo_putNumber y_Mo_putNumber ∈ lw_ok := ⟨⟨q4084, q348, by decide +kernel, by decide +kernel, by decide +kernel⟩, q4083, q300⟩
def y_Mo_putLabel : MethodName := ⟨"ClassWorksModel", "putLabel", "(I)V"⟩
abbrev b_Mo_putLabel : ByteArray := prog_14_method_164_code
theorem q3160 : Cond.fieldLink "ClassWorksModel" 326 "ClassWorksModel" "isTold" "[Z" ∈ lw_ok := lw_okmem (List.mem_of_getElem? (i := 3160) (by decide +kernel)) rfl
theorem d_Mo_putLabel_0 : decode b_Mo_putLabel 0 = .ok (.iconst 0, 1) := by decide +kernel
theorem d_Mo_putLabel_1 : decode b_Mo_putLabel 1 = .ok (.istore_n 2, 1) := by decide +kernel
theorem d_Mo_putLabel_2 : decode b_Mo_putLabel 2 = .ok (.iconst 0, 1) := by decide +kernel
theorem d_Mo_putLabel_3 : decode b_Mo_putLabel 3 = .ok (.istore_n 3, 1) := by decide +kernel
theorem d_Mo_putLabel_4 : decode b_Mo_putLabel 4 = .ok (.iload_n 3, 1) := by decide +kernel
theorem d_Mo_putLabel_5 : decode b_Mo_putLabel 5 = .ok (.iload_n 1, 1) := by decide +kernel
theorem d_Mo_putLabel_6 : decode b_Mo_putLabel 6 = .ok (.if_icmp .ge 26, 3) := by decide +kernel
theorem d_Mo_putLabel_9 : decode b_Mo_putLabel 9 = .ok (.iload_n 2, 1) := by decide +kernel
theorem d_Mo_putLabel_10 : decode b_Mo_putLabel 10 = .ok (.aload_n 0, 1) := by decide +kernel
theorem d_Mo_putLabel_11 : decode b_Mo_putLabel 11 = .ok (.getfield 326, 3) := by decide +kernel
theorem d_Mo_putLabel_14 : decode b_Mo_putLabel 14 = .ok (.iload_n 3, 1) := by decide +kernel
theorem d_Mo_putLabel_15 : decode b_Mo_putLabel 15 = .ok (.baload, 1) := by decide +kernel
theorem d_Mo_putLabel_16 : decode b_Mo_putLabel 16 = .ok (.ifCond .eq 7, 3) := by decide +kernel
theorem d_Mo_putLabel_19 : decode b_Mo_putLabel 19 = .ok (.iconst 1, 1) := by decide +kernel
theorem d_Mo_putLabel_20 : decode b_Mo_putLabel 20 = .ok (.goto 4, 3) := by decide +kernel
theorem d_Mo_putLabel_23 : decode b_Mo_putLabel 23 = .ok (.iconst 0, 1) := by decide +kernel
theorem d_Mo_putLabel_24 : decode b_Mo_putLabel 24 = .ok (.iadd, 1) := by decide +kernel
theorem d_Mo_putLabel_25 : decode b_Mo_putLabel 25 = .ok (.istore_n 2, 1) := by decide +kernel
theorem d_Mo_putLabel_26 : decode b_Mo_putLabel 26 = .ok (.iinc 3 1, 3) := by decide +kernel
theorem d_Mo_putLabel_29 : decode b_Mo_putLabel 29 = .ok (.goto (-25), 3) := by decide +kernel
theorem d_Mo_putLabel_32 : decode b_Mo_putLabel 32 = .ok (.aload_n 0, 1) := by decide +kernel
theorem d_Mo_putLabel_33 : decode b_Mo_putLabel 33 = .ok (.bipush 76, 2) := by decide +kernel
theorem d_Mo_putLabel_35 : decode b_Mo_putLabel 35 = .ok (.invokevirtual 1179, 3) := by decide +kernel
theorem d_Mo_putLabel_38 : decode b_Mo_putLabel 38 = .ok (.aload_n 0, 1) := by decide +kernel
theorem d_Mo_putLabel_39 : decode b_Mo_putLabel 39 = .ok (.iload_n 2, 1) := by decide +kernel
theorem d_Mo_putLabel_40 : decode b_Mo_putLabel 40 = .ok (.invokevirtual 1220, 3) := by decide +kernel
theorem d_Mo_putLabel_43 : decode b_Mo_putLabel 43 = .ok (.return_, 1) := by decide +kernel
abbrev ra_Mo_putLabel (mc ms : Nat) : Room := { frames := 4, cells := mc, slots := ms, locals := 196 }
def wja_Mo_putLabel_24 (mc ms : Nat) (Post : Ly → St → Nat → Nat → Prop) (K_4 : Ly → St → Nat → Nat → Int32 → Int32 → Int32 → Prop) (a0 : Nat) (y_j24 : Ly) (s_j24 : St) (d_j24 e_j24 : Nat) (x1j24 : Int32) (x3j24 : Int32) (z0j24 : Int32) (z1j24 : Int32) : Prop := (d_j24 ≤ mc ∧ e_j24 ≤ ms) ∧ K_4 y_j24 s_j24 d_j24 e_j24 x1j24 (z0j24 + z1j24) (x3j24 + 1)
def wba_Mo_putLabel_4 (mc ms : Nat) (Post : Ly → St → Nat → Nat → Prop) (K_4 : Ly → St → Nat → Nat → Int32 → Int32 → Int32 → Prop) (a0 : Nat) (y_h4 : Ly) (s_h4 : St) (d_h4 e_h4 : Nat) (x1h4 : Int32) (x2h4 : Int32) (x3h4 : Int32) : Prop := (d_h4 ≤ mc ∧ e_h4 ≤ ms) ∧ ((x1h4 ≤ x3h4 → ∃ mc_6 ms_7 : Nat, (d_h4 + mc_6 ≤ mc ∧ e_h4 + ms_7 ≤ ms) ∧ wa_Mo_put mc_6 ms_7 y_h4 (fun (y_3 : Ly) (s_2 : St) (d_4 e_5 : Nat) => (d_h4 + d_4 ≤ mc ∧ e_h4 + e_5 ≤ ms) ∧ ∃ mc_14 ms_15 : Nat, (d_h4 + d_4 + mc_14 ≤ mc ∧ e_h4 + e_5 + ms_15 ≤ ms) ∧ wa_Mo_putNumber mc_14 ms_15 y_3 (fun (y_11 : Ly) (s_10 : St) (d_12 e_13 : Nat) => (d_h4 + d_4 + d_12 ≤ mc ∧ e_h4 + e_5 + e_13 ≤ ms) ∧ Post y_11 s_10 (d_h4 + d_4 + d_12) (e_h4 + e_5 + e_13)) s_2 a0 x2h4) s_h4 a0 76) ∧ (¬ (x1h4 ≤ x3h4) → xA y_h4 s_h4 a0 96 x3h4 (fun x_17 : Int32 => ((x_17 = 0 → wja_Mo_putLabel_24 mc ms Post K_4 a0 y_h4 s_h4 d_h4 e_h4 x1h4 x3h4 x2h4 0) ∧ (¬ (x_17 = 0) → wja_Mo_putLabel_24 mc ms Post K_4 a0 y_h4 s_h4 d_h4 e_h4 x1h4 x3h4 x2h4 1)))))
def wla_Mo_putLabel_4 (mc ms : Nat) (Post : Ly → St → Nat → Nat → Prop) (a0 : Nat) (y_h4 : Ly) (s_h4 : St) (d_h4 e_h4 : Nat) (x1h4 : Int32) (x2h4 : Int32) (x3h4 : Int32) : Prop := ∃ (I : Ly → St → Nat → Nat → Int32 → Int32 → Int32 → Prop) (μ : Ly → St → Nat → Nat → Int32 → Int32 → Int32 → Nat), I y_h4 s_h4 d_h4 e_h4 x1h4 x2h4 x3h4 ∧ ∀ (u1 : Ly) (u2 : St) (u3 u4 : Nat) (t0 : Int32) (t1 : Int32) (t2 : Int32), I u1 u2 u3 u4 t0 t1 t2 → wba_Mo_putLabel_4 mc ms Post (fun z1 z2 z3 z4 t0q t1q t2q => I z1 z2 z3 z4 t0q t1q t2q ∧ μ z1 z2 z3 z4 t0q t1q t2q < μ u1 u2 u3 u4 t0 t1 t2) a0 u1 u2 u3 u4 t0 t1 t2
def wa_Mo_putLabel (mc ms : Nat) (y : Ly) (Post : Ly → St → Nat → Nat → Prop) (σ : St) (a0 : Nat) (v1 : Int32) : Prop := wla_Mo_putLabel_4 mc ms Post a0 y σ 0 0 v1 0 0
set_option maxHeartbeats 4000000 in
set_option maxRecDepth 100000 in
theorem ca_Mo_putLabel (l : Launch) (D : va_G) (g : Nat → ClassId) (ad : Nat → Nat) (mc ms : Nat) (y : Ly) (Post : Ly → St → Nat → Nat → Prop) (σ : St) (a0 : Nat) (v1 : Int32) (sz uz : Nat) (h_a0 : cl a0 = 14) (h : wa_Mo_putLabel mc ms y Post σ a0 v1) : Met l y_Mo_putLabel (mw y_Mo_putLabel b_Mo_putLabel 4 (none)) (ra_Mo_putLabel mc ms) (PCu g D [] [.ref (ad a0), .int v1] sz uz (ws g ad y σ)) (va_Qv (fun (u : Ly × St × Nat × Nat) => Post u.1 u.2.1 u.2.2.1 u.2.2.2) (QU D (va_A (ws g ad y σ) sz) (fun u => ws g ad u.1 u.2.1) sz uz (fun u => u.2.2.1) (fun u => u.2.2.2)) (va_A (ws g ad y σ) sz)) mc ms (va_A (ws g ad y σ) sz) := by
  refine ofVu (by decide +kernel) (Nat.le_of_ble_eq_true rfl) ?_
  intro p e s m args below meth c A Q ls H locs G hsz hP hD hS hl hret
  subst hsz
  have hl : lv_has ls 4 [(0, .ref (ad a0)), (1, .int v1)] := hl
  have hd : 0 ≤ mc ∧ 0 ≤ ms := ⟨Nat.zero_le _, Nat.zero_le _⟩
  unfold wa_Mo_putLabel at h
  refine lv_iconst (v := 0) G.1 G.2.1 d_Mo_putLabel_0 (by decide) ?_
  refine lv_istore_n (lv' := [(2, .int 0), (0, .ref (ad a0)), (1, .int v1)]) G.1 G.2.1 d_Mo_putLabel_1 rfl hl (by decide) rfl (fun ls hl => ?_)
  refine lv_iconst (v := 0) G.1 G.2.1 d_Mo_putLabel_2 (by decide) ?_
  refine lv_istore_n (lv' := [(3, .int 0), (2, .int 0), (0, .ref (ad a0)), (1, .int v1)]) G.1 G.2.1 d_Mo_putLabel_3 rfl hl (by decide) rfl (fun ls hl => ?_)
  unfold wla_Mo_putLabel_4 at h
  obtain ⟨I_4, μ_4, hI_4, hB_4⟩ := h
  have L_4 : ∀ (n_4 : Nat) (y_h4 : Ly) (s_h4 : St) (d_h4 e_h4 : Nat) (x1h4 : Int32) (x2h4 : Int32) (x3h4 : Int32), μ_4 y_h4 s_h4 d_h4 e_h4 x1h4 x2h4 x3h4 < n_4 → I_4 y_h4 s_h4 d_h4 e_h4 x1h4 x2h4 x3h4 → ∀ (H : Heap) (locs : List Loc), va_P D CL (ws g ad y_h4 s_h4) H → va_D A (ws g ad y_h4 s_h4) → va_S A s.heap H locs → ∀ ls, lv_has ls 4 [(0, .ref (ad a0)), (1, .int x1h4), (2, .int x2h4), (3, .int x3h4)] → W p l e (ra_Mo_putLabel mc ms) s m args below meth c H locs d_h4 e_h4 Q (F0 m 4 ls []) := by
    intro n_4
    induction n_4 with
    | zero => intro y_h4 s_h4 d_h4 e_h4 x1h4 x2h4 x3h4 hμ; exact absurd hμ (Nat.not_lt_zero _)
    | succ n_4 ih_4 =>
      intro y_h4 s_h4 d_h4 e_h4 x1h4 x2h4 x3h4 hμ_4 hJ H locs hP hD hS ls hl
      obtain ⟨K_4, hK_4, h⟩ : ∃ K : Ly → St → Nat → Nat → Int32 → Int32 → Int32 → Prop, (∀ z1 z2 z3 z4 (t0 : Int32) (t1 : Int32) (t2 : Int32), K z1 z2 z3 z4 t0 t1 t2 → I_4 z1 z2 z3 z4 t0 t1 t2 ∧ μ_4 z1 z2 z3 z4 t0 t1 t2 < μ_4 y_h4 s_h4 d_h4 e_h4 x1h4 x2h4 x3h4) ∧ wba_Mo_putLabel_4 mc ms Post K a0 y_h4 s_h4 d_h4 e_h4 x1h4 x2h4 x3h4 := ⟨_, fun _ _ _ _ _ _ _ h => h, hB_4 y_h4 s_h4 d_h4 e_h4 x1h4 x2h4 x3h4 hJ⟩
      unfold wba_Mo_putLabel_4 at h
      obtain ⟨hd, h⟩ := h
      refine lv_iload_n G.1 G.2.1 d_Mo_putLabel_4 rfl (lv_at hl 3 rfl) ?_
      refine lv_iload_n G.1 G.2.1 d_Mo_putLabel_5 rfl (lv_at hl 1 rfl) ?_
      refine lv_icmp_ge (tgt := 32) G.1 G.2.1 d_Mo_putLabel_6 (by decide) (fun c6 => ?_) (fun c6 => ?_)
      · skip
        have h := h.1 c6
        refine lv_aload_n G.1 G.2.1 d_Mo_putLabel_32 rfl (lv_at hl 0 rfl) ?_
        refine lv_bipush (v := 76) G.1 G.2.1 d_Mo_putLabel_33 (by decide) ?_
        obtain ⟨mc_6, ms_7, hr_8, h⟩ := h
        refine uaVv (As := [.int 76]) (rest := []) G hP hD hS (ca_Mo_put l D g ad mc_6 ms_7 y_h4 _ s_h4 a0 76 H.size (us H) h_a0 h) w9_Mo_put q4055 ⟨Nat.le_of_ble_eq_true rfl, Nat.le_of_ble_eq_true rfl⟩ rfl rfl h_a0 (q := (RMo, TMo, 131)) rfl rfl hl.1 rfl (Nat.le_of_ble_eq_true rfl) rfl hr_8 d_Mo_putLabel_35 (fun y_3 s_2 d_4 e_5 H locs h hP hD hS => ?_)
        have hl := lv_sub (l' := [(0, .ref (ad a0)), (2, .int x2h4)]) hl [0, 2] rfl
        obtain ⟨hd, h⟩ := h
        refine lv_aload_n G.1 G.2.1 d_Mo_putLabel_38 rfl (lv_at hl 0 rfl) ?_
        refine lv_iload_n G.1 G.2.1 d_Mo_putLabel_39 rfl (lv_at hl 1 rfl) ?_
        obtain ⟨mc_14, ms_15, hr_16, h⟩ := h
        refine uaVv (As := [.int x2h4]) (rest := []) G hP hD hS (ca_Mo_putNumber l D g ad mc_14 ms_15 y_3 _ s_2 a0 x2h4 H.size (us H) h_a0 h) w9_Mo_putNumber q4081 ⟨Nat.le_of_ble_eq_true rfl, Nat.le_of_ble_eq_true rfl⟩ rfl rfl h_a0 (q := (RMo, TMo, 131)) rfl rfl hl.1 rfl (Nat.le_of_ble_eq_true rfl) rfl hr_16 d_Mo_putLabel_40 (fun y_11 s_10 d_12 e_13 H locs h hP hD hS => ?_)
        have hl := lv_sub (l' := []) hl [] rfl
        obtain ⟨hd, h⟩ := h
        exact hret (y_11, s_10, d_h4 + d_4 + d_12, e_h4 + e_5 + e_13) _ _ _ _ _ ls h hP hD hS (Nat.le_refl _) (Nat.le_refl _) hd.1 hd.2 d_Mo_putLabel_43
      · skip
        have h := h.2 c6
        refine lv_iload_n G.1 G.2.1 d_Mo_putLabel_9 rfl (lv_at hl 2 rfl) ?_
        refine lv_aload_n G.1 G.2.1 d_Mo_putLabel_10 rfl (lv_at hl 0 rfl) ?_
        refine ugf (v := .ref (yP y_h4 a0 96)) G hP h_a0 iMo rfl 96 (by decide) rfl q3160 rfl rfl d_Mo_putLabel_11 ?_
        refine lv_iload_n G.1 G.2.1 d_Mo_putLabel_14 rfl (lv_at hl 3 rfl) ?_
        refine uzald G hP (kdp h_a0 rfl) (typ h_a0 rfl) h d_Mo_putLabel_15 (fun x_17 h => ?_)
        have J_24 : ∀ (y_j24 : Ly) (s_j24 : St) (d_j24 e_j24 : Nat) (x1j24 : Int32) (x3j24 : Int32) (z0j24 : Int32) (z1j24 : Int32) (H : Heap) (locs : List Loc), wja_Mo_putLabel_24 mc ms Post K_4 a0 y_j24 s_j24 d_j24 e_j24 x1j24 x3j24 z0j24 z1j24 → va_P D CL (ws g ad y_j24 s_j24) H → va_D A (ws g ad y_j24 s_j24) → va_S A s.heap H locs → ∀ ls, lv_has ls 4 [(0, .ref (ad a0)), (1, .int x1j24), (3, .int x3j24)] → W p l e (ra_Mo_putLabel mc ms) s m args below meth c H locs d_j24 e_j24 Q (F0 m 24 ls [.int z1j24, .int z0j24]) := by
          intro y_j24 s_j24 d_j24 e_j24 x1j24 x3j24 z0j24 z1j24 H locs h hP hD hS ls hl
          unfold wja_Mo_putLabel_24 at h
          obtain ⟨hd, h⟩ := h
          refine lv_iadd G.1 G.2.1 d_Mo_putLabel_24 ?_
          refine lv_istore_n (lv' := [(2, .int (z0j24 + z1j24)), (0, .ref (ad a0)), (1, .int x1j24), (3, .int x3j24)]) G.1 G.2.1 d_Mo_putLabel_25 rfl hl (by decide) rfl (fun ls hl => ?_)
          refine lv_iinc (v := x3j24 + 1) (lv' := [(3, .int (x3j24 + 1)), (2, .int (z0j24 + z1j24)), (0, .ref (ad a0)), (1, .int x1j24)]) G.1 G.2.1 d_Mo_putLabel_26 hl (k := 3) rfl rfl (by decide) rfl (fun ls hl => ?_)
          refine lv_goto (tgt := 4) G.1 G.2.1 d_Mo_putLabel_29 (by decide) ?_
          have h := hK_4 y_j24 s_j24 d_j24 e_j24 x1j24 (z0j24 + z1j24) (x3j24 + 1) h
          exact ih_4 y_j24 s_j24 d_j24 e_j24 x1j24 (z0j24 + z1j24) (x3j24 + 1) (Nat.lt_of_lt_of_le h.2 (Nat.le_of_lt_succ hμ_4)) h.1 H locs hP hD hS ls (lv_sub hl [2, 3, 1, 0] rfl)
        refine lv_if_eq (tgt := 23) G.1 G.2.1 d_Mo_putLabel_16 (by decide) (fun c16 => ?_) (fun c16 => ?_)
        · skip
          have h := h.1 c16
          refine lv_iconst (v := 0) G.1 G.2.1 d_Mo_putLabel_23 (by decide) ?_
          exact J_24 y_h4 s_h4 d_h4 e_h4 x1h4 x3h4 x2h4 0 H locs h hP hD hS ls (lv_sub hl [0, 1, 3] rfl)
        · skip
          have h := h.2 c16
          refine lv_iconst (v := 1) G.1 G.2.1 d_Mo_putLabel_19 (by decide) ?_
          refine lv_goto (tgt := 24) G.1 G.2.1 d_Mo_putLabel_20 (by decide) ?_
          exact J_24 y_h4 s_h4 d_h4 e_h4 x1h4 x3h4 x2h4 1 H locs h hP hD hS ls (lv_sub hl [0, 1, 3] rfl)
  exact L_4 _ y σ 0 0 v1 0 0 (Nat.lt_succ_self _) hI_4 H locs hP hD hS ls (lv_sub hl [2, 3, 1, 0] rfl)
