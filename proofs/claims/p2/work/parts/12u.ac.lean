def y_Mo_callWords : MethodName := ⟨"ClassWorksModel", "callWords", "()V"⟩
abbrev b_Mo_callWords : ByteArray := prog_14_method_139_code
theorem d_Mo_callWords_0 : decode b_Mo_callWords 0 = .ok (.aload_n 0, 1) := by decide +kernel
theorem d_Mo_callWords_1 : decode b_Mo_callWords 1 = .ok (.aload_n 0, 1) := by decide +kernel
theorem d_Mo_callWords_2 : decode b_Mo_callWords 2 = .ok (.invokevirtual 554, 3) := by decide +kernel
theorem d_Mo_callWords_5 : decode b_Mo_callWords 5 = .ok (.putfield 1132, 3) := by decide +kernel
theorem d_Mo_callWords_8 : decode b_Mo_callWords 8 = .ok (.aload_n 0, 1) := by decide +kernel
theorem d_Mo_callWords_9 : decode b_Mo_callWords 9 = .ok (.bipush 46, 2) := by decide +kernel
theorem d_Mo_callWords_11 : decode b_Mo_callWords 11 = .ok (.invokevirtual 544, 3) := by decide +kernel
theorem d_Mo_callWords_14 : decode b_Mo_callWords 14 = .ok (.aload_n 0, 1) := by decide +kernel
theorem d_Mo_callWords_15 : decode b_Mo_callWords 15 = .ok (.aload_n 0, 1) := by decide +kernel
theorem d_Mo_callWords_16 : decode b_Mo_callWords 16 = .ok (.invokevirtual 551, 3) := by decide +kernel
theorem d_Mo_callWords_19 : decode b_Mo_callWords 19 = .ok (.putfield 1135, 3) := by decide +kernel
theorem d_Mo_callWords_22 : decode b_Mo_callWords 22 = .ok (.aload_n 0, 1) := by decide +kernel
theorem d_Mo_callWords_23 : decode b_Mo_callWords 23 = .ok (.bipush 40, 2) := by decide +kernel
theorem d_Mo_callWords_25 : decode b_Mo_callWords 25 = .ok (.invokevirtual 544, 3) := by decide +kernel
theorem d_Mo_callWords_28 : decode b_Mo_callWords 28 = .ok (.aload_n 0, 1) := by decide +kernel
theorem d_Mo_callWords_29 : decode b_Mo_callWords 29 = .ok (.iconst 0, 1) := by decide +kernel
theorem d_Mo_callWords_30 : decode b_Mo_callWords 30 = .ok (.putfield 557, 3) := by decide +kernel
theorem d_Mo_callWords_33 : decode b_Mo_callWords 33 = .ok (.aload_n 0, 1) := by decide +kernel
theorem d_Mo_callWords_34 : decode b_Mo_callWords 34 = .ok (.getfield 92, 3) := by decide +kernel
theorem d_Mo_callWords_37 : decode b_Mo_callWords 37 = .ok (.aload_n 0, 1) := by decide +kernel
theorem d_Mo_callWords_38 : decode b_Mo_callWords 38 = .ok (.getfield 104, 3) := by decide +kernel
theorem d_Mo_callWords_41 : decode b_Mo_callWords 41 = .ok (.baload, 1) := by decide +kernel
theorem d_Mo_callWords_42 : decode b_Mo_callWords 42 = .ok (.bipush 41, 2) := by decide +kernel
theorem d_Mo_callWords_44 : decode b_Mo_callWords 44 = .ok (.if_icmp .eq 91, 3) := by decide +kernel
theorem d_Mo_callWords_47 : decode b_Mo_callWords 47 = .ok (.iconst 1, 1) := by decide +kernel
theorem d_Mo_callWords_48 : decode b_Mo_callWords 48 = .ok (.istore_n 1, 1) := by decide +kernel
theorem d_Mo_callWords_49 : decode b_Mo_callWords 49 = .ok (.iload_n 1, 1) := by decide +kernel
theorem d_Mo_callWords_50 : decode b_Mo_callWords 50 = .ok (.ifCond .eq 85, 3) := by decide +kernel
theorem d_Mo_callWords_53 : decode b_Mo_callWords 53 = .ok (.aload_n 0, 1) := by decide +kernel
theorem d_Mo_callWords_54 : decode b_Mo_callWords 54 = .ok (.getfield 557, 3) := by decide +kernel
theorem d_Mo_callWords_57 : decode b_Mo_callWords 57 = .ok (.bipush 6, 2) := by decide +kernel
theorem d_Mo_callWords_59 : decode b_Mo_callWords 59 = .ok (.if_icmp .ne 7, 3) := by decide +kernel
theorem d_Mo_callWords_62 : decode b_Mo_callWords 62 = .ok (.aload_n 0, 1) := by decide +kernel
theorem d_Mo_callWords_63 : decode b_Mo_callWords 63 = .ok (.invokevirtual 535, 3) := by decide +kernel
theorem d_Mo_callWords_66 : decode b_Mo_callWords 66 = .ok (.aload_n 0, 1) := by decide +kernel
theorem d_Mo_callWords_67 : decode b_Mo_callWords 67 = .ok (.aload_n 0, 1) := by decide +kernel
theorem d_Mo_callWords_68 : decode b_Mo_callWords 68 = .ok (.getfield 245, 3) := by decide +kernel
theorem d_Mo_callWords_71 : decode b_Mo_callWords 71 = .ok (.invokevirtual 592, 3) := by decide +kernel
theorem d_Mo_callWords_74 : decode b_Mo_callWords 74 = .ok (.aload_n 0, 1) := by decide +kernel
theorem d_Mo_callWords_75 : decode b_Mo_callWords 75 = .ok (.getfield 277, 3) := by decide +kernel
theorem d_Mo_callWords_78 : decode b_Mo_callWords 78 = .ok (.aload_n 0, 1) := by decide +kernel
theorem d_Mo_callWords_79 : decode b_Mo_callWords 79 = .ok (.getfield 557, 3) := by decide +kernel
theorem d_Mo_callWords_82 : decode b_Mo_callWords 82 = .ok (.iconst 1, 1) := by decide +kernel
theorem d_Mo_callWords_83 : decode b_Mo_callWords 83 = .ok (.iastore, 1) := by decide +kernel
theorem d_Mo_callWords_84 : decode b_Mo_callWords 84 = .ok (.aload_n 0, 1) := by decide +kernel
theorem d_Mo_callWords_85 : decode b_Mo_callWords 85 = .ok (.dup, 1) := by decide +kernel
theorem d_Mo_callWords_86 : decode b_Mo_callWords 86 = .ok (.getfield 557, 3) := by decide +kernel
theorem d_Mo_callWords_89 : decode b_Mo_callWords 89 = .ok (.iconst 1, 1) := by decide +kernel
theorem d_Mo_callWords_90 : decode b_Mo_callWords 90 = .ok (.iadd, 1) := by decide +kernel
theorem d_Mo_callWords_91 : decode b_Mo_callWords 91 = .ok (.putfield 557, 3) := by decide +kernel
theorem d_Mo_callWords_94 : decode b_Mo_callWords 94 = .ok (.aload_n 0, 1) := by decide +kernel
theorem d_Mo_callWords_95 : decode b_Mo_callWords 95 = .ok (.getfield 92, 3) := by decide +kernel
theorem d_Mo_callWords_98 : decode b_Mo_callWords 98 = .ok (.aload_n 0, 1) := by decide +kernel
theorem d_Mo_callWords_99 : decode b_Mo_callWords 99 = .ok (.getfield 104, 3) := by decide +kernel
theorem d_Mo_callWords_102 : decode b_Mo_callWords 102 = .ok (.baload, 1) := by decide +kernel
theorem d_Mo_callWords_103 : decode b_Mo_callWords 103 = .ok (.bipush 44, 2) := by decide +kernel
theorem d_Mo_callWords_105 : decode b_Mo_callWords 105 = .ok (.if_icmp .ne 7, 3) := by decide +kernel
theorem d_Mo_callWords_108 : decode b_Mo_callWords 108 = .ok (.iconst 1, 1) := by decide +kernel
theorem d_Mo_callWords_109 : decode b_Mo_callWords 109 = .ok (.goto 4, 3) := by decide +kernel
theorem d_Mo_callWords_112 : decode b_Mo_callWords 112 = .ok (.iconst 0, 1) := by decide +kernel
theorem d_Mo_callWords_113 : decode b_Mo_callWords 113 = .ok (.istore_n 1, 1) := by decide +kernel
theorem d_Mo_callWords_114 : decode b_Mo_callWords 114 = .ok (.aload_n 0, 1) := by decide +kernel
theorem d_Mo_callWords_115 : decode b_Mo_callWords 115 = .ok (.dup, 1) := by decide +kernel
theorem d_Mo_callWords_116 : decode b_Mo_callWords 116 = .ok (.getfield 104, 3) := by decide +kernel
theorem d_Mo_callWords_119 : decode b_Mo_callWords 119 = .ok (.iload_n 1, 1) := by decide +kernel
theorem d_Mo_callWords_120 : decode b_Mo_callWords 120 = .ok (.ifCond .eq 7, 3) := by decide +kernel
theorem d_Mo_callWords_123 : decode b_Mo_callWords 123 = .ok (.iconst 1, 1) := by decide +kernel
theorem d_Mo_callWords_124 : decode b_Mo_callWords 124 = .ok (.goto 4, 3) := by decide +kernel
theorem d_Mo_callWords_127 : decode b_Mo_callWords 127 = .ok (.iconst 0, 1) := by decide +kernel
theorem d_Mo_callWords_128 : decode b_Mo_callWords 128 = .ok (.iadd, 1) := by decide +kernel
theorem d_Mo_callWords_129 : decode b_Mo_callWords 129 = .ok (.putfield 104, 3) := by decide +kernel
theorem d_Mo_callWords_132 : decode b_Mo_callWords 132 = .ok (.goto (-83), 3) := by decide +kernel
theorem d_Mo_callWords_135 : decode b_Mo_callWords 135 = .ok (.aload_n 0, 1) := by decide +kernel
theorem d_Mo_callWords_136 : decode b_Mo_callWords 136 = .ok (.bipush 41, 2) := by decide +kernel
theorem d_Mo_callWords_138 : decode b_Mo_callWords 138 = .ok (.invokevirtual 544, 3) := by decide +kernel
theorem d_Mo_callWords_141 : decode b_Mo_callWords 141 = .ok (.aload_n 0, 1) := by decide +kernel
theorem d_Mo_callWords_142 : decode b_Mo_callWords 142 = .ok (.aload_n 0, 1) := by decide +kernel
theorem d_Mo_callWords_143 : decode b_Mo_callWords 143 = .ok (.aload_n 0, 1) := by decide +kernel
theorem d_Mo_callWords_144 : decode b_Mo_callWords 144 = .ok (.getfield 277, 3) := by decide +kernel
theorem d_Mo_callWords_147 : decode b_Mo_callWords 147 = .ok (.aload_n 0, 1) := by decide +kernel
theorem d_Mo_callWords_148 : decode b_Mo_callWords 148 = .ok (.getfield 557, 3) := by decide +kernel
theorem d_Mo_callWords_151 : decode b_Mo_callWords 151 = .ok (.aload_n 0, 1) := by decide +kernel
theorem d_Mo_callWords_152 : decode b_Mo_callWords 152 = .ok (.aload_n 0, 1) := by decide +kernel
theorem d_Mo_callWords_153 : decode b_Mo_callWords 153 = .ok (.getfield 217, 3) := by decide +kernel
theorem d_Mo_callWords_156 : decode b_Mo_callWords 156 = .ok (.invokevirtual 541, 3) := by decide +kernel
theorem d_Mo_callWords_159 : decode b_Mo_callWords 159 = .ok (.ifCond .eq 7, 3) := by decide +kernel
theorem d_Mo_callWords_162 : decode b_Mo_callWords 162 = .ok (.iconst 0, 1) := by decide +kernel
theorem d_Mo_callWords_163 : decode b_Mo_callWords 163 = .ok (.goto 7, 3) := by decide +kernel
theorem d_Mo_callWords_166 : decode b_Mo_callWords 166 = .ok (.aload_n 0, 1) := by decide +kernel
theorem d_Mo_callWords_167 : decode b_Mo_callWords 167 = .ok (.invokevirtual 563, 3) := by decide +kernel
theorem d_Mo_callWords_170 : decode b_Mo_callWords 170 = .ok (.invokevirtual 254, 3) := by decide +kernel
theorem d_Mo_callWords_173 : decode b_Mo_callWords 173 = .ok (.putfield 1138, 3) := by decide +kernel
theorem d_Mo_callWords_176 : decode b_Mo_callWords 176 = .ok (.iconst 0, 1) := by decide +kernel
theorem d_Mo_callWords_177 : decode b_Mo_callWords 177 = .ok (.istore_n 1, 1) := by decide +kernel
theorem d_Mo_callWords_178 : decode b_Mo_callWords 178 = .ok (.iload_n 1, 1) := by decide +kernel
theorem d_Mo_callWords_179 : decode b_Mo_callWords 179 = .ok (.aload_n 0, 1) := by decide +kernel
theorem d_Mo_callWords_180 : decode b_Mo_callWords 180 = .ok (.getfield 80, 3) := by decide +kernel
theorem d_Mo_callWords_183 : decode b_Mo_callWords 183 = .ok (.aload_n 0, 1) := by decide +kernel
theorem d_Mo_callWords_184 : decode b_Mo_callWords 184 = .ok (.getfield 1138, 3) := by decide +kernel
theorem d_Mo_callWords_187 : decode b_Mo_callWords 187 = .ok (.iaload, 1) := by decide +kernel
theorem d_Mo_callWords_188 : decode b_Mo_callWords 188 = .ok (.if_icmp .ge 40, 3) := by decide +kernel
theorem d_Mo_callWords_191 : decode b_Mo_callWords 191 = .ok (.aload_n 0, 1) := by decide +kernel
theorem d_Mo_callWords_192 : decode b_Mo_callWords 192 = .ok (.iload_n 1, 1) := by decide +kernel
theorem d_Mo_callWords_193 : decode b_Mo_callWords 193 = .ok (.ifCond .ne 8, 3) := by decide +kernel
theorem d_Mo_callWords_196 : decode b_Mo_callWords 196 = .ok (.bipush 58, 2) := by decide +kernel
theorem d_Mo_callWords_198 : decode b_Mo_callWords 198 = .ok (.goto 5, 3) := by decide +kernel
theorem d_Mo_callWords_201 : decode b_Mo_callWords 201 = .ok (.bipush 44, 2) := by decide +kernel
theorem d_Mo_callWords_203 : decode b_Mo_callWords 203 = .ok (.invokevirtual 544, 3) := by decide +kernel
theorem d_Mo_callWords_206 : decode b_Mo_callWords 206 = .ok (.aload_n 0, 1) := by decide +kernel
theorem d_Mo_callWords_207 : decode b_Mo_callWords 207 = .ok (.getfield 320, 3) := by decide +kernel
theorem d_Mo_callWords_210 : decode b_Mo_callWords 210 = .ok (.iload_n 1, 1) := by decide +kernel
theorem d_Mo_callWords_211 : decode b_Mo_callWords 211 = .ok (.aload_n 0, 1) := by decide +kernel
theorem d_Mo_callWords_212 : decode b_Mo_callWords 212 = .ok (.ldc_w 616, 3) := by decide +kernel
theorem d_Mo_callWords_215 : decode b_Mo_callWords 215 = .ok (.ldc_w 617, 3) := by decide +kernel
theorem d_Mo_callWords_218 : decode b_Mo_callWords 218 = .ok (.invokevirtual 618, 3) := by decide +kernel
theorem d_Mo_callWords_221 : decode b_Mo_callWords 221 = .ok (.iastore, 1) := by decide +kernel
theorem d_Mo_callWords_222 : decode b_Mo_callWords 222 = .ok (.iinc 1 1, 3) := by decide +kernel
theorem d_Mo_callWords_225 : decode b_Mo_callWords 225 = .ok (.goto (-47), 3) := by decide +kernel
theorem d_Mo_callWords_228 : decode b_Mo_callWords 228 = .ok (.aload_n 0, 1) := by decide +kernel
theorem d_Mo_callWords_229 : decode b_Mo_callWords 229 = .ok (.iconst 0, 1) := by decide +kernel
theorem d_Mo_callWords_230 : decode b_Mo_callWords 230 = .ok (.invokevirtual 544, 3) := by decide +kernel
theorem d_Mo_callWords_233 : decode b_Mo_callWords 233 = .ok (.return_, 1) := by decide +kernel
abbrev ra_Mo_callWords (mc ms : Nat) : Room := { frames := 5, cells := mc, slots := ms, locals := 176 }
def wja_Mo_callWords_203 (mc ms : Nat) (Post : Ly → St → Nat → Nat → Prop) (PX : Ly → St → Nat → Nat → Prop) (K_178 : Ly → St → Nat → Nat → Int32 → Prop) (a0 : Nat) (y_j203 : Ly) (s_j203 : St) (d_j203 e_j203 : Nat) (x1j203 : Int32) (z1j203 : Int32) : Prop := (d_j203 ≤ mc ∧ e_j203 ≤ ms) ∧ ∃ mc_70 ms_71 : Nat, (d_j203 + mc_70 ≤ mc ∧ e_j203 + ms_71 ≤ ms) ∧ wx_Mo_need mc_70 ms_71 y_j203 (fun (y_67 : Ly) (s_66 : St) (d_68 e_69 : Nat) => (d_j203 + d_68 ≤ mc ∧ e_j203 + e_69 ≤ ms) ∧ ∃ mc_78 ms_79 : Nat, (d_j203 + d_68 + mc_78 ≤ mc ∧ e_j203 + e_69 + ms_79 ≤ ms) ∧ wx_Mo_numberIn mc_78 ms_79 y_67 (fun (y_75 : Ly) (s_74 : St) (r_73 : Int32) (d_76 e_77 : Nat) => (d_j203 + d_68 + d_76 ≤ mc ∧ e_j203 + e_69 + e_77 ≤ ms) ∧ yP y_67 a0 87 = yP y_75 a0 87 ∧ xS y_75 s_74 a0 87 x1j203 r_73 (fun s_82 : St => K_178 y_75 s_82 (d_j203 + d_68 + d_76) (e_j203 + e_69 + e_77) (x1j203 + 1))) (fun (y_75 : Ly) (s_74 : St) (d_76 e_77 : Nat) => ((d_j203 + d_68 + d_76 ≤ mc ∧ e_j203 + e_69 + e_77 ≤ ms) ∧ PX y_75 s_74 (d_j203 + d_68 + d_76) (e_j203 + e_69 + e_77))) s_66 a0 (-2147483648) 2147483647) (fun (y_67 : Ly) (s_66 : St) (d_68 e_69 : Nat) => ((d_j203 + d_68 ≤ mc ∧ e_j203 + e_69 ≤ ms) ∧ PX y_67 s_66 (d_j203 + d_68) (e_j203 + e_69))) s_j203 a0 z1j203
def wba_Mo_callWords_178 (mc ms : Nat) (Post : Ly → St → Nat → Nat → Prop) (PX : Ly → St → Nat → Nat → Prop) (K_178 : Ly → St → Nat → Nat → Int32 → Prop) (a0 : Nat) (y_h178 : Ly) (s_h178 : St) (d_h178 e_h178 : Nat) (x1h178 : Int32) : Prop := (d_h178 ≤ mc ∧ e_h178 ≤ ms) ∧ xA y_h178 s_h178 a0 31 (sV s_h178 a0 90) (fun x_56 : Int32 => ((x_56 ≤ x1h178 → ∃ mc_62 ms_63 : Nat, (d_h178 + mc_62 ≤ mc ∧ e_h178 + ms_63 ≤ ms) ∧ wx_Mo_need mc_62 ms_63 y_h178 (fun (y_59 : Ly) (s_58 : St) (d_60 e_61 : Nat) => (d_h178 + d_60 ≤ mc ∧ e_h178 + e_61 ≤ ms) ∧ Post y_59 s_58 (d_h178 + d_60) (e_h178 + e_61)) (fun (y_59 : Ly) (s_58 : St) (d_60 e_61 : Nat) => ((d_h178 + d_60 ≤ mc ∧ e_h178 + e_61 ≤ ms) ∧ PX y_59 s_58 (d_h178 + d_60) (e_h178 + e_61))) s_h178 a0 0) ∧ (¬ (x_56 ≤ x1h178) → ((¬ x1h178 = 0 → wja_Mo_callWords_203 mc ms Post PX K_178 a0 y_h178 s_h178 d_h178 e_h178 x1h178 44) ∧ (x1h178 = 0 → wja_Mo_callWords_203 mc ms Post PX K_178 a0 y_h178 s_h178 d_h178 e_h178 x1h178 58)))))
def wla_Mo_callWords_178 (mc ms : Nat) (Post : Ly → St → Nat → Nat → Prop) (PX : Ly → St → Nat → Nat → Prop) (a0 : Nat) (y_h178 : Ly) (s_h178 : St) (d_h178 e_h178 : Nat) (x1h178 : Int32) : Prop := ∃ (I : Ly → St → Nat → Nat → Int32 → Prop) (μ : Ly → St → Nat → Nat → Int32 → Nat), I y_h178 s_h178 d_h178 e_h178 x1h178 ∧ ∀ (u1 : Ly) (u2 : St) (u3 u4 : Nat) (t0 : Int32), I u1 u2 u3 u4 t0 → wba_Mo_callWords_178 mc ms Post PX (fun z1 z2 z3 z4 t0q => I z1 z2 z3 z4 t0q ∧ μ z1 z2 z3 z4 t0q < μ u1 u2 u3 u4 t0) a0 u1 u2 u3 u4 t0
def wja_Mo_callWords_170 (mc ms : Nat) (Post : Ly → St → Nat → Nat → Prop) (PX : Ly → St → Nat → Nat → Prop) (a0 : Nat) (y_j170 : Ly) (s_j170 : St) (d_j170 e_j170 : Nat) (z3j170 : Int32) (z4j170 : Int32) : Prop := (d_j170 ≤ mc ∧ e_j170 ≤ ms) ∧ ∃ mc_52 ms_53 : Nat, (d_j170 + mc_52 ≤ mc ∧ e_j170 + ms_53 ≤ ms) ∧ wa_Mo_signature mc_52 ms_53 y_j170 (fun (y_49 : Ly) (s_48 : St) (r_47 : Int32) (d_50 e_51 : Nat) => (d_j170 + d_50 ≤ mc ∧ e_j170 + e_51 ≤ ms) ∧ xP (uV s_48 a0 90 r_47) (fun s_55 : St => wla_Mo_callWords_178 mc ms Post PX a0 y_49 s_55 (d_j170 + d_50) (e_j170 + e_51) 0)) s_j170 a0 a0 55 z3j170 z4j170
def wja_Mo_callWords_135 (mc ms : Nat) (Post : Ly → St → Nat → Nat → Prop) (PX : Ly → St → Nat → Nat → Prop) (a0 : Nat) (y_j135 : Ly) (s_j135 : St) (d_j135 e_j135 : Nat) : Prop := (d_j135 ≤ mc ∧ e_j135 ≤ ms) ∧ ∃ mc_42 ms_43 : Nat, (d_j135 + mc_42 ≤ mc ∧ e_j135 + ms_43 ≤ ms) ∧ wx_Mo_need mc_42 ms_43 y_j135 (fun (y_39 : Ly) (s_38 : St) (d_40 e_41 : Nat) => (d_j135 + d_40 ≤ mc ∧ e_j135 + e_41 ≤ ms) ∧ wu_Mo_takes y_39 (fun (s_46 : St) (r_45 : Int32) => ((r_45 = 0 → ∃ mc_88 ms_89 : Nat, (d_j135 + d_40 + mc_88 ≤ mc ∧ e_j135 + e_41 + ms_89 ≤ ms) ∧ wx_Mo_type mc_88 ms_89 y_39 (fun (y_85 : Ly) (s_84 : St) (r_83 : Int32) (d_86 e_87 : Nat) => (d_j135 + d_40 + d_86 ≤ mc ∧ e_j135 + e_41 + e_87 ≤ ms) ∧ yP y_39 a0 55 = yP y_85 a0 55 ∧ wja_Mo_callWords_170 mc ms Post PX a0 y_85 s_84 (d_j135 + d_40 + d_86) (e_j135 + e_41 + e_87) (sV s_38 a0 56) r_83) (fun (y_85 : Ly) (s_84 : St) (d_86 e_87 : Nat) => ((d_j135 + d_40 + d_86 ≤ mc ∧ e_j135 + e_41 + e_87 ≤ ms) ∧ PX y_85 s_84 (d_j135 + d_40 + d_86) (e_j135 + e_41 + e_87))) s_46 a0) ∧ (¬ (r_45 = 0) → wja_Mo_callWords_170 mc ms Post PX a0 y_39 s_46 (d_j135 + d_40) (e_j135 + e_41) (sV s_38 a0 56) 0))) s_38 a0 (sV s_38 a0 21)) (fun (y_39 : Ly) (s_38 : St) (d_40 e_41 : Nat) => ((d_j135 + d_40 ≤ mc ∧ e_j135 + e_41 ≤ ms) ∧ PX y_39 s_38 (d_j135 + d_40) (e_j135 + e_41))) s_j135 a0 41
def wja_Mo_callWords_128 (mc ms : Nat) (Post : Ly → St → Nat → Nat → Prop) (PX : Ly → St → Nat → Nat → Prop) (K_49 : Ly → St → Nat → Nat → Int32 → Prop) (a0 : Nat) (y_j128 : Ly) (s_j128 : St) (d_j128 e_j128 : Nat) (x1j128 : Int32) (z1j128 : Int32) (z2j128 : Int32) : Prop := (d_j128 ≤ mc ∧ e_j128 ≤ ms) ∧ xP (uV s_j128 a0 43 (z1j128 + z2j128)) (fun s_103 : St => K_49 y_j128 s_103 d_j128 e_j128 x1j128)
def wja_Mo_callWords_113 (mc ms : Nat) (Post : Ly → St → Nat → Nat → Prop) (PX : Ly → St → Nat → Nat → Prop) (K_49 : Ly → St → Nat → Nat → Int32 → Prop) (a0 : Nat) (y_j113 : Ly) (s_j113 : St) (d_j113 e_j113 : Nat) (z0j113 : Int32) : Prop := (d_j113 ≤ mc ∧ e_j113 ≤ ms) ∧ ((z0j113 = 0 → wja_Mo_callWords_128 mc ms Post PX K_49 a0 y_j113 s_j113 d_j113 e_j113 z0j113 (sV s_j113 a0 43) 0) ∧ (¬ (z0j113 = 0) → wja_Mo_callWords_128 mc ms Post PX K_49 a0 y_j113 s_j113 d_j113 e_j113 z0j113 (sV s_j113 a0 43) 1))
def wja_Mo_callWords_66 (mc ms : Nat) (Post : Ly → St → Nat → Nat → Prop) (PX : Ly → St → Nat → Nat → Prop) (K_49 : Ly → St → Nat → Nat → Int32 → Prop) (a0 : Nat) (y_j66 : Ly) (s_j66 : St) (d_j66 e_j66 : Nat) : Prop := (d_j66 ≤ mc ∧ e_j66 ≤ ms) ∧ ∃ mc_97 ms_98 : Nat, (d_j66 + mc_97 ≤ mc ∧ e_j66 + ms_98 ≤ ms) ∧ wx_Mo_needWord mc_97 ms_98 y_j66 (fun (y_94 : Ly) (s_93 : St) (d_95 e_96 : Nat) => (d_j66 + d_95 ≤ mc ∧ e_j66 + e_96 ≤ ms) ∧ xS y_94 s_93 a0 55 (sV s_93 a0 56) 1 (fun s_100 : St => xP (uV s_100 a0 56 ((sV s_100 a0 56) + 1)) (fun s_101 : St => xA y_94 s_101 a0 39 (sV s_101 a0 43) (fun x_102 : Int32 => ((¬ x_102 = 44 → wja_Mo_callWords_113 mc ms Post PX K_49 a0 y_94 s_101 (d_j66 + d_95) (e_j66 + e_96) 0) ∧ (x_102 = 44 → wja_Mo_callWords_113 mc ms Post PX K_49 a0 y_94 s_101 (d_j66 + d_95) (e_j66 + e_96) 1)))))) (fun (y_94 : Ly) (s_93 : St) (d_95 e_96 : Nat) => ((d_j66 + d_95 ≤ mc ∧ e_j66 + e_96 ≤ ms) ∧ PX y_94 s_93 (d_j66 + d_95) (e_j66 + e_96))) s_j66 a0 (sV s_j66 a0 27)
def wba_Mo_callWords_49 (mc ms : Nat) (Post : Ly → St → Nat → Nat → Prop) (PX : Ly → St → Nat → Nat → Prop) (K_49 : Ly → St → Nat → Nat → Int32 → Prop) (a0 : Nat) (y_h49 : Ly) (s_h49 : St) (d_h49 e_h49 : Nat) (x1h49 : Int32) : Prop := (d_h49 ≤ mc ∧ e_h49 ≤ ms) ∧ ((x1h49 = 0 → wja_Mo_callWords_135 mc ms Post PX a0 y_h49 s_h49 d_h49 e_h49) ∧ (¬ (x1h49 = 0) → ((¬ (sV s_h49 a0 56) = 6 → wja_Mo_callWords_66 mc ms Post PX K_49 a0 y_h49 s_h49 d_h49 e_h49) ∧ ((sV s_h49 a0 56) = 6 → ∃ mc_109 ms_110 : Nat, (d_h49 + mc_109 ≤ mc ∧ e_h49 + ms_110 ≤ ms) ∧ wx_Mo_wrong mc_109 ms_110 y_h49 (fun (y_106 : Ly) (s_105 : St) (d_107 e_108 : Nat) => (d_h49 + d_107 ≤ mc ∧ e_h49 + e_108 ≤ ms) ∧ wja_Mo_callWords_66 mc ms Post PX K_49 a0 y_106 s_105 (d_h49 + d_107) (e_h49 + e_108)) (fun (y_106 : Ly) (s_105 : St) (d_107 e_108 : Nat) => ((d_h49 + d_107 ≤ mc ∧ e_h49 + e_108 ≤ ms) ∧ PX y_106 s_105 (d_h49 + d_107) (e_h49 + e_108))) s_h49 a0))))
def wla_Mo_callWords_49 (mc ms : Nat) (Post : Ly → St → Nat → Nat → Prop) (PX : Ly → St → Nat → Nat → Prop) (a0 : Nat) (y_h49 : Ly) (s_h49 : St) (d_h49 e_h49 : Nat) (x1h49 : Int32) : Prop := ∃ (I : Ly → St → Nat → Nat → Int32 → Prop) (μ : Ly → St → Nat → Nat → Int32 → Nat), I y_h49 s_h49 d_h49 e_h49 x1h49 ∧ ∀ (u1 : Ly) (u2 : St) (u3 u4 : Nat) (t0 : Int32), I u1 u2 u3 u4 t0 → wba_Mo_callWords_49 mc ms Post PX (fun z1 z2 z3 z4 t0q => I z1 z2 z3 z4 t0q ∧ μ z1 z2 z3 z4 t0q < μ u1 u2 u3 u4 t0) a0 u1 u2 u3 u4 t0
def wx_Mo_callWords (mc ms : Nat) (y : Ly) (Post : Ly → St → Nat → Nat → Prop) (PX : Ly → St → Nat → Nat → Prop) (σ : St) (a0 : Nat) : Prop := ∃ mc_6 ms_7 : Nat, (0 + mc_6 ≤ mc ∧ 0 + ms_7 ≤ ms) ∧ wx_Mo_className mc_6 ms_7 y (fun (y_3 : Ly) (s_2 : St) (r_1 : Int32) (d_4 e_5 : Nat) => (0 + d_4 ≤ mc ∧ 0 + e_5 ≤ ms) ∧ xP (uV s_2 a0 88 r_1) (fun s_9 : St => ∃ mc_15 ms_16 : Nat, (0 + d_4 + mc_15 ≤ mc ∧ 0 + e_5 + ms_16 ≤ ms) ∧ wx_Mo_need mc_15 ms_16 y_3 (fun (y_12 : Ly) (s_11 : St) (d_13 e_14 : Nat) => (0 + d_4 + d_13 ≤ mc ∧ 0 + e_5 + e_14 ≤ ms) ∧ ∃ mc_23 ms_24 : Nat, (0 + d_4 + d_13 + mc_23 ≤ mc ∧ 0 + e_5 + e_14 + ms_24 ≤ ms) ∧ wx_Mo_plainName mc_23 ms_24 y_12 (fun (y_20 : Ly) (s_19 : St) (r_18 : Int32) (d_21 e_22 : Nat) => (0 + d_4 + d_13 + d_21 ≤ mc ∧ 0 + e_5 + e_14 + e_22 ≤ ms) ∧ xP (uV s_19 a0 89 r_18) (fun s_26 : St => ∃ mc_32 ms_33 : Nat, (0 + d_4 + d_13 + d_21 + mc_32 ≤ mc ∧ 0 + e_5 + e_14 + e_22 + ms_33 ≤ ms) ∧ wx_Mo_need mc_32 ms_33 y_20 (fun (y_29 : Ly) (s_28 : St) (d_30 e_31 : Nat) => (0 + d_4 + d_13 + d_21 + d_30 ≤ mc ∧ 0 + e_5 + e_14 + e_22 + e_31 ≤ ms) ∧ xP (uV s_28 a0 56 0) (fun s_35 : St => xA y_29 s_35 a0 39 (sV s_35 a0 43) (fun x_36 : Int32 => ((x_36 = 41 → wja_Mo_callWords_135 mc ms Post PX a0 y_29 s_35 (0 + d_4 + d_13 + d_21 + d_30) (0 + e_5 + e_14 + e_22 + e_31)) ∧ (¬ (x_36 = 41) → wla_Mo_callWords_49 mc ms Post PX a0 y_29 s_35 (0 + d_4 + d_13 + d_21 + d_30) (0 + e_5 + e_14 + e_22 + e_31) 1))))) (fun (y_29 : Ly) (s_28 : St) (d_30 e_31 : Nat) => ((0 + d_4 + d_13 + d_21 + d_30 ≤ mc ∧ 0 + e_5 + e_14 + e_22 + e_31 ≤ ms) ∧ PX y_29 s_28 (0 + d_4 + d_13 + d_21 + d_30) (0 + e_5 + e_14 + e_22 + e_31))) s_26 a0 40)) (fun (y_20 : Ly) (s_19 : St) (d_21 e_22 : Nat) => ((0 + d_4 + d_13 + d_21 ≤ mc ∧ 0 + e_5 + e_14 + e_22 ≤ ms) ∧ PX y_20 s_19 (0 + d_4 + d_13 + d_21) (0 + e_5 + e_14 + e_22))) s_11 a0) (fun (y_12 : Ly) (s_11 : St) (d_13 e_14 : Nat) => ((0 + d_4 + d_13 ≤ mc ∧ 0 + e_5 + e_14 ≤ ms) ∧ PX y_12 s_11 (0 + d_4 + d_13) (0 + e_5 + e_14))) s_9 a0 46)) (fun (y_3 : Ly) (s_2 : St) (d_4 e_5 : Nat) => ((0 + d_4 ≤ mc ∧ 0 + e_5 ≤ ms) ∧ PX y_3 s_2 (0 + d_4) (0 + e_5))) σ a0
set_option maxHeartbeats 4000000 in
set_option maxRecDepth 100000 in
theorem cx_Mo_callWords (l : Launch) (D : va_G) (g : Nat → ClassId) (ad : Nat → Nat) (mc ms : Nat) (y : Ly) (Post : Ly → St → Nat → Nat → Prop) (PX : Ly → St → Nat → Nat → Prop) (σ : St) (a0 : Nat) (sz uz : Nat) (h_a0 : cl a0 = 14) (h : wx_Mo_callWords mc ms y Post PX σ a0) : vx_Met l y_Mo_callWords (mw y_Mo_callWords b_Mo_callWords 2 (none)) (ra_Mo_callWords mc ms) (PCu g D [] [.ref (ad a0)] sz uz (ws g ad y σ)) (va_Qv (fun (u : Ly × St × Nat × Nat) => Post u.1 u.2.1 u.2.2.1 u.2.2.2) (QU D (va_A (ws g ad y σ) sz) (fun u => ws g ad u.1 u.2.1) sz uz (fun u => u.2.2.1) (fun u => u.2.2.2)) (va_A (ws g ad y σ) sz)) (XQ D g ad (va_A (ws g ad y σ) sz) sz uz PX) mc ms (va_A (ws g ad y σ) sz) := by
  refine ofVx (by decide +kernel) (Nat.le_of_ble_eq_true rfl) ?_
  intro p e s m args below meth c A Q ls H locs G hsz hP hD hS hl hret hretX
  subst hsz
  have hl : lv_has ls 2 [(0, .ref (ad a0))] := hl
  have hd : 0 ≤ mc ∧ 0 ≤ ms := ⟨Nat.zero_le _, Nat.zero_le _⟩
  unfold wx_Mo_callWords at h
  refine lv_aload_n G.1 G.2.1 d_Mo_callWords_0 rfl (lv_at hl 0 rfl) ?_
  refine lv_aload_n G.1 G.2.1 d_Mo_callWords_1 rfl (lv_at hl 0 rfl) ?_
  obtain ⟨mc_6, ms_7, hr_8, h⟩ := h
  refine uxVi (As := []) (rest := [.ref (ad a0)]) G hP hD hS (cx_Mo_className l D g ad mc_6 ms_7 y _ _ σ a0 H.size (us H) h_a0 h) (fun _ h => absurd h List.not_mem_nil) w9_Mo_className q3555 ⟨Nat.le_of_ble_eq_true rfl, Nat.le_of_ble_eq_true rfl⟩ rfl rfl h_a0 (q := (RMo, TMo, 131)) rfl rfl hl.1 rfl (Nat.le_of_ble_eq_true rfl) rfl hr_8 d_Mo_callWords_2 (fun y_3 s_2 d_4 e_5 H locs q9 ce h hP hD hS hce hcv hcl => ?_) (fun r_1 y_3 s_2 d_4 e_5 H locs h hP hD hS => ?_)
  · skip
    obtain ⟨hd, h⟩ := h
    exact hretX h hP hD hS hd.1 hd.2 hce hcv hcl
  obtain ⟨hd, h⟩ := h
  refine upf G hP hD hS h 88 putV h_a0 iMo tMo tMo_ok nMo rfl (by decide) rfl q3152 rfl rfl fV rfl rfl d_Mo_callWords_5 (fun s_9 H locs h hP hD hS => ?_)
  refine lv_aload_n G.1 G.2.1 d_Mo_callWords_8 rfl (lv_at hl 0 rfl) ?_
  refine lv_bipush (v := 46) G.1 G.2.1 d_Mo_callWords_9 (by decide) ?_
  obtain ⟨mc_15, ms_16, hr_17, h⟩ := h
  refine uxVv (As := [.int 46]) (rest := []) G hP hD hS (cx_Mo_need l D g ad mc_15 ms_16 y_3 _ _ s_9 a0 46 H.size (us H) h_a0 h) (fun _ h => absurd h List.not_mem_nil) w9_Mo_need q3567 ⟨Nat.le_of_ble_eq_true rfl, Nat.le_of_ble_eq_true rfl⟩ rfl rfl h_a0 (q := (RMo, TMo, 131)) rfl rfl hl.1 rfl (Nat.le_of_ble_eq_true rfl) rfl hr_17 d_Mo_callWords_11 (fun y_12 s_11 d_13 e_14 H locs q9 ce h hP hD hS hce hcv hcl => ?_) (fun y_12 s_11 d_13 e_14 H locs h hP hD hS => ?_)
  · skip
    obtain ⟨hd, h⟩ := h
    exact hretX h hP hD hS hd.1 hd.2 hce hcv hcl
  obtain ⟨hd, h⟩ := h
  refine lv_aload_n G.1 G.2.1 d_Mo_callWords_14 rfl (lv_at hl 0 rfl) ?_
  refine lv_aload_n G.1 G.2.1 d_Mo_callWords_15 rfl (lv_at hl 0 rfl) ?_
  obtain ⟨mc_23, ms_24, hr_25, h⟩ := h
  refine uxVi (As := []) (rest := [.ref (ad a0)]) G hP hD hS (cx_Mo_plainName l D g ad mc_23 ms_24 y_12 _ _ s_11 a0 H.size (us H) h_a0 h) (fun _ h => absurd h List.not_mem_nil) w9_Mo_plainName q3563 ⟨Nat.le_of_ble_eq_true rfl, Nat.le_of_ble_eq_true rfl⟩ rfl rfl h_a0 (q := (RMo, TMo, 131)) rfl rfl hl.1 rfl (Nat.le_of_ble_eq_true rfl) rfl hr_25 d_Mo_callWords_16 (fun y_20 s_19 d_21 e_22 H locs q9 ce h hP hD hS hce hcv hcl => ?_) (fun r_18 y_20 s_19 d_21 e_22 H locs h hP hD hS => ?_)
  · skip
    obtain ⟨hd, h⟩ := h
    exact hretX h hP hD hS hd.1 hd.2 hce hcv hcl
  obtain ⟨hd, h⟩ := h
  refine upf G hP hD hS h 89 putV h_a0 iMo tMo tMo_ok nMo rfl (by decide) rfl q3153 rfl rfl fV rfl rfl d_Mo_callWords_19 (fun s_26 H locs h hP hD hS => ?_)
  refine W.eq (g2 := F0 m 22 ls []) rfl ?_
  refine lv_aload_n G.1 G.2.1 d_Mo_callWords_22 rfl (lv_at hl 0 rfl) ?_
  refine lv_bipush (v := 40) G.1 G.2.1 d_Mo_callWords_23 (by decide) ?_
  obtain ⟨mc_32, ms_33, hr_34, h⟩ := h
  refine uxVv (As := [.int 40]) (rest := []) G hP hD hS (cx_Mo_need l D g ad mc_32 ms_33 y_20 _ _ s_26 a0 40 H.size (us H) h_a0 h) (fun _ h => absurd h List.not_mem_nil) w9_Mo_need q3567 ⟨Nat.le_of_ble_eq_true rfl, Nat.le_of_ble_eq_true rfl⟩ rfl rfl h_a0 (q := (RMo, TMo, 131)) rfl rfl hl.1 rfl (Nat.le_of_ble_eq_true rfl) rfl hr_34 d_Mo_callWords_25 (fun y_29 s_28 d_30 e_31 H locs q9 ce h hP hD hS hce hcv hcl => ?_) (fun y_29 s_28 d_30 e_31 H locs h hP hD hS => ?_)
  · skip
    obtain ⟨hd, h⟩ := h
    exact hretX h hP hD hS hd.1 hd.2 hce hcv hcl
  obtain ⟨hd, h⟩ := h
  refine lv_aload_n G.1 G.2.1 d_Mo_callWords_28 rfl (lv_at hl 0 rfl) ?_
  refine lv_iconst (v := 0) G.1 G.2.1 d_Mo_callWords_29 (by decide) ?_
  refine upf G hP hD hS h 56 putV h_a0 iMo tMo tMo_ok nMo rfl (by decide) rfl q3120 rfl rfl fV rfl rfl d_Mo_callWords_30 (fun s_35 H locs h hP hD hS => ?_)
  refine lv_aload_n G.1 G.2.1 d_Mo_callWords_33 rfl (lv_at hl 0 rfl) ?_
  refine ugf (v := .ref (yP y_29 a0 39)) G hP h_a0 iMo rfl 39 (by decide) rfl q3103 rfl rfl d_Mo_callWords_34 ?_
  refine lv_aload_n G.1 G.2.1 d_Mo_callWords_37 rfl (lv_at hl 0 rfl) ?_
  refine ugf (v := .int (sV s_35 a0 43)) G hP h_a0 iMo rfl 43 (by decide) rfl q3107 rfl rfl d_Mo_callWords_38 ?_
  refine ubald G hP (kdp h_a0 rfl) (typ h_a0 rfl) h d_Mo_callWords_41 (fun x_36 h => ?_)
  refine lv_bipush (v := 41) G.1 G.2.1 d_Mo_callWords_42 (by decide) ?_
  have J_135 : ∀ (y_j135 : Ly) (s_j135 : St) (d_j135 e_j135 : Nat) (H : Heap) (locs : List Loc), wja_Mo_callWords_135 mc ms Post PX a0 y_j135 s_j135 d_j135 e_j135 → va_P D CL (ws g ad y_j135 s_j135) H → va_D A (ws g ad y_j135 s_j135) → va_S A s.heap H locs → ∀ ls, lv_has ls 2 [(0, .ref (ad a0))] → W p l e (ra_Mo_callWords mc ms) s m args below meth c H locs d_j135 e_j135 Q (F0 m 135 ls []) := by
    intro y_j135 s_j135 d_j135 e_j135 H locs h hP hD hS ls hl
    unfold wja_Mo_callWords_135 at h
    obtain ⟨hd, h⟩ := h
    refine lv_aload_n G.1 G.2.1 d_Mo_callWords_135 rfl (lv_at hl 0 rfl) ?_
    refine lv_bipush (v := 41) G.1 G.2.1 d_Mo_callWords_136 (by decide) ?_
    obtain ⟨mc_42, ms_43, hr_44, h⟩ := h
    refine uxVv (As := [.int 41]) (rest := []) G hP hD hS (cx_Mo_need l D g ad mc_42 ms_43 y_j135 _ _ s_j135 a0 41 H.size (us H) h_a0 h) (fun _ h => absurd h List.not_mem_nil) w9_Mo_need q3567 ⟨Nat.le_of_ble_eq_true rfl, Nat.le_of_ble_eq_true rfl⟩ rfl rfl h_a0 (q := (RMo, TMo, 131)) rfl rfl hl.1 rfl (Nat.le_of_ble_eq_true rfl) rfl hr_44 d_Mo_callWords_138 (fun y_39 s_38 d_40 e_41 H locs q9 ce h hP hD hS hce hcv hcl => ?_) (fun y_39 s_38 d_40 e_41 H locs h hP hD hS => ?_)
    · skip
      obtain ⟨hd, h⟩ := h
      exact hretX h hP hD hS hd.1 hd.2 hce hcv hcl
    obtain ⟨hd, h⟩ := h
    refine lv_aload_n G.1 G.2.1 d_Mo_callWords_141 rfl (lv_at hl 0 rfl) ?_
    refine lv_aload_n G.1 G.2.1 d_Mo_callWords_142 rfl (lv_at hl 0 rfl) ?_
    refine lv_aload_n G.1 G.2.1 d_Mo_callWords_143 rfl (lv_at hl 0 rfl) ?_
    refine ugf (v := .ref (yP y_39 a0 55)) G hP h_a0 iMo rfl 55 (by decide) rfl q3119 rfl rfl d_Mo_callWords_144 ?_
    refine lv_aload_n G.1 G.2.1 d_Mo_callWords_147 rfl (lv_at hl 0 rfl) ?_
    refine ugf (v := .int (sV s_38 a0 56)) G hP h_a0 iMo rfl 56 (by decide) rfl q3120 rfl rfl d_Mo_callWords_148 ?_
    refine lv_aload_n G.1 G.2.1 d_Mo_callWords_151 rfl (lv_at hl 0 rfl) ?_
    refine lv_aload_n G.1 G.2.1 d_Mo_callWords_152 rfl (lv_at hl 0 rfl) ?_
    refine W.eq (g2 := F0 m 153 ls [.ref (ad a0), .ref (ad a0), .int (sV s_38 a0 56), .ref (yP y_39 a0 55), .ref (ad a0), .ref (ad a0)]) rfl ?_
    refine ugf (v := .int (sV s_38 a0 21)) G hP h_a0 iMo rfl 21 (by decide) rfl q3085 rfl rfl d_Mo_callWords_153 ?_
    refine ucVi (As := [.int (sV s_38 a0 21)]) (rest := [.int (sV s_38 a0 56), .ref (yP y_39 a0 55), .ref (ad a0), .ref (ad a0)]) G hP hD hS (cu_Mo_takes l D g ad y_39 _ s_38 a0 (sV s_38 a0 21) H.size h_a0 h) w9_Mo_takes q3547 ⟨Nat.le_of_ble_eq_true rfl, Nat.le_of_ble_eq_true rfl⟩ rfl rfl h_a0 (q := (RMo, TMo, 131)) rfl rfl hl.1 rfl (Nat.le_of_ble_eq_true rfl) rfl hd d_Mo_callWords_156 (fun r_45 s_46 H locs h hP hD hS => ?_)
    have J_170 : ∀ (y_j170 : Ly) (s_j170 : St) (d_j170 e_j170 : Nat) (z3j170 : Int32) (z4j170 : Int32) (H : Heap) (locs : List Loc), wja_Mo_callWords_170 mc ms Post PX a0 y_j170 s_j170 d_j170 e_j170 z3j170 z4j170 → va_P D CL (ws g ad y_j170 s_j170) H → va_D A (ws g ad y_j170 s_j170) → va_S A s.heap H locs → ∀ ls, lv_has ls 2 [(0, .ref (ad a0))] → W p l e (ra_Mo_callWords mc ms) s m args below meth c H locs d_j170 e_j170 Q (F0 m 170 ls [.int z4j170, .int z3j170, .ref (yP y_j170 a0 55), .ref (ad a0), .ref (ad a0)]) := by
      intro y_j170 s_j170 d_j170 e_j170 z3j170 z4j170 H locs h hP hD hS ls hl
      unfold wja_Mo_callWords_170 at h
      obtain ⟨hd, h⟩ := h
      obtain ⟨mc_52, ms_53, hr_54, h⟩ := h
      refine uaVi (As := [.ref (yP y_j170 a0 55), .int z3j170, .int z4j170]) (rest := [.ref (ad a0)]) G hP hD hS (ca_Mo_signature l D g ad mc_52 ms_53 y_j170 _ s_j170 a0 a0 55 z3j170 z4j170 H.size (us H) h_a0 ⟨(kdp h_a0 rfl), (typ h_a0 rfl)⟩ h) w9_Mo_signature q2623 ⟨Nat.le_of_ble_eq_true rfl, Nat.le_of_ble_eq_true rfl⟩ rfl rfl h_a0 (q := (RMo, TMo, 131)) rfl rfl hl.1 rfl (Nat.le_of_ble_eq_true rfl) rfl hr_54 d_Mo_callWords_170 (fun r_47 y_49 s_48 d_50 e_51 H locs h hP hD hS => ?_)
      obtain ⟨hd, h⟩ := h
      refine upf G hP hD hS h 90 putV h_a0 iMo tMo tMo_ok nMo rfl (by decide) rfl q3154 rfl rfl fV rfl rfl d_Mo_callWords_173 (fun s_55 H locs h hP hD hS => ?_)
      refine lv_iconst (v := 0) G.1 G.2.1 d_Mo_callWords_176 (by decide) ?_
      refine lv_istore_n (lv' := [(1, .int 0), (0, .ref (ad a0))]) G.1 G.2.1 d_Mo_callWords_177 rfl hl (by decide) rfl (fun ls hl => ?_)
      unfold wla_Mo_callWords_178 at h
      obtain ⟨I_178, μ_178, hI_178, hB_178⟩ := h
      have L_178 : ∀ (n_178 : Nat) (y_h178 : Ly) (s_h178 : St) (d_h178 e_h178 : Nat) (x1h178 : Int32), μ_178 y_h178 s_h178 d_h178 e_h178 x1h178 < n_178 → I_178 y_h178 s_h178 d_h178 e_h178 x1h178 → ∀ (H : Heap) (locs : List Loc), va_P D CL (ws g ad y_h178 s_h178) H → va_D A (ws g ad y_h178 s_h178) → va_S A s.heap H locs → ∀ ls, lv_has ls 2 [(0, .ref (ad a0)), (1, .int x1h178)] → W p l e (ra_Mo_callWords mc ms) s m args below meth c H locs d_h178 e_h178 Q (F0 m 178 ls []) := by
        intro n_178
        induction n_178 with
        | zero => intro y_h178 s_h178 d_h178 e_h178 x1h178 hμ; exact absurd hμ (Nat.not_lt_zero _)
        | succ n_178 ih_178 =>
          intro y_h178 s_h178 d_h178 e_h178 x1h178 hμ_178 hJ H locs hP hD hS ls hl
          obtain ⟨K_178, hK_178, h⟩ : ∃ K : Ly → St → Nat → Nat → Int32 → Prop, (∀ z1 z2 z3 z4 (t0 : Int32), K z1 z2 z3 z4 t0 → I_178 z1 z2 z3 z4 t0 ∧ μ_178 z1 z2 z3 z4 t0 < μ_178 y_h178 s_h178 d_h178 e_h178 x1h178) ∧ wba_Mo_callWords_178 mc ms Post PX K a0 y_h178 s_h178 d_h178 e_h178 x1h178 := ⟨_, fun _ _ _ _ _ h => h, hB_178 y_h178 s_h178 d_h178 e_h178 x1h178 hJ⟩
          unfold wba_Mo_callWords_178 at h
          obtain ⟨hd, h⟩ := h
          refine lv_iload_n G.1 G.2.1 d_Mo_callWords_178 rfl (lv_at hl 1 rfl) ?_
          refine lv_aload_n G.1 G.2.1 d_Mo_callWords_179 rfl (lv_at hl 0 rfl) ?_
          refine ugf (v := .ref (yP y_h178 a0 31)) G hP h_a0 iMo rfl 31 (by decide) rfl q3095 rfl rfl d_Mo_callWords_180 ?_
          refine lv_aload_n G.1 G.2.1 d_Mo_callWords_183 rfl (lv_at hl 0 rfl) ?_
          refine ugf (v := .int (sV s_h178 a0 90)) G hP h_a0 iMo rfl 90 (by decide) rfl q3154 rfl rfl d_Mo_callWords_184 ?_
          refine uiald G hP (kdp h_a0 rfl) (typ h_a0 rfl) h d_Mo_callWords_187 (fun x_56 h => ?_)
          refine lv_icmp_ge (tgt := 228) G.1 G.2.1 d_Mo_callWords_188 (by decide) (fun c188 => ?_) (fun c188 => ?_)
          · skip
            have h := h.1 c188
            refine lv_aload_n G.1 G.2.1 d_Mo_callWords_228 rfl (lv_at hl 0 rfl) ?_
            refine lv_iconst (v := 0) G.1 G.2.1 d_Mo_callWords_229 (by decide) ?_
            obtain ⟨mc_62, ms_63, hr_64, h⟩ := h
            refine uxVv (As := [.int 0]) (rest := []) G hP hD hS (cx_Mo_need l D g ad mc_62 ms_63 y_h178 _ _ s_h178 a0 0 H.size (us H) h_a0 h) (fun _ h => absurd h List.not_mem_nil) w9_Mo_need q3567 ⟨Nat.le_of_ble_eq_true rfl, Nat.le_of_ble_eq_true rfl⟩ rfl rfl h_a0 (q := (RMo, TMo, 131)) rfl rfl hl.1 rfl (Nat.le_of_ble_eq_true rfl) rfl hr_64 d_Mo_callWords_230 (fun y_59 s_58 d_60 e_61 H locs q9 ce h hP hD hS hce hcv hcl => ?_) (fun y_59 s_58 d_60 e_61 H locs h hP hD hS => ?_)
            · skip
              obtain ⟨hd, h⟩ := h
              exact hretX h hP hD hS hd.1 hd.2 hce hcv hcl
            have hl := lv_sub (l' := []) hl [] rfl
            obtain ⟨hd, h⟩ := h
            exact hret (y_59, s_58, d_h178 + d_60, e_h178 + e_61) _ _ _ _ _ ls h hP hD hS (Nat.le_refl _) (Nat.le_refl _) hd.1 hd.2 d_Mo_callWords_233
          · skip
            have h := h.2 c188
            refine lv_aload_n G.1 G.2.1 d_Mo_callWords_191 rfl (lv_at hl 0 rfl) ?_
            refine lv_iload_n G.1 G.2.1 d_Mo_callWords_192 rfl (lv_at hl 1 rfl) ?_
            have J_203 : ∀ (y_j203 : Ly) (s_j203 : St) (d_j203 e_j203 : Nat) (x1j203 : Int32) (z1j203 : Int32) (H : Heap) (locs : List Loc), wja_Mo_callWords_203 mc ms Post PX K_178 a0 y_j203 s_j203 d_j203 e_j203 x1j203 z1j203 → va_P D CL (ws g ad y_j203 s_j203) H → va_D A (ws g ad y_j203 s_j203) → va_S A s.heap H locs → ∀ ls, lv_has ls 2 [(0, .ref (ad a0)), (1, .int x1j203)] → W p l e (ra_Mo_callWords mc ms) s m args below meth c H locs d_j203 e_j203 Q (F0 m 203 ls [.int z1j203, .ref (ad a0)]) := by
              intro y_j203 s_j203 d_j203 e_j203 x1j203 z1j203 H locs h hP hD hS ls hl
              unfold wja_Mo_callWords_203 at h
              obtain ⟨hd, h⟩ := h
              obtain ⟨mc_70, ms_71, hr_72, h⟩ := h
              refine uxVv (As := [.int z1j203]) (rest := []) G hP hD hS (cx_Mo_need l D g ad mc_70 ms_71 y_j203 _ _ s_j203 a0 z1j203 H.size (us H) h_a0 h) (fun _ h => absurd h List.not_mem_nil) w9_Mo_need q3567 ⟨Nat.le_of_ble_eq_true rfl, Nat.le_of_ble_eq_true rfl⟩ rfl rfl h_a0 (q := (RMo, TMo, 131)) rfl rfl hl.1 rfl (Nat.le_of_ble_eq_true rfl) rfl hr_72 d_Mo_callWords_203 (fun y_67 s_66 d_68 e_69 H locs q9 ce h hP hD hS hce hcv hcl => ?_) (fun y_67 s_66 d_68 e_69 H locs h hP hD hS => ?_)
              · skip
                obtain ⟨hd, h⟩ := h
                exact hretX h hP hD hS hd.1 hd.2 hce hcv hcl
              obtain ⟨hd, h⟩ := h
              refine lv_aload_n G.1 G.2.1 d_Mo_callWords_206 rfl (lv_at hl 0 rfl) ?_
              refine ugf (v := .ref (yP y_67 a0 87)) G hP h_a0 iMo rfl 87 (by decide) rfl q3151 rfl rfl d_Mo_callWords_207 ?_
              refine lv_iload_n G.1 G.2.1 d_Mo_callWords_210 rfl (lv_at hl 1 rfl) ?_
              refine lv_aload_n G.1 G.2.1 d_Mo_callWords_211 rfl (lv_at hl 0 rfl) ?_
              refine lv_ldcw (v := (-2147483648)) G.1 G.2.1 G.2.2.2.2.2.2.1 (G.2.2.2.2.2.1 _ q3534) d_Mo_callWords_212 ?_
              refine lv_ldcw (v := 2147483647) G.1 G.2.1 G.2.2.2.2.2.2.1 (G.2.2.2.2.2.1 _ q3591) d_Mo_callWords_215 ?_
              obtain ⟨mc_78, ms_79, hr_80, h⟩ := h
              refine uxVi (As := [.int (-2147483648), .int 2147483647]) (rest := [.int x1j203, .ref (yP y_67 a0 87)]) G hP hD hS (cx_Mo_numberIn l D g ad mc_78 ms_79 y_67 _ _ s_66 a0 (-2147483648) 2147483647 H.size (us H) h_a0 h) (fun _ h => absurd h List.not_mem_nil) w9_Mo_numberIn q3592 ⟨Nat.le_of_ble_eq_true rfl, Nat.le_of_ble_eq_true rfl⟩ rfl rfl h_a0 (q := (RMo, TMo, 131)) rfl rfl hl.1 rfl (Nat.le_of_ble_eq_true rfl) rfl hr_80 d_Mo_callWords_218 (fun y_75 s_74 d_76 e_77 H locs q9 ce h hP hD hS hce hcv hcl => ?_) (fun r_73 y_75 s_74 d_76 e_77 H locs h hP hD hS => ?_)
              · skip
                obtain ⟨hd, h⟩ := h
                exact hretX h hP hD hS hd.1 hd.2 hce hcv hcl
              obtain ⟨hd, h⟩ := h
              obtain ⟨n_81, h⟩ := h
              rw [n_81]
              refine uiast G hP hD hS (kdp h_a0 rfl) (typ h_a0 rfl) h d_Mo_callWords_221 (fun s_82 H locs h hP hD hS => ?_)
              refine lv_iinc (v := x1j203 + 1) (lv' := [(1, .int (x1j203 + 1)), (0, .ref (ad a0))]) G.1 G.2.1 d_Mo_callWords_222 hl (k := 1) rfl rfl (by decide) rfl (fun ls hl => ?_)
              refine lv_goto (tgt := 178) G.1 G.2.1 d_Mo_callWords_225 (by decide) ?_
              have h := hK_178 y_75 s_82 (d_j203 + d_68 + d_76) (e_j203 + e_69 + e_77) (x1j203 + 1) h
              exact ih_178 y_75 s_82 (d_j203 + d_68 + d_76) (e_j203 + e_69 + e_77) (x1j203 + 1) (Nat.lt_of_lt_of_le h.2 (Nat.le_of_lt_succ hμ_178)) h.1 H locs hP hD hS ls (lv_sub hl [1, 0] rfl)
            refine lv_if_ne (tgt := 201) G.1 G.2.1 d_Mo_callWords_193 (by decide) (fun c193 => ?_) (fun c193 => ?_)
            · skip
              have h := h.1 c193
              refine lv_bipush (v := 44) G.1 G.2.1 d_Mo_callWords_201 (by decide) ?_
              exact J_203 y_h178 s_h178 d_h178 e_h178 x1h178 44 H locs h hP hD hS ls (lv_sub hl [0, 1] rfl)
            · skip
              have h := h.2 c193
              refine lv_bipush (v := 58) G.1 G.2.1 d_Mo_callWords_196 (by decide) ?_
              refine W.eq (g2 := F0 m 198 ls [.int 58, .ref (ad a0)]) rfl ?_
              refine lv_goto (tgt := 203) G.1 G.2.1 d_Mo_callWords_198 (by decide) ?_
              exact J_203 y_h178 s_h178 d_h178 e_h178 x1h178 58 H locs h hP hD hS ls (lv_sub hl [0, 1] rfl)
      exact L_178 _ y_49 s_55 (d_j170 + d_50) (e_j170 + e_51) 0 (Nat.lt_succ_self _) hI_178 H locs hP hD hS ls (lv_sub hl [1, 0] rfl)
    refine lv_if_eq (tgt := 166) G.1 G.2.1 d_Mo_callWords_159 (by decide) (fun c159 => ?_) (fun c159 => ?_)
    · skip
      have h := h.1 c159
      refine lv_aload_n G.1 G.2.1 d_Mo_callWords_166 rfl (lv_at hl 0 rfl) ?_
      obtain ⟨mc_88, ms_89, hr_90, h⟩ := h
      refine uxVi (As := []) (rest := [.int (sV s_38 a0 56), .ref (yP y_39 a0 55), .ref (ad a0), .ref (ad a0)]) G hP hD hS (cx_Mo_type l D g ad mc_88 ms_89 y_39 _ _ s_46 a0 H.size (us H) h_a0 h) (fun _ h => absurd h List.not_mem_nil) w9_Mo_type q3587 ⟨Nat.le_of_ble_eq_true rfl, Nat.le_of_ble_eq_true rfl⟩ rfl rfl h_a0 (q := (RMo, TMo, 131)) rfl rfl hl.1 rfl (Nat.le_of_ble_eq_true rfl) rfl hr_90 d_Mo_callWords_167 (fun y_85 s_84 d_86 e_87 H locs q9 ce h hP hD hS hce hcv hcl => ?_) (fun r_83 y_85 s_84 d_86 e_87 H locs h hP hD hS => ?_)
      · skip
        obtain ⟨hd, h⟩ := h
        exact hretX h hP hD hS hd.1 hd.2 hce hcv hcl
      obtain ⟨hd, h⟩ := h
      obtain ⟨n_91, h⟩ := h
      rw [n_91]
      exact J_170 y_85 s_84 (d_j135 + d_40 + d_86) (e_j135 + e_41 + e_87) (sV s_38 a0 56) r_83 H locs h hP hD hS ls (lv_sub hl [0] rfl)
    · skip
      have h := h.2 c159
      refine lv_iconst (v := 0) G.1 G.2.1 d_Mo_callWords_162 (by decide) ?_
      refine lv_goto (tgt := 170) G.1 G.2.1 d_Mo_callWords_163 (by decide) ?_
      exact J_170 y_39 s_46 (d_j135 + d_40) (e_j135 + e_41) (sV s_38 a0 56) 0 H locs h hP hD hS ls (lv_sub hl [0] rfl)
  refine W.eq (g2 := F0 m 44 ls [.int 41, .int x_36]) rfl ?_
  refine lv_icmp_eq (tgt := 135) G.1 G.2.1 d_Mo_callWords_44 (by decide) (fun c44 => ?_) (fun c44 => ?_)
  · skip
    have h := h.1 c44
    exact J_135 y_29 s_35 (0 + d_4 + d_13 + d_21 + d_30) (0 + e_5 + e_14 + e_22 + e_31) H locs h hP hD hS ls (lv_sub hl [0] rfl)
  · skip
    have h := h.2 c44
    refine lv_iconst (v := 1) G.1 G.2.1 d_Mo_callWords_47 (by decide) ?_
    refine lv_istore_n (lv' := [(1, .int 1), (0, .ref (ad a0))]) G.1 G.2.1 d_Mo_callWords_48 rfl hl (by decide) rfl (fun ls hl => ?_)
    unfold wla_Mo_callWords_49 at h
    obtain ⟨I_49, μ_49, hI_49, hB_49⟩ := h
    have L_49 : ∀ (n_49 : Nat) (y_h49 : Ly) (s_h49 : St) (d_h49 e_h49 : Nat) (x1h49 : Int32), μ_49 y_h49 s_h49 d_h49 e_h49 x1h49 < n_49 → I_49 y_h49 s_h49 d_h49 e_h49 x1h49 → ∀ (H : Heap) (locs : List Loc), va_P D CL (ws g ad y_h49 s_h49) H → va_D A (ws g ad y_h49 s_h49) → va_S A s.heap H locs → ∀ ls, lv_has ls 2 [(0, .ref (ad a0)), (1, .int x1h49)] → W p l e (ra_Mo_callWords mc ms) s m args below meth c H locs d_h49 e_h49 Q (F0 m 49 ls []) := by
      intro n_49
      induction n_49 with
      | zero => intro y_h49 s_h49 d_h49 e_h49 x1h49 hμ; exact absurd hμ (Nat.not_lt_zero _)
      | succ n_49 ih_49 =>
        intro y_h49 s_h49 d_h49 e_h49 x1h49 hμ_49 hJ H locs hP hD hS ls hl
        obtain ⟨K_49, hK_49, h⟩ : ∃ K : Ly → St → Nat → Nat → Int32 → Prop, (∀ z1 z2 z3 z4 (t0 : Int32), K z1 z2 z3 z4 t0 → I_49 z1 z2 z3 z4 t0 ∧ μ_49 z1 z2 z3 z4 t0 < μ_49 y_h49 s_h49 d_h49 e_h49 x1h49) ∧ wba_Mo_callWords_49 mc ms Post PX K a0 y_h49 s_h49 d_h49 e_h49 x1h49 := ⟨_, fun _ _ _ _ _ h => h, hB_49 y_h49 s_h49 d_h49 e_h49 x1h49 hJ⟩
        unfold wba_Mo_callWords_49 at h
        obtain ⟨hd, h⟩ := h
        refine lv_iload_n G.1 G.2.1 d_Mo_callWords_49 rfl (lv_at hl 1 rfl) ?_
        refine lv_if_eq (tgt := 135) G.1 G.2.1 d_Mo_callWords_50 (by decide) (fun c50 => ?_) (fun c50 => ?_)
        · skip
          have h := h.1 c50
          exact J_135 y_h49 s_h49 d_h49 e_h49 H locs h hP hD hS ls (lv_sub hl [0] rfl)
        · skip
          have h := h.2 c50
          refine lv_aload_n G.1 G.2.1 d_Mo_callWords_53 rfl (lv_at hl 0 rfl) ?_
          refine ugf (v := .int (sV s_h49 a0 56)) G hP h_a0 iMo rfl 56 (by decide) rfl q3120 rfl rfl d_Mo_callWords_54 ?_
          refine lv_bipush (v := 6) G.1 G.2.1 d_Mo_callWords_57 (by decide) ?_
          have J_66 : ∀ (y_j66 : Ly) (s_j66 : St) (d_j66 e_j66 : Nat) (H : Heap) (locs : List Loc), wja_Mo_callWords_66 mc ms Post PX K_49 a0 y_j66 s_j66 d_j66 e_j66 → va_P D CL (ws g ad y_j66 s_j66) H → va_D A (ws g ad y_j66 s_j66) → va_S A s.heap H locs → ∀ ls, lv_has ls 2 [(0, .ref (ad a0))] → W p l e (ra_Mo_callWords mc ms) s m args below meth c H locs d_j66 e_j66 Q (F0 m 66 ls []) := by
            intro y_j66 s_j66 d_j66 e_j66 H locs h hP hD hS ls hl
            unfold wja_Mo_callWords_66 at h
            obtain ⟨hd, h⟩ := h
            refine lv_aload_n G.1 G.2.1 d_Mo_callWords_66 rfl (lv_at hl 0 rfl) ?_
            refine lv_aload_n G.1 G.2.1 d_Mo_callWords_67 rfl (lv_at hl 0 rfl) ?_
            refine ugf (v := .int (sV s_j66 a0 27)) G hP h_a0 iMo rfl 27 (by decide) rfl q3091 rfl rfl d_Mo_callWords_68 ?_
            obtain ⟨mc_97, ms_98, hr_99, h⟩ := h
            refine uxVv (As := [.int (sV s_j66 a0 27)]) (rest := []) G hP hD hS (cx_Mo_needWord l D g ad mc_97 ms_98 y_j66 _ _ s_j66 a0 (sV s_j66 a0 27) H.size (us H) h_a0 h) (fun _ h => absurd h List.not_mem_nil) w9_Mo_needWord q3543 ⟨Nat.le_of_ble_eq_true rfl, Nat.le_of_ble_eq_true rfl⟩ rfl rfl h_a0 (q := (RMo, TMo, 131)) rfl rfl hl.1 rfl (Nat.le_of_ble_eq_true rfl) rfl hr_99 d_Mo_callWords_71 (fun y_94 s_93 d_95 e_96 H locs q9 ce h hP hD hS hce hcv hcl => ?_) (fun y_94 s_93 d_95 e_96 H locs h hP hD hS => ?_)
            · skip
              obtain ⟨hd, h⟩ := h
              exact hretX h hP hD hS hd.1 hd.2 hce hcv hcl
            obtain ⟨hd, h⟩ := h
            refine lv_aload_n G.1 G.2.1 d_Mo_callWords_74 rfl (lv_at hl 0 rfl) ?_
            refine ugf (v := .ref (yP y_94 a0 55)) G hP h_a0 iMo rfl 55 (by decide) rfl q3119 rfl rfl d_Mo_callWords_75 ?_
            refine lv_aload_n G.1 G.2.1 d_Mo_callWords_78 rfl (lv_at hl 0 rfl) ?_
            refine ugf (v := .int (sV s_93 a0 56)) G hP h_a0 iMo rfl 56 (by decide) rfl q3120 rfl rfl d_Mo_callWords_79 ?_
            refine lv_iconst (v := 1) G.1 G.2.1 d_Mo_callWords_82 (by decide) ?_
            refine uiast G hP hD hS (kdp h_a0 rfl) (typ h_a0 rfl) h d_Mo_callWords_83 (fun s_100 H locs h hP hD hS => ?_)
            refine lv_aload_n G.1 G.2.1 d_Mo_callWords_84 rfl (lv_at hl 0 rfl) ?_
            refine W.eq (g2 := F0 m 85 ls [.ref (ad a0)]) rfl ?_
            refine lv_dup G.1 G.2.1 d_Mo_callWords_85 rfl ?_
            refine ugf (v := .int (sV s_100 a0 56)) G hP h_a0 iMo rfl 56 (by decide) rfl q3120 rfl rfl d_Mo_callWords_86 ?_
            refine lv_iconst (v := 1) G.1 G.2.1 d_Mo_callWords_89 (by decide) ?_
            refine lv_iadd G.1 G.2.1 d_Mo_callWords_90 ?_
            refine upf G hP hD hS h 56 putV h_a0 iMo tMo tMo_ok nMo rfl (by decide) rfl q3120 rfl rfl fV rfl rfl d_Mo_callWords_91 (fun s_101 H locs h hP hD hS => ?_)
            refine lv_aload_n G.1 G.2.1 d_Mo_callWords_94 rfl (lv_at hl 0 rfl) ?_
            refine ugf (v := .ref (yP y_94 a0 39)) G hP h_a0 iMo rfl 39 (by decide) rfl q3103 rfl rfl d_Mo_callWords_95 ?_
            refine lv_aload_n G.1 G.2.1 d_Mo_callWords_98 rfl (lv_at hl 0 rfl) ?_
            refine ugf (v := .int (sV s_101 a0 43)) G hP h_a0 iMo rfl 43 (by decide) rfl q3107 rfl rfl d_Mo_callWords_99 ?_
            refine ubald G hP (kdp h_a0 rfl) (typ h_a0 rfl) h d_Mo_callWords_102 (fun x_102 h => ?_)
            refine lv_bipush (v := 44) G.1 G.2.1 d_Mo_callWords_103 (by decide) ?_
            have J_113 : ∀ (y_j113 : Ly) (s_j113 : St) (d_j113 e_j113 : Nat) (z0j113 : Int32) (H : Heap) (locs : List Loc), wja_Mo_callWords_113 mc ms Post PX K_49 a0 y_j113 s_j113 d_j113 e_j113 z0j113 → va_P D CL (ws g ad y_j113 s_j113) H → va_D A (ws g ad y_j113 s_j113) → va_S A s.heap H locs → ∀ ls, lv_has ls 2 [(0, .ref (ad a0))] → W p l e (ra_Mo_callWords mc ms) s m args below meth c H locs d_j113 e_j113 Q (F0 m 113 ls [.int z0j113]) := by
              intro y_j113 s_j113 d_j113 e_j113 z0j113 H locs h hP hD hS ls hl
              unfold wja_Mo_callWords_113 at h
              obtain ⟨hd, h⟩ := h
              refine lv_istore_n (lv' := [(1, .int z0j113), (0, .ref (ad a0))]) G.1 G.2.1 d_Mo_callWords_113 rfl hl (by decide) rfl (fun ls hl => ?_)
              refine lv_aload_n G.1 G.2.1 d_Mo_callWords_114 rfl (lv_at hl 1 rfl) ?_
              refine lv_dup G.1 G.2.1 d_Mo_callWords_115 rfl ?_
              refine ugf (v := .int (sV s_j113 a0 43)) G hP h_a0 iMo rfl 43 (by decide) rfl q3107 rfl rfl d_Mo_callWords_116 ?_
              refine lv_iload_n G.1 G.2.1 d_Mo_callWords_119 rfl (lv_at hl 0 rfl) ?_
              have J_128 : ∀ (y_j128 : Ly) (s_j128 : St) (d_j128 e_j128 : Nat) (x1j128 : Int32) (z1j128 : Int32) (z2j128 : Int32) (H : Heap) (locs : List Loc), wja_Mo_callWords_128 mc ms Post PX K_49 a0 y_j128 s_j128 d_j128 e_j128 x1j128 z1j128 z2j128 → va_P D CL (ws g ad y_j128 s_j128) H → va_D A (ws g ad y_j128 s_j128) → va_S A s.heap H locs → ∀ ls, lv_has ls 2 [(0, .ref (ad a0)), (1, .int x1j128)] → W p l e (ra_Mo_callWords mc ms) s m args below meth c H locs d_j128 e_j128 Q (F0 m 128 ls [.int z2j128, .int z1j128, .ref (ad a0)]) := by
                intro y_j128 s_j128 d_j128 e_j128 x1j128 z1j128 z2j128 H locs h hP hD hS ls hl
                unfold wja_Mo_callWords_128 at h
                obtain ⟨hd, h⟩ := h
                refine lv_iadd G.1 G.2.1 d_Mo_callWords_128 ?_
                refine upf G hP hD hS h 43 putV h_a0 iMo tMo tMo_ok nMo rfl (by decide) rfl q3107 rfl rfl fV rfl rfl d_Mo_callWords_129 (fun s_103 H locs h hP hD hS => ?_)
                refine lv_goto (tgt := 49) G.1 G.2.1 d_Mo_callWords_132 (by decide) ?_
                have h := hK_49 y_j128 s_103 d_j128 e_j128 x1j128 h
                exact ih_49 y_j128 s_103 d_j128 e_j128 x1j128 (Nat.lt_of_lt_of_le h.2 (Nat.le_of_lt_succ hμ_49)) h.1 H locs hP hD hS ls (lv_sub hl [0, 1] rfl)
              refine lv_if_eq (tgt := 127) G.1 G.2.1 d_Mo_callWords_120 (by decide) (fun c120 => ?_) (fun c120 => ?_)
              · skip
                have h := h.1 c120
                refine lv_iconst (v := 0) G.1 G.2.1 d_Mo_callWords_127 (by decide) ?_
                exact J_128 y_j113 s_j113 d_j113 e_j113 z0j113 (sV s_j113 a0 43) 0 H locs h hP hD hS ls (lv_sub hl [1, 0] rfl)
              · skip
                have h := h.2 c120
                refine lv_iconst (v := 1) G.1 G.2.1 d_Mo_callWords_123 (by decide) ?_
                refine lv_goto (tgt := 128) G.1 G.2.1 d_Mo_callWords_124 (by decide) ?_
                exact J_128 y_j113 s_j113 d_j113 e_j113 z0j113 (sV s_j113 a0 43) 1 H locs h hP hD hS ls (lv_sub hl [1, 0] rfl)
            refine lv_icmp_ne (tgt := 112) G.1 G.2.1 d_Mo_callWords_105 (by decide) (fun c105 => ?_) (fun c105 => ?_)
            · skip
              have h := h.1 c105
              refine W.eq (g2 := F0 m 112 ls []) rfl ?_
              refine lv_iconst (v := 0) G.1 G.2.1 d_Mo_callWords_112 (by decide) ?_
              exact J_113 y_94 s_101 (d_j66 + d_95) (e_j66 + e_96) 0 H locs h hP hD hS ls (lv_sub hl [0] rfl)
            · skip
              have h := h.2 c105
              refine W.eq (g2 := F0 m 108 ls []) rfl ?_
              refine lv_iconst (v := 1) G.1 G.2.1 d_Mo_callWords_108 (by decide) ?_
              refine lv_goto (tgt := 113) G.1 G.2.1 d_Mo_callWords_109 (by decide) ?_
              exact J_113 y_94 s_101 (d_j66 + d_95) (e_j66 + e_96) 1 H locs h hP hD hS ls (lv_sub hl [0] rfl)
          refine lv_icmp_ne (tgt := 66) G.1 G.2.1 d_Mo_callWords_59 (by decide) (fun c59 => ?_) (fun c59 => ?_)
          · skip
            have h := h.1 c59
            exact J_66 y_h49 s_h49 d_h49 e_h49 H locs h hP hD hS ls (lv_sub hl [0] rfl)
          · skip
            have h := h.2 c59
            refine lv_aload_n G.1 G.2.1 d_Mo_callWords_62 rfl (lv_at hl 0 rfl) ?_
            obtain ⟨mc_109, ms_110, hr_111, h⟩ := h
            refine uxVv (As := []) (rest := []) G hP hD hS (cx_Mo_wrong l D g ad mc_109 ms_110 y_h49 _ _ s_h49 a0 H.size (us H) h_a0 h) (fun _ h => absurd h List.not_mem_nil) w9_Mo_wrong q3551 ⟨Nat.le_of_ble_eq_true rfl, Nat.le_of_ble_eq_true rfl⟩ rfl rfl h_a0 (q := (RMo, TMo, 131)) rfl rfl hl.1 rfl (Nat.le_of_ble_eq_true rfl) rfl hr_111 d_Mo_callWords_63 (fun y_106 s_105 d_107 e_108 H locs q9 ce h hP hD hS hce hcv hcl => ?_) (fun y_106 s_105 d_107 e_108 H locs h hP hD hS => ?_)
            · skip
              obtain ⟨hd, h⟩ := h
              exact hretX h hP hD hS hd.1 hd.2 hce hcv hcl
            have hl := lv_sub (l' := [(0, .ref (ad a0))]) hl [0] rfl
            obtain ⟨hd, h⟩ := h
            exact J_66 y_106 s_105 (d_h49 + d_107) (e_h49 + e_108) H locs h hP hD hS ls (lv_sub hl [0] rfl)
    exact L_49 _ y_29 s_35 (0 + d_4 + d_13 + d_21 + d_30) (0 + e_5 + e_14 + e_22 + e_31) 1 (Nat.lt_succ_self _) hI_49 H locs hP hD hS ls (lv_sub hl [1, 0] rfl)
def y_Mo_methodWords : MethodName := ⟨"ClassWorksModel", "methodWords", "()V"⟩
abbrev b_Mo_methodWords : ByteArray := prog_14_method_141_code
theorem q3155 : Cond.fieldLink "ClassWorksModel" 1147 "ClassWorksModel" "askedName" "I" ∈ lw_ok := lw_okmem (List.mem_of_getElem? (i := 3155) (by decide +kernel)) rfl
theorem q3156 : Cond.fieldLink "ClassWorksModel" 1150 "ClassWorksModel" "askedSig" "I" ∈ lw_ok := lw_okmem (List.mem_of_getElem? (i := 3156) (by decide +kernel)) rfl
theorem d_Mo_methodWords_0 : decode b_Mo_methodWords 0 = .ok (.aload_n 0, 1) := by decide +kernel
theorem d_Mo_methodWords_1 : decode b_Mo_methodWords 1 = .ok (.aload_n 0, 1) := by decide +kernel
theorem d_Mo_methodWords_2 : decode b_Mo_methodWords 2 = .ok (.invokevirtual 554, 3) := by decide +kernel
theorem d_Mo_methodWords_5 : decode b_Mo_methodWords 5 = .ok (.putfield 1132, 3) := by decide +kernel
theorem d_Mo_methodWords_8 : decode b_Mo_methodWords 8 = .ok (.aload_n 0, 1) := by decide +kernel
theorem d_Mo_methodWords_9 : decode b_Mo_methodWords 9 = .ok (.bipush 46, 2) := by decide +kernel
theorem d_Mo_methodWords_11 : decode b_Mo_methodWords 11 = .ok (.invokevirtual 544, 3) := by decide +kernel
theorem d_Mo_methodWords_14 : decode b_Mo_methodWords 14 = .ok (.aload_n 0, 1) := by decide +kernel
theorem d_Mo_methodWords_15 : decode b_Mo_methodWords 15 = .ok (.aload_n 0, 1) := by decide +kernel
theorem d_Mo_methodWords_16 : decode b_Mo_methodWords 16 = .ok (.invokevirtual 551, 3) := by decide +kernel
theorem d_Mo_methodWords_19 : decode b_Mo_methodWords 19 = .ok (.putfield 1147, 3) := by decide +kernel
theorem d_Mo_methodWords_22 : decode b_Mo_methodWords 22 = .ok (.aload_n 0, 1) := by decide +kernel
theorem d_Mo_methodWords_23 : decode b_Mo_methodWords 23 = .ok (.bipush 40, 2) := by decide +kernel
theorem d_Mo_methodWords_25 : decode b_Mo_methodWords 25 = .ok (.invokevirtual 544, 3) := by decide +kernel
theorem d_Mo_methodWords_28 : decode b_Mo_methodWords 28 = .ok (.aload_n 0, 1) := by decide +kernel
theorem d_Mo_methodWords_29 : decode b_Mo_methodWords 29 = .ok (.iconst 0, 1) := by decide +kernel
theorem d_Mo_methodWords_30 : decode b_Mo_methodWords 30 = .ok (.putfield 557, 3) := by decide +kernel
theorem d_Mo_methodWords_33 : decode b_Mo_methodWords 33 = .ok (.aload_n 0, 1) := by decide +kernel
theorem d_Mo_methodWords_34 : decode b_Mo_methodWords 34 = .ok (.getfield 92, 3) := by decide +kernel
theorem d_Mo_methodWords_37 : decode b_Mo_methodWords 37 = .ok (.aload_n 0, 1) := by decide +kernel
theorem d_Mo_methodWords_38 : decode b_Mo_methodWords 38 = .ok (.getfield 104, 3) := by decide +kernel
theorem d_Mo_methodWords_41 : decode b_Mo_methodWords 41 = .ok (.baload, 1) := by decide +kernel
theorem d_Mo_methodWords_42 : decode b_Mo_methodWords 42 = .ok (.bipush 41, 2) := by decide +kernel
theorem d_Mo_methodWords_44 : decode b_Mo_methodWords 44 = .ok (.if_icmp .eq 67, 3) := by decide +kernel
theorem d_Mo_methodWords_47 : decode b_Mo_methodWords 47 = .ok (.iconst 1, 1) := by decide +kernel
theorem d_Mo_methodWords_48 : decode b_Mo_methodWords 48 = .ok (.istore_n 1, 1) := by decide +kernel
theorem d_Mo_methodWords_49 : decode b_Mo_methodWords 49 = .ok (.iload_n 1, 1) := by decide +kernel
theorem d_Mo_methodWords_50 : decode b_Mo_methodWords 50 = .ok (.ifCond .eq 61, 3) := by decide +kernel
theorem d_Mo_methodWords_53 : decode b_Mo_methodWords 53 = .ok (.aload_n 0, 1) := by decide +kernel
theorem d_Mo_methodWords_54 : decode b_Mo_methodWords 54 = .ok (.getfield 557, 3) := by decide +kernel
theorem d_Mo_methodWords_57 : decode b_Mo_methodWords 57 = .ok (.bipush 6, 2) := by decide +kernel
theorem d_Mo_methodWords_59 : decode b_Mo_methodWords 59 = .ok (.if_icmp .ne 7, 3) := by decide +kernel
theorem d_Mo_methodWords_62 : decode b_Mo_methodWords 62 = .ok (.aload_n 0, 1) := by decide +kernel
theorem d_Mo_methodWords_63 : decode b_Mo_methodWords 63 = .ok (.invokevirtual 535, 3) := by decide +kernel
theorem d_Mo_methodWords_66 : decode b_Mo_methodWords 66 = .ok (.aload_n 0, 1) := by decide +kernel
theorem d_Mo_methodWords_67 : decode b_Mo_methodWords 67 = .ok (.invokevirtual 560, 3) := by decide +kernel
theorem d_Mo_methodWords_70 : decode b_Mo_methodWords 70 = .ok (.aload_n 0, 1) := by decide +kernel
theorem d_Mo_methodWords_71 : decode b_Mo_methodWords 71 = .ok (.getfield 92, 3) := by decide +kernel
theorem d_Mo_methodWords_74 : decode b_Mo_methodWords 74 = .ok (.aload_n 0, 1) := by decide +kernel
theorem d_Mo_methodWords_75 : decode b_Mo_methodWords 75 = .ok (.getfield 104, 3) := by decide +kernel
theorem d_Mo_methodWords_78 : decode b_Mo_methodWords 78 = .ok (.baload, 1) := by decide +kernel
theorem d_Mo_methodWords_79 : decode b_Mo_methodWords 79 = .ok (.bipush 44, 2) := by decide +kernel
theorem d_Mo_methodWords_81 : decode b_Mo_methodWords 81 = .ok (.if_icmp .ne 7, 3) := by decide +kernel
theorem d_Mo_methodWords_84 : decode b_Mo_methodWords 84 = .ok (.iconst 1, 1) := by decide +kernel
theorem d_Mo_methodWords_85 : decode b_Mo_methodWords 85 = .ok (.goto 4, 3) := by decide +kernel
theorem d_Mo_methodWords_88 : decode b_Mo_methodWords 88 = .ok (.iconst 0, 1) := by decide +kernel
theorem d_Mo_methodWords_89 : decode b_Mo_methodWords 89 = .ok (.istore_n 1, 1) := by decide +kernel
theorem d_Mo_methodWords_90 : decode b_Mo_methodWords 90 = .ok (.aload_n 0, 1) := by decide +kernel
theorem d_Mo_methodWords_91 : decode b_Mo_methodWords 91 = .ok (.dup, 1) := by decide +kernel
theorem d_Mo_methodWords_92 : decode b_Mo_methodWords 92 = .ok (.getfield 104, 3) := by decide +kernel
theorem d_Mo_methodWords_95 : decode b_Mo_methodWords 95 = .ok (.iload_n 1, 1) := by decide +kernel
theorem d_Mo_methodWords_96 : decode b_Mo_methodWords 96 = .ok (.ifCond .eq 7, 3) := by decide +kernel
theorem d_Mo_methodWords_99 : decode b_Mo_methodWords 99 = .ok (.iconst 1, 1) := by decide +kernel
theorem d_Mo_methodWords_100 : decode b_Mo_methodWords 100 = .ok (.goto 4, 3) := by decide +kernel
theorem d_Mo_methodWords_103 : decode b_Mo_methodWords 103 = .ok (.iconst 0, 1) := by decide +kernel
theorem d_Mo_methodWords_104 : decode b_Mo_methodWords 104 = .ok (.iadd, 1) := by decide +kernel
theorem d_Mo_methodWords_105 : decode b_Mo_methodWords 105 = .ok (.putfield 104, 3) := by decide +kernel
theorem d_Mo_methodWords_108 : decode b_Mo_methodWords 108 = .ok (.goto (-59), 3) := by decide +kernel
theorem d_Mo_methodWords_111 : decode b_Mo_methodWords 111 = .ok (.aload_n 0, 1) := by decide +kernel
theorem d_Mo_methodWords_112 : decode b_Mo_methodWords 112 = .ok (.bipush 41, 2) := by decide +kernel
theorem d_Mo_methodWords_114 : decode b_Mo_methodWords 114 = .ok (.invokevirtual 544, 3) := by decide +kernel
theorem d_Mo_methodWords_117 : decode b_Mo_methodWords 117 = .ok (.aload_n 0, 1) := by decide +kernel
theorem d_Mo_methodWords_118 : decode b_Mo_methodWords 118 = .ok (.aload_n 0, 1) := by decide +kernel
theorem d_Mo_methodWords_119 : decode b_Mo_methodWords 119 = .ok (.aload_n 0, 1) := by decide +kernel
theorem d_Mo_methodWords_120 : decode b_Mo_methodWords 120 = .ok (.getfield 277, 3) := by decide +kernel
theorem d_Mo_methodWords_123 : decode b_Mo_methodWords 123 = .ok (.aload_n 0, 1) := by decide +kernel
theorem d_Mo_methodWords_124 : decode b_Mo_methodWords 124 = .ok (.getfield 557, 3) := by decide +kernel
theorem d_Mo_methodWords_127 : decode b_Mo_methodWords 127 = .ok (.aload_n 0, 1) := by decide +kernel
theorem d_Mo_methodWords_128 : decode b_Mo_methodWords 128 = .ok (.aload_n 0, 1) := by decide +kernel
theorem d_Mo_methodWords_129 : decode b_Mo_methodWords 129 = .ok (.getfield 217, 3) := by decide +kernel
theorem d_Mo_methodWords_132 : decode b_Mo_methodWords 132 = .ok (.invokevirtual 541, 3) := by decide +kernel
theorem d_Mo_methodWords_135 : decode b_Mo_methodWords 135 = .ok (.ifCond .eq 7, 3) := by decide +kernel
theorem d_Mo_methodWords_138 : decode b_Mo_methodWords 138 = .ok (.iconst 0, 1) := by decide +kernel
theorem d_Mo_methodWords_139 : decode b_Mo_methodWords 139 = .ok (.goto 7, 3) := by decide +kernel
theorem d_Mo_methodWords_142 : decode b_Mo_methodWords 142 = .ok (.aload_n 0, 1) := by decide +kernel
theorem d_Mo_methodWords_143 : decode b_Mo_methodWords 143 = .ok (.invokevirtual 563, 3) := by decide +kernel
theorem d_Mo_methodWords_146 : decode b_Mo_methodWords 146 = .ok (.invokevirtual 254, 3) := by decide +kernel
theorem d_Mo_methodWords_149 : decode b_Mo_methodWords 149 = .ok (.putfield 1150, 3) := by decide +kernel
theorem d_Mo_methodWords_152 : decode b_Mo_methodWords 152 = .ok (.aload_n 0, 1) := by decide +kernel
theorem d_Mo_methodWords_153 : decode b_Mo_methodWords 153 = .ok (.iconst 0, 1) := by decide +kernel
theorem d_Mo_methodWords_154 : decode b_Mo_methodWords 154 = .ok (.invokevirtual 544, 3) := by decide +kernel
theorem d_Mo_methodWords_157 : decode b_Mo_methodWords 157 = .ok (.return_, 1) := by decide +kernel
abbrev ra_Mo_methodWords (mc ms : Nat) : Room := { frames := 6, cells := mc, slots := ms, locals := 176 }
def wja_Mo_methodWords_146 (mc ms : Nat) (Post : Ly → St → Nat → Nat → Prop) (PX : Ly → St → Nat → Nat → Prop) (a0 : Nat) (y_j146 : Ly) (s_j146 : St) (d_j146 e_j146 : Nat) (z3j146 : Int32) (z4j146 : Int32) : Prop := (d_j146 ≤ mc ∧ e_j146 ≤ ms) ∧ ∃ mc_52 ms_53 : Nat, (d_j146 + mc_52 ≤ mc ∧ e_j146 + ms_53 ≤ ms) ∧ wa_Mo_signature mc_52 ms_53 y_j146 (fun (y_49 : Ly) (s_48 : St) (r_47 : Int32) (d_50 e_51 : Nat) => (d_j146 + d_50 ≤ mc ∧ e_j146 + e_51 ≤ ms) ∧ xP (uV s_48 a0 92 r_47) (fun s_55 : St => ∃ mc_61 ms_62 : Nat, (d_j146 + d_50 + mc_61 ≤ mc ∧ e_j146 + e_51 + ms_62 ≤ ms) ∧ wx_Mo_need mc_61 ms_62 y_49 (fun (y_58 : Ly) (s_57 : St) (d_59 e_60 : Nat) => (d_j146 + d_50 + d_59 ≤ mc ∧ e_j146 + e_51 + e_60 ≤ ms) ∧ Post y_58 s_57 (d_j146 + d_50 + d_59) (e_j146 + e_51 + e_60)) (fun (y_58 : Ly) (s_57 : St) (d_59 e_60 : Nat) => ((d_j146 + d_50 + d_59 ≤ mc ∧ e_j146 + e_51 + e_60 ≤ ms) ∧ PX y_58 s_57 (d_j146 + d_50 + d_59) (e_j146 + e_51 + e_60))) s_55 a0 0)) s_j146 a0 a0 55 z3j146 z4j146
def wja_Mo_methodWords_111 (mc ms : Nat) (Post : Ly → St → Nat → Nat → Prop) (PX : Ly → St → Nat → Nat → Prop) (a0 : Nat) (y_j111 : Ly) (s_j111 : St) (d_j111 e_j111 : Nat) : Prop := (d_j111 ≤ mc ∧ e_j111 ≤ ms) ∧ ∃ mc_42 ms_43 : Nat, (d_j111 + mc_42 ≤ mc ∧ e_j111 + ms_43 ≤ ms) ∧ wx_Mo_need mc_42 ms_43 y_j111 (fun (y_39 : Ly) (s_38 : St) (d_40 e_41 : Nat) => (d_j111 + d_40 ≤ mc ∧ e_j111 + e_41 ≤ ms) ∧ wu_Mo_takes y_39 (fun (s_46 : St) (r_45 : Int32) => ((r_45 = 0 → ∃ mc_69 ms_70 : Nat, (d_j111 + d_40 + mc_69 ≤ mc ∧ e_j111 + e_41 + ms_70 ≤ ms) ∧ wx_Mo_type mc_69 ms_70 y_39 (fun (y_66 : Ly) (s_65 : St) (r_64 : Int32) (d_67 e_68 : Nat) => (d_j111 + d_40 + d_67 ≤ mc ∧ e_j111 + e_41 + e_68 ≤ ms) ∧ yP y_39 a0 55 = yP y_66 a0 55 ∧ wja_Mo_methodWords_146 mc ms Post PX a0 y_66 s_65 (d_j111 + d_40 + d_67) (e_j111 + e_41 + e_68) (sV s_38 a0 56) r_64) (fun (y_66 : Ly) (s_65 : St) (d_67 e_68 : Nat) => ((d_j111 + d_40 + d_67 ≤ mc ∧ e_j111 + e_41 + e_68 ≤ ms) ∧ PX y_66 s_65 (d_j111 + d_40 + d_67) (e_j111 + e_41 + e_68))) s_46 a0) ∧ (¬ (r_45 = 0) → wja_Mo_methodWords_146 mc ms Post PX a0 y_39 s_46 (d_j111 + d_40) (e_j111 + e_41) (sV s_38 a0 56) 0))) s_38 a0 (sV s_38 a0 21)) (fun (y_39 : Ly) (s_38 : St) (d_40 e_41 : Nat) => ((d_j111 + d_40 ≤ mc ∧ e_j111 + e_41 ≤ ms) ∧ PX y_39 s_38 (d_j111 + d_40) (e_j111 + e_41))) s_j111 a0 41
def wja_Mo_methodWords_104 (mc ms : Nat) (Post : Ly → St → Nat → Nat → Prop) (PX : Ly → St → Nat → Nat → Prop) (K_49 : Ly → St → Nat → Nat → Int32 → Prop) (a0 : Nat) (y_j104 : Ly) (s_j104 : St) (d_j104 e_j104 : Nat) (x1j104 : Int32) (z1j104 : Int32) (z2j104 : Int32) : Prop := (d_j104 ≤ mc ∧ e_j104 ≤ ms) ∧ xP (uV s_j104 a0 43 (z1j104 + z2j104)) (fun s_82 : St => K_49 y_j104 s_82 d_j104 e_j104 x1j104)
def wja_Mo_methodWords_89 (mc ms : Nat) (Post : Ly → St → Nat → Nat → Prop) (PX : Ly → St → Nat → Nat → Prop) (K_49 : Ly → St → Nat → Nat → Int32 → Prop) (a0 : Nat) (y_j89 : Ly) (s_j89 : St) (d_j89 e_j89 : Nat) (z0j89 : Int32) : Prop := (d_j89 ≤ mc ∧ e_j89 ≤ ms) ∧ ((z0j89 = 0 → wja_Mo_methodWords_104 mc ms Post PX K_49 a0 y_j89 s_j89 d_j89 e_j89 z0j89 (sV s_j89 a0 43) 0) ∧ (¬ (z0j89 = 0) → wja_Mo_methodWords_104 mc ms Post PX K_49 a0 y_j89 s_j89 d_j89 e_j89 z0j89 (sV s_j89 a0 43) 1))
def wja_Mo_methodWords_66 (mc ms : Nat) (Post : Ly → St → Nat → Nat → Prop) (PX : Ly → St → Nat → Nat → Prop) (K_49 : Ly → St → Nat → Nat → Int32 → Prop) (a0 : Nat) (y_j66 : Ly) (s_j66 : St) (d_j66 e_j66 : Nat) : Prop := (d_j66 ≤ mc ∧ e_j66 ≤ ms) ∧ ∃ mc_78 ms_79 : Nat, (d_j66 + mc_78 ≤ mc ∧ e_j66 + ms_79 ≤ ms) ∧ wx_Mo_addType mc_78 ms_79 y_j66 (fun (y_75 : Ly) (s_74 : St) (d_76 e_77 : Nat) => (d_j66 + d_76 ≤ mc ∧ e_j66 + e_77 ≤ ms) ∧ xA y_75 s_74 a0 39 (sV s_74 a0 43) (fun x_81 : Int32 => ((¬ x_81 = 44 → wja_Mo_methodWords_89 mc ms Post PX K_49 a0 y_75 s_74 (d_j66 + d_76) (e_j66 + e_77) 0) ∧ (x_81 = 44 → wja_Mo_methodWords_89 mc ms Post PX K_49 a0 y_75 s_74 (d_j66 + d_76) (e_j66 + e_77) 1)))) (fun (y_75 : Ly) (s_74 : St) (d_76 e_77 : Nat) => ((d_j66 + d_76 ≤ mc ∧ e_j66 + e_77 ≤ ms) ∧ PX y_75 s_74 (d_j66 + d_76) (e_j66 + e_77))) s_j66 a0
def wba_Mo_methodWords_49 (mc ms : Nat) (Post : Ly → St → Nat → Nat → Prop) (PX : Ly → St → Nat → Nat → Prop) (K_49 : Ly → St → Nat → Nat → Int32 → Prop) (a0 : Nat) (y_h49 : Ly) (s_h49 : St) (d_h49 e_h49 : Nat) (x1h49 : Int32) : Prop := (d_h49 ≤ mc ∧ e_h49 ≤ ms) ∧ ((x1h49 = 0 → wja_Mo_methodWords_111 mc ms Post PX a0 y_h49 s_h49 d_h49 e_h49) ∧ (¬ (x1h49 = 0) → ((¬ (sV s_h49 a0 56) = 6 → wja_Mo_methodWords_66 mc ms Post PX K_49 a0 y_h49 s_h49 d_h49 e_h49) ∧ ((sV s_h49 a0 56) = 6 → ∃ mc_88 ms_89 : Nat, (d_h49 + mc_88 ≤ mc ∧ e_h49 + ms_89 ≤ ms) ∧ wx_Mo_wrong mc_88 ms_89 y_h49 (fun (y_85 : Ly) (s_84 : St) (d_86 e_87 : Nat) => (d_h49 + d_86 ≤ mc ∧ e_h49 + e_87 ≤ ms) ∧ wja_Mo_methodWords_66 mc ms Post PX K_49 a0 y_85 s_84 (d_h49 + d_86) (e_h49 + e_87)) (fun (y_85 : Ly) (s_84 : St) (d_86 e_87 : Nat) => ((d_h49 + d_86 ≤ mc ∧ e_h49 + e_87 ≤ ms) ∧ PX y_85 s_84 (d_h49 + d_86) (e_h49 + e_87))) s_h49 a0))))
def wla_Mo_methodWords_49 (mc ms : Nat) (Post : Ly → St → Nat → Nat → Prop) (PX : Ly → St → Nat → Nat → Prop) (a0 : Nat) (y_h49 : Ly) (s_h49 : St) (d_h49 e_h49 : Nat) (x1h49 : Int32) : Prop := ∃ (I : Ly → St → Nat → Nat → Int32 → Prop) (μ : Ly → St → Nat → Nat → Int32 → Nat), I y_h49 s_h49 d_h49 e_h49 x1h49 ∧ ∀ (u1 : Ly) (u2 : St) (u3 u4 : Nat) (t0 : Int32), I u1 u2 u3 u4 t0 → wba_Mo_methodWords_49 mc ms Post PX (fun z1 z2 z3 z4 t0q => I z1 z2 z3 z4 t0q ∧ μ z1 z2 z3 z4 t0q < μ u1 u2 u3 u4 t0) a0 u1 u2 u3 u4 t0
def wx_Mo_methodWords (mc ms : Nat) (y : Ly) (Post : Ly → St → Nat → Nat → Prop) (PX : Ly → St → Nat → Nat → Prop) (σ : St) (a0 : Nat) : Prop := ∃ mc_6 ms_7 : Nat, (0 + mc_6 ≤ mc ∧ 0 + ms_7 ≤ ms) ∧ wx_Mo_className mc_6 ms_7 y (fun (y_3 : Ly) (s_2 : St) (r_1 : Int32) (d_4 e_5 : Nat) => (0 + d_4 ≤ mc ∧ 0 + e_5 ≤ ms) ∧ xP (uV s_2 a0 88 r_1) (fun s_9 : St => ∃ mc_15 ms_16 : Nat, (0 + d_4 + mc_15 ≤ mc ∧ 0 + e_5 + ms_16 ≤ ms) ∧ wx_Mo_need mc_15 ms_16 y_3 (fun (y_12 : Ly) (s_11 : St) (d_13 e_14 : Nat) => (0 + d_4 + d_13 ≤ mc ∧ 0 + e_5 + e_14 ≤ ms) ∧ ∃ mc_23 ms_24 : Nat, (0 + d_4 + d_13 + mc_23 ≤ mc ∧ 0 + e_5 + e_14 + ms_24 ≤ ms) ∧ wx_Mo_plainName mc_23 ms_24 y_12 (fun (y_20 : Ly) (s_19 : St) (r_18 : Int32) (d_21 e_22 : Nat) => (0 + d_4 + d_13 + d_21 ≤ mc ∧ 0 + e_5 + e_14 + e_22 ≤ ms) ∧ xP (uV s_19 a0 91 r_18) (fun s_26 : St => ∃ mc_32 ms_33 : Nat, (0 + d_4 + d_13 + d_21 + mc_32 ≤ mc ∧ 0 + e_5 + e_14 + e_22 + ms_33 ≤ ms) ∧ wx_Mo_need mc_32 ms_33 y_20 (fun (y_29 : Ly) (s_28 : St) (d_30 e_31 : Nat) => (0 + d_4 + d_13 + d_21 + d_30 ≤ mc ∧ 0 + e_5 + e_14 + e_22 + e_31 ≤ ms) ∧ xP (uV s_28 a0 56 0) (fun s_35 : St => xA y_29 s_35 a0 39 (sV s_35 a0 43) (fun x_36 : Int32 => ((x_36 = 41 → wja_Mo_methodWords_111 mc ms Post PX a0 y_29 s_35 (0 + d_4 + d_13 + d_21 + d_30) (0 + e_5 + e_14 + e_22 + e_31)) ∧ (¬ (x_36 = 41) → wla_Mo_methodWords_49 mc ms Post PX a0 y_29 s_35 (0 + d_4 + d_13 + d_21 + d_30) (0 + e_5 + e_14 + e_22 + e_31) 1))))) (fun (y_29 : Ly) (s_28 : St) (d_30 e_31 : Nat) => ((0 + d_4 + d_13 + d_21 + d_30 ≤ mc ∧ 0 + e_5 + e_14 + e_22 + e_31 ≤ ms) ∧ PX y_29 s_28 (0 + d_4 + d_13 + d_21 + d_30) (0 + e_5 + e_14 + e_22 + e_31))) s_26 a0 40)) (fun (y_20 : Ly) (s_19 : St) (d_21 e_22 : Nat) => ((0 + d_4 + d_13 + d_21 ≤ mc ∧ 0 + e_5 + e_14 + e_22 ≤ ms) ∧ PX y_20 s_19 (0 + d_4 + d_13 + d_21) (0 + e_5 + e_14 + e_22))) s_11 a0) (fun (y_12 : Ly) (s_11 : St) (d_13 e_14 : Nat) => ((0 + d_4 + d_13 ≤ mc ∧ 0 + e_5 + e_14 ≤ ms) ∧ PX y_12 s_11 (0 + d_4 + d_13) (0 + e_5 + e_14))) s_9 a0 46)) (fun (y_3 : Ly) (s_2 : St) (d_4 e_5 : Nat) => ((0 + d_4 ≤ mc ∧ 0 + e_5 ≤ ms) ∧ PX y_3 s_2 (0 + d_4) (0 + e_5))) σ a0
set_option maxHeartbeats 4000000 in
set_option maxRecDepth 100000 in
theorem cx_Mo_methodWords (l : Launch) (D : va_G) (g : Nat → ClassId) (ad : Nat → Nat) (mc ms : Nat) (y : Ly) (Post : Ly → St → Nat → Nat → Prop) (PX : Ly → St → Nat → Nat → Prop) (σ : St) (a0 : Nat) (sz uz : Nat) (h_a0 : cl a0 = 14) (h : wx_Mo_methodWords mc ms y Post PX σ a0) : vx_Met l y_Mo_methodWords (mw y_Mo_methodWords b_Mo_methodWords 2 (none)) (ra_Mo_methodWords mc ms) (PCu g D [] [.ref (ad a0)] sz uz (ws g ad y σ)) (va_Qv (fun (u : Ly × St × Nat × Nat) => Post u.1 u.2.1 u.2.2.1 u.2.2.2) (QU D (va_A (ws g ad y σ) sz) (fun u => ws g ad u.1 u.2.1) sz uz (fun u => u.2.2.1) (fun u => u.2.2.2)) (va_A (ws g ad y σ) sz)) (XQ D g ad (va_A (ws g ad y σ) sz) sz uz PX) mc ms (va_A (ws g ad y σ) sz) := by
  refine ofVx (by decide +kernel) (Nat.le_of_ble_eq_true rfl) ?_
  intro p e s m args below meth c A Q ls H locs G hsz hP hD hS hl hret hretX
  subst hsz
  have hl : lv_has ls 2 [(0, .ref (ad a0))] := hl
  have hd : 0 ≤ mc ∧ 0 ≤ ms := ⟨Nat.zero_le _, Nat.zero_le _⟩
  unfold wx_Mo_methodWords at h
  refine lv_aload_n G.1 G.2.1 d_Mo_methodWords_0 rfl (lv_at hl 0 rfl) ?_
  refine lv_aload_n G.1 G.2.1 d_Mo_methodWords_1 rfl (lv_at hl 0 rfl) ?_
  obtain ⟨mc_6, ms_7, hr_8, h⟩ := h
  refine uxVi (As := []) (rest := [.ref (ad a0)]) G hP hD hS (cx_Mo_className l D g ad mc_6 ms_7 y _ _ σ a0 H.size (us H) h_a0 h) (fun _ h => absurd h List.not_mem_nil) w9_Mo_className q3555 ⟨Nat.le_of_ble_eq_true rfl, Nat.le_of_ble_eq_true rfl⟩ rfl rfl h_a0 (q := (RMo, TMo, 131)) rfl rfl hl.1 rfl (Nat.le_of_ble_eq_true rfl) rfl hr_8 d_Mo_methodWords_2 (fun y_3 s_2 d_4 e_5 H locs q9 ce h hP hD hS hce hcv hcl => ?_) (fun r_1 y_3 s_2 d_4 e_5 H locs h hP hD hS => ?_)
  · skip
    obtain ⟨hd, h⟩ := h
    exact hretX h hP hD hS hd.1 hd.2 hce hcv hcl
  obtain ⟨hd, h⟩ := h
  refine upf G hP hD hS h 88 putV h_a0 iMo tMo tMo_ok nMo rfl (by decide) rfl q3152 rfl rfl fV rfl rfl d_Mo_methodWords_5 (fun s_9 H locs h hP hD hS => ?_)
  refine lv_aload_n G.1 G.2.1 d_Mo_methodWords_8 rfl (lv_at hl 0 rfl) ?_
  refine lv_bipush (v := 46) G.1 G.2.1 d_Mo_methodWords_9 (by decide) ?_
  obtain ⟨mc_15, ms_16, hr_17, h⟩ := h
  refine uxVv (As := [.int 46]) (rest := []) G hP hD hS (cx_Mo_need l D g ad mc_15 ms_16 y_3 _ _ s_9 a0 46 H.size (us H) h_a0 h) (fun _ h => absurd h List.not_mem_nil) w9_Mo_need q3567 ⟨Nat.le_of_ble_eq_true rfl, Nat.le_of_ble_eq_true rfl⟩ rfl rfl h_a0 (q := (RMo, TMo, 131)) rfl rfl hl.1 rfl (Nat.le_of_ble_eq_true rfl) rfl hr_17 d_Mo_methodWords_11 (fun y_12 s_11 d_13 e_14 H locs q9 ce h hP hD hS hce hcv hcl => ?_) (fun y_12 s_11 d_13 e_14 H locs h hP hD hS => ?_)
  · skip
    obtain ⟨hd, h⟩ := h
    exact hretX h hP hD hS hd.1 hd.2 hce hcv hcl
  obtain ⟨hd, h⟩ := h
  refine lv_aload_n G.1 G.2.1 d_Mo_methodWords_14 rfl (lv_at hl 0 rfl) ?_
  refine lv_aload_n G.1 G.2.1 d_Mo_methodWords_15 rfl (lv_at hl 0 rfl) ?_
  obtain ⟨mc_23, ms_24, hr_25, h⟩ := h
  refine uxVi (As := []) (rest := [.ref (ad a0)]) G hP hD hS (cx_Mo_plainName l D g ad mc_23 ms_24 y_12 _ _ s_11 a0 H.size (us H) h_a0 h) (fun _ h => absurd h List.not_mem_nil) w9_Mo_plainName q3563 ⟨Nat.le_of_ble_eq_true rfl, Nat.le_of_ble_eq_true rfl⟩ rfl rfl h_a0 (q := (RMo, TMo, 131)) rfl rfl hl.1 rfl (Nat.le_of_ble_eq_true rfl) rfl hr_25 d_Mo_methodWords_16 (fun y_20 s_19 d_21 e_22 H locs q9 ce h hP hD hS hce hcv hcl => ?_) (fun r_18 y_20 s_19 d_21 e_22 H locs h hP hD hS => ?_)
  · skip
    obtain ⟨hd, h⟩ := h
    exact hretX h hP hD hS hd.1 hd.2 hce hcv hcl
  obtain ⟨hd, h⟩ := h
  refine upf G hP hD hS h 91 putV h_a0 iMo tMo tMo_ok nMo rfl (by decide) rfl q3155 rfl rfl fV rfl rfl d_Mo_methodWords_19 (fun s_26 H locs h hP hD hS => ?_)
  refine W.eq (g2 := F0 m 22 ls []) rfl ?_
  refine lv_aload_n G.1 G.2.1 d_Mo_methodWords_22 rfl (lv_at hl 0 rfl) ?_
  refine lv_bipush (v := 40) G.1 G.2.1 d_Mo_methodWords_23 (by decide) ?_
  obtain ⟨mc_32, ms_33, hr_34, h⟩ := h
  refine uxVv (As := [.int 40]) (rest := []) G hP hD hS (cx_Mo_need l D g ad mc_32 ms_33 y_20 _ _ s_26 a0 40 H.size (us H) h_a0 h) (fun _ h => absurd h List.not_mem_nil) w9_Mo_need q3567 ⟨Nat.le_of_ble_eq_true rfl, Nat.le_of_ble_eq_true rfl⟩ rfl rfl h_a0 (q := (RMo, TMo, 131)) rfl rfl hl.1 rfl (Nat.le_of_ble_eq_true rfl) rfl hr_34 d_Mo_methodWords_25 (fun y_29 s_28 d_30 e_31 H locs q9 ce h hP hD hS hce hcv hcl => ?_) (fun y_29 s_28 d_30 e_31 H locs h hP hD hS => ?_)
  · skip
    obtain ⟨hd, h⟩ := h
    exact hretX h hP hD hS hd.1 hd.2 hce hcv hcl
  obtain ⟨hd, h⟩ := h
  refine lv_aload_n G.1 G.2.1 d_Mo_methodWords_28 rfl (lv_at hl 0 rfl) ?_
  refine lv_iconst (v := 0) G.1 G.2.1 d_Mo_methodWords_29 (by decide) ?_
  refine upf G hP hD hS h 56 putV h_a0 iMo tMo tMo_ok nMo rfl (by decide) rfl q3120 rfl rfl fV rfl rfl d_Mo_methodWords_30 (fun s_35 H locs h hP hD hS => ?_)
  refine lv_aload_n G.1 G.2.1 d_Mo_methodWords_33 rfl (lv_at hl 0 rfl) ?_
  refine ugf (v := .ref (yP y_29 a0 39)) G hP h_a0 iMo rfl 39 (by decide) rfl q3103 rfl rfl d_Mo_methodWords_34 ?_
  refine lv_aload_n G.1 G.2.1 d_Mo_methodWords_37 rfl (lv_at hl 0 rfl) ?_
  refine ugf (v := .int (sV s_35 a0 43)) G hP h_a0 iMo rfl 43 (by decide) rfl q3107 rfl rfl d_Mo_methodWords_38 ?_
  refine ubald G hP (kdp h_a0 rfl) (typ h_a0 rfl) h d_Mo_methodWords_41 (fun x_36 h => ?_)
  refine lv_bipush (v := 41) G.1 G.2.1 d_Mo_methodWords_42 (by decide) ?_
  have J_111 : ∀ (y_j111 : Ly) (s_j111 : St) (d_j111 e_j111 : Nat) (H : Heap) (locs : List Loc), wja_Mo_methodWords_111 mc ms Post PX a0 y_j111 s_j111 d_j111 e_j111 → va_P D CL (ws g ad y_j111 s_j111) H → va_D A (ws g ad y_j111 s_j111) → va_S A s.heap H locs → ∀ ls, lv_has ls 2 [(0, .ref (ad a0))] → W p l e (ra_Mo_methodWords mc ms) s m args below meth c H locs d_j111 e_j111 Q (F0 m 111 ls []) := by
    intro y_j111 s_j111 d_j111 e_j111 H locs h hP hD hS ls hl
    unfold wja_Mo_methodWords_111 at h
    obtain ⟨hd, h⟩ := h
    refine lv_aload_n G.1 G.2.1 d_Mo_methodWords_111 rfl (lv_at hl 0 rfl) ?_
    refine lv_bipush (v := 41) G.1 G.2.1 d_Mo_methodWords_112 (by decide) ?_
    obtain ⟨mc_42, ms_43, hr_44, h⟩ := h
    refine uxVv (As := [.int 41]) (rest := []) G hP hD hS (cx_Mo_need l D g ad mc_42 ms_43 y_j111 _ _ s_j111 a0 41 H.size (us H) h_a0 h) (fun _ h => absurd h List.not_mem_nil) w9_Mo_need q3567 ⟨Nat.le_of_ble_eq_true rfl, Nat.le_of_ble_eq_true rfl⟩ rfl rfl h_a0 (q := (RMo, TMo, 131)) rfl rfl hl.1 rfl (Nat.le_of_ble_eq_true rfl) rfl hr_44 d_Mo_methodWords_114 (fun y_39 s_38 d_40 e_41 H locs q9 ce h hP hD hS hce hcv hcl => ?_) (fun y_39 s_38 d_40 e_41 H locs h hP hD hS => ?_)
    · skip
      obtain ⟨hd, h⟩ := h
      exact hretX h hP hD hS hd.1 hd.2 hce hcv hcl
    obtain ⟨hd, h⟩ := h
    refine lv_aload_n G.1 G.2.1 d_Mo_methodWords_117 rfl (lv_at hl 0 rfl) ?_
    refine lv_aload_n G.1 G.2.1 d_Mo_methodWords_118 rfl (lv_at hl 0 rfl) ?_
    refine lv_aload_n G.1 G.2.1 d_Mo_methodWords_119 rfl (lv_at hl 0 rfl) ?_
    refine ugf (v := .ref (yP y_39 a0 55)) G hP h_a0 iMo rfl 55 (by decide) rfl q3119 rfl rfl d_Mo_methodWords_120 ?_
    refine lv_aload_n G.1 G.2.1 d_Mo_methodWords_123 rfl (lv_at hl 0 rfl) ?_
    refine ugf (v := .int (sV s_38 a0 56)) G hP h_a0 iMo rfl 56 (by decide) rfl q3120 rfl rfl d_Mo_methodWords_124 ?_
    refine lv_aload_n G.1 G.2.1 d_Mo_methodWords_127 rfl (lv_at hl 0 rfl) ?_
    refine lv_aload_n G.1 G.2.1 d_Mo_methodWords_128 rfl (lv_at hl 0 rfl) ?_
    refine W.eq (g2 := F0 m 129 ls [.ref (ad a0), .ref (ad a0), .int (sV s_38 a0 56), .ref (yP y_39 a0 55), .ref (ad a0), .ref (ad a0)]) rfl ?_
    refine ugf (v := .int (sV s_38 a0 21)) G hP h_a0 iMo rfl 21 (by decide) rfl q3085 rfl rfl d_Mo_methodWords_129 ?_
    refine ucVi (As := [.int (sV s_38 a0 21)]) (rest := [.int (sV s_38 a0 56), .ref (yP y_39 a0 55), .ref (ad a0), .ref (ad a0)]) G hP hD hS (cu_Mo_takes l D g ad y_39 _ s_38 a0 (sV s_38 a0 21) H.size h_a0 h) w9_Mo_takes q3547 ⟨Nat.le_of_ble_eq_true rfl, Nat.le_of_ble_eq_true rfl⟩ rfl rfl h_a0 (q := (RMo, TMo, 131)) rfl rfl hl.1 rfl (Nat.le_of_ble_eq_true rfl) rfl hd d_Mo_methodWords_132 (fun r_45 s_46 H locs h hP hD hS => ?_)
    have J_146 : ∀ (y_j146 : Ly) (s_j146 : St) (d_j146 e_j146 : Nat) (z3j146 : Int32) (z4j146 : Int32) (H : Heap) (locs : List Loc), wja_Mo_methodWords_146 mc ms Post PX a0 y_j146 s_j146 d_j146 e_j146 z3j146 z4j146 → va_P D CL (ws g ad y_j146 s_j146) H → va_D A (ws g ad y_j146 s_j146) → va_S A s.heap H locs → ∀ ls, lv_has ls 2 [(0, .ref (ad a0))] → W p l e (ra_Mo_methodWords mc ms) s m args below meth c H locs d_j146 e_j146 Q (F0 m 146 ls [.int z4j146, .int z3j146, .ref (yP y_j146 a0 55), .ref (ad a0), .ref (ad a0)]) := by
      intro y_j146 s_j146 d_j146 e_j146 z3j146 z4j146 H locs h hP hD hS ls hl
      unfold wja_Mo_methodWords_146 at h
      obtain ⟨hd, h⟩ := h
      obtain ⟨mc_52, ms_53, hr_54, h⟩ := h
      refine uaVi (As := [.ref (yP y_j146 a0 55), .int z3j146, .int z4j146]) (rest := [.ref (ad a0)]) G hP hD hS (ca_Mo_signature l D g ad mc_52 ms_53 y_j146 _ s_j146 a0 a0 55 z3j146 z4j146 H.size (us H) h_a0 ⟨(kdp h_a0 rfl), (typ h_a0 rfl)⟩ h) w9_Mo_signature q2623 ⟨Nat.le_of_ble_eq_true rfl, Nat.le_of_ble_eq_true rfl⟩ rfl rfl h_a0 (q := (RMo, TMo, 131)) rfl rfl hl.1 rfl (Nat.le_of_ble_eq_true rfl) rfl hr_54 d_Mo_methodWords_146 (fun r_47 y_49 s_48 d_50 e_51 H locs h hP hD hS => ?_)
      obtain ⟨hd, h⟩ := h
      refine upf G hP hD hS h 92 putV h_a0 iMo tMo tMo_ok nMo rfl (by decide) rfl q3156 rfl rfl fV rfl rfl d_Mo_methodWords_149 (fun s_55 H locs h hP hD hS => ?_)
      refine lv_aload_n G.1 G.2.1 d_Mo_methodWords_152 rfl (lv_at hl 0 rfl) ?_
      refine lv_iconst (v := 0) G.1 G.2.1 d_Mo_methodWords_153 (by decide) ?_
      obtain ⟨mc_61, ms_62, hr_63, h⟩ := h
      refine uxVv (As := [.int 0]) (rest := []) G hP hD hS (cx_Mo_need l D g ad mc_61 ms_62 y_49 _ _ s_55 a0 0 H.size (us H) h_a0 h) (fun _ h => absurd h List.not_mem_nil) w9_Mo_need q3567 ⟨Nat.le_of_ble_eq_true rfl, Nat.le_of_ble_eq_true rfl⟩ rfl rfl h_a0 (q := (RMo, TMo, 131)) rfl rfl hl.1 rfl (Nat.le_of_ble_eq_true rfl) rfl hr_63 d_Mo_methodWords_154 (fun y_58 s_57 d_59 e_60 H locs q9 ce h hP hD hS hce hcv hcl => ?_) (fun y_58 s_57 d_59 e_60 H locs h hP hD hS => ?_)
      · skip
        obtain ⟨hd, h⟩ := h
        exact hretX h hP hD hS hd.1 hd.2 hce hcv hcl
      have hl := lv_sub (l' := []) hl [] rfl
      obtain ⟨hd, h⟩ := h
      exact hret (y_58, s_57, d_j146 + d_50 + d_59, e_j146 + e_51 + e_60) _ _ _ _ _ ls h hP hD hS (Nat.le_refl _) (Nat.le_refl _) hd.1 hd.2 d_Mo_methodWords_157
    refine lv_if_eq (tgt := 142) G.1 G.2.1 d_Mo_methodWords_135 (by decide) (fun c135 => ?_) (fun c135 => ?_)
    · skip
      have h := h.1 c135
      refine lv_aload_n G.1 G.2.1 d_Mo_methodWords_142 rfl (lv_at hl 0 rfl) ?_
      obtain ⟨mc_69, ms_70, hr_71, h⟩ := h
      refine uxVi (As := []) (rest := [.int (sV s_38 a0 56), .ref (yP y_39 a0 55), .ref (ad a0), .ref (ad a0)]) G hP hD hS (cx_Mo_type l D g ad mc_69 ms_70 y_39 _ _ s_46 a0 H.size (us H) h_a0 h) (fun _ h => absurd h List.not_mem_nil) w9_Mo_type q3587 ⟨Nat.le_of_ble_eq_true rfl, Nat.le_of_ble_eq_true rfl⟩ rfl rfl h_a0 (q := (RMo, TMo, 131)) rfl rfl hl.1 rfl (Nat.le_of_ble_eq_true rfl) rfl hr_71 d_Mo_methodWords_143 (fun y_66 s_65 d_67 e_68 H locs q9 ce h hP hD hS hce hcv hcl => ?_) (fun r_64 y_66 s_65 d_67 e_68 H locs h hP hD hS => ?_)
      · skip
        obtain ⟨hd, h⟩ := h
        exact hretX h hP hD hS hd.1 hd.2 hce hcv hcl
      obtain ⟨hd, h⟩ := h
      obtain ⟨n_72, h⟩ := h
      rw [n_72]
      exact J_146 y_66 s_65 (d_j111 + d_40 + d_67) (e_j111 + e_41 + e_68) (sV s_38 a0 56) r_64 H locs h hP hD hS ls (lv_sub hl [0] rfl)
    · skip
      have h := h.2 c135
      refine lv_iconst (v := 0) G.1 G.2.1 d_Mo_methodWords_138 (by decide) ?_
      refine lv_goto (tgt := 146) G.1 G.2.1 d_Mo_methodWords_139 (by decide) ?_
      exact J_146 y_39 s_46 (d_j111 + d_40) (e_j111 + e_41) (sV s_38 a0 56) 0 H locs h hP hD hS ls (lv_sub hl [0] rfl)
  refine W.eq (g2 := F0 m 44 ls [.int 41, .int x_36]) rfl ?_
  refine lv_icmp_eq (tgt := 111) G.1 G.2.1 d_Mo_methodWords_44 (by decide) (fun c44 => ?_) (fun c44 => ?_)
  · skip
    have h := h.1 c44
    exact J_111 y_29 s_35 (0 + d_4 + d_13 + d_21 + d_30) (0 + e_5 + e_14 + e_22 + e_31) H locs h hP hD hS ls (lv_sub hl [0] rfl)
  · skip
    have h := h.2 c44
    refine lv_iconst (v := 1) G.1 G.2.1 d_Mo_methodWords_47 (by decide) ?_
    refine lv_istore_n (lv' := [(1, .int 1), (0, .ref (ad a0))]) G.1 G.2.1 d_Mo_methodWords_48 rfl hl (by decide) rfl (fun ls hl => ?_)
    unfold wla_Mo_methodWords_49 at h
    obtain ⟨I_49, μ_49, hI_49, hB_49⟩ := h
    have L_49 : ∀ (n_49 : Nat) (y_h49 : Ly) (s_h49 : St) (d_h49 e_h49 : Nat) (x1h49 : Int32), μ_49 y_h49 s_h49 d_h49 e_h49 x1h49 < n_49 → I_49 y_h49 s_h49 d_h49 e_h49 x1h49 → ∀ (H : Heap) (locs : List Loc), va_P D CL (ws g ad y_h49 s_h49) H → va_D A (ws g ad y_h49 s_h49) → va_S A s.heap H locs → ∀ ls, lv_has ls 2 [(0, .ref (ad a0)), (1, .int x1h49)] → W p l e (ra_Mo_methodWords mc ms) s m args below meth c H locs d_h49 e_h49 Q (F0 m 49 ls []) := by
      intro n_49
      induction n_49 with
      | zero => intro y_h49 s_h49 d_h49 e_h49 x1h49 hμ; exact absurd hμ (Nat.not_lt_zero _)
      | succ n_49 ih_49 =>
        intro y_h49 s_h49 d_h49 e_h49 x1h49 hμ_49 hJ H locs hP hD hS ls hl
        obtain ⟨K_49, hK_49, h⟩ : ∃ K : Ly → St → Nat → Nat → Int32 → Prop, (∀ z1 z2 z3 z4 (t0 : Int32), K z1 z2 z3 z4 t0 → I_49 z1 z2 z3 z4 t0 ∧ μ_49 z1 z2 z3 z4 t0 < μ_49 y_h49 s_h49 d_h49 e_h49 x1h49) ∧ wba_Mo_methodWords_49 mc ms Post PX K a0 y_h49 s_h49 d_h49 e_h49 x1h49 := ⟨_, fun _ _ _ _ _ h => h, hB_49 y_h49 s_h49 d_h49 e_h49 x1h49 hJ⟩
        unfold wba_Mo_methodWords_49 at h
        obtain ⟨hd, h⟩ := h
        refine lv_iload_n G.1 G.2.1 d_Mo_methodWords_49 rfl (lv_at hl 1 rfl) ?_
        refine lv_if_eq (tgt := 111) G.1 G.2.1 d_Mo_methodWords_50 (by decide) (fun c50 => ?_) (fun c50 => ?_)
        · skip
          have h := h.1 c50
          exact J_111 y_h49 s_h49 d_h49 e_h49 H locs h hP hD hS ls (lv_sub hl [0] rfl)
        · skip
          have h := h.2 c50
          refine lv_aload_n G.1 G.2.1 d_Mo_methodWords_53 rfl (lv_at hl 0 rfl) ?_
          refine ugf (v := .int (sV s_h49 a0 56)) G hP h_a0 iMo rfl 56 (by decide) rfl q3120 rfl rfl d_Mo_methodWords_54 ?_
          refine lv_bipush (v := 6) G.1 G.2.1 d_Mo_methodWords_57 (by decide) ?_
          have J_66 : ∀ (y_j66 : Ly) (s_j66 : St) (d_j66 e_j66 : Nat) (H : Heap) (locs : List Loc), wja_Mo_methodWords_66 mc ms Post PX K_49 a0 y_j66 s_j66 d_j66 e_j66 → va_P D CL (ws g ad y_j66 s_j66) H → va_D A (ws g ad y_j66 s_j66) → va_S A s.heap H locs → ∀ ls, lv_has ls 2 [(0, .ref (ad a0))] → W p l e (ra_Mo_methodWords mc ms) s m args below meth c H locs d_j66 e_j66 Q (F0 m 66 ls []) := by
            intro y_j66 s_j66 d_j66 e_j66 H locs h hP hD hS ls hl
            unfold wja_Mo_methodWords_66 at h
            obtain ⟨hd, h⟩ := h
            refine lv_aload_n G.1 G.2.1 d_Mo_methodWords_66 rfl (lv_at hl 0 rfl) ?_
            obtain ⟨mc_78, ms_79, hr_80, h⟩ := h
            refine uxVv (As := []) (rest := []) G hP hD hS (cx_Mo_addType l D g ad mc_78 ms_79 y_j66 _ _ s_j66 a0 H.size (us H) h_a0 h) (fun _ h => absurd h List.not_mem_nil) w9_Mo_addType q3604 ⟨Nat.le_of_ble_eq_true rfl, Nat.le_of_ble_eq_true rfl⟩ rfl rfl h_a0 (q := (RMo, TMo, 131)) rfl rfl hl.1 rfl (Nat.le_of_ble_eq_true rfl) rfl hr_80 d_Mo_methodWords_67 (fun y_75 s_74 d_76 e_77 H locs q9 ce h hP hD hS hce hcv hcl => ?_) (fun y_75 s_74 d_76 e_77 H locs h hP hD hS => ?_)
            · skip
              obtain ⟨hd, h⟩ := h
              exact hretX h hP hD hS hd.1 hd.2 hce hcv hcl
            obtain ⟨hd, h⟩ := h
            refine lv_aload_n G.1 G.2.1 d_Mo_methodWords_70 rfl (lv_at hl 0 rfl) ?_
            refine ugf (v := .ref (yP y_75 a0 39)) G hP h_a0 iMo rfl 39 (by decide) rfl q3103 rfl rfl d_Mo_methodWords_71 ?_
            refine lv_aload_n G.1 G.2.1 d_Mo_methodWords_74 rfl (lv_at hl 0 rfl) ?_
            refine ugf (v := .int (sV s_74 a0 43)) G hP h_a0 iMo rfl 43 (by decide) rfl q3107 rfl rfl d_Mo_methodWords_75 ?_
            refine ubald G hP (kdp h_a0 rfl) (typ h_a0 rfl) h d_Mo_methodWords_78 (fun x_81 h => ?_)
            refine lv_bipush (v := 44) G.1 G.2.1 d_Mo_methodWords_79 (by decide) ?_
            have J_89 : ∀ (y_j89 : Ly) (s_j89 : St) (d_j89 e_j89 : Nat) (z0j89 : Int32) (H : Heap) (locs : List Loc), wja_Mo_methodWords_89 mc ms Post PX K_49 a0 y_j89 s_j89 d_j89 e_j89 z0j89 → va_P D CL (ws g ad y_j89 s_j89) H → va_D A (ws g ad y_j89 s_j89) → va_S A s.heap H locs → ∀ ls, lv_has ls 2 [(0, .ref (ad a0))] → W p l e (ra_Mo_methodWords mc ms) s m args below meth c H locs d_j89 e_j89 Q (F0 m 89 ls [.int z0j89]) := by
              intro y_j89 s_j89 d_j89 e_j89 z0j89 H locs h hP hD hS ls hl
              unfold wja_Mo_methodWords_89 at h
              obtain ⟨hd, h⟩ := h
              refine lv_istore_n (lv' := [(1, .int z0j89), (0, .ref (ad a0))]) G.1 G.2.1 d_Mo_methodWords_89 rfl hl (by decide) rfl (fun ls hl => ?_)
              refine lv_aload_n G.1 G.2.1 d_Mo_methodWords_90 rfl (lv_at hl 1 rfl) ?_
              refine lv_dup G.1 G.2.1 d_Mo_methodWords_91 rfl ?_
              refine ugf (v := .int (sV s_j89 a0 43)) G hP h_a0 iMo rfl 43 (by decide) rfl q3107 rfl rfl d_Mo_methodWords_92 ?_
              refine lv_iload_n G.1 G.2.1 d_Mo_methodWords_95 rfl (lv_at hl 0 rfl) ?_
              have J_104 : ∀ (y_j104 : Ly) (s_j104 : St) (d_j104 e_j104 : Nat) (x1j104 : Int32) (z1j104 : Int32) (z2j104 : Int32) (H : Heap) (locs : List Loc), wja_Mo_methodWords_104 mc ms Post PX K_49 a0 y_j104 s_j104 d_j104 e_j104 x1j104 z1j104 z2j104 → va_P D CL (ws g ad y_j104 s_j104) H → va_D A (ws g ad y_j104 s_j104) → va_S A s.heap H locs → ∀ ls, lv_has ls 2 [(0, .ref (ad a0)), (1, .int x1j104)] → W p l e (ra_Mo_methodWords mc ms) s m args below meth c H locs d_j104 e_j104 Q (F0 m 104 ls [.int z2j104, .int z1j104, .ref (ad a0)]) := by
                intro y_j104 s_j104 d_j104 e_j104 x1j104 z1j104 z2j104 H locs h hP hD hS ls hl
                unfold wja_Mo_methodWords_104 at h
                obtain ⟨hd, h⟩ := h
                refine lv_iadd G.1 G.2.1 d_Mo_methodWords_104 ?_
                refine upf G hP hD hS h 43 putV h_a0 iMo tMo tMo_ok nMo rfl (by decide) rfl q3107 rfl rfl fV rfl rfl d_Mo_methodWords_105 (fun s_82 H locs h hP hD hS => ?_)
                refine lv_goto (tgt := 49) G.1 G.2.1 d_Mo_methodWords_108 (by decide) ?_
                have h := hK_49 y_j104 s_82 d_j104 e_j104 x1j104 h
                exact ih_49 y_j104 s_82 d_j104 e_j104 x1j104 (Nat.lt_of_lt_of_le h.2 (Nat.le_of_lt_succ hμ_49)) h.1 H locs hP hD hS ls (lv_sub hl [0, 1] rfl)
              refine lv_if_eq (tgt := 103) G.1 G.2.1 d_Mo_methodWords_96 (by decide) (fun c96 => ?_) (fun c96 => ?_)
              · skip
                have h := h.1 c96
                refine lv_iconst (v := 0) G.1 G.2.1 d_Mo_methodWords_103 (by decide) ?_
                exact J_104 y_j89 s_j89 d_j89 e_j89 z0j89 (sV s_j89 a0 43) 0 H locs h hP hD hS ls (lv_sub hl [1, 0] rfl)
              · skip
                have h := h.2 c96
                refine lv_iconst (v := 1) G.1 G.2.1 d_Mo_methodWords_99 (by decide) ?_
                refine lv_goto (tgt := 104) G.1 G.2.1 d_Mo_methodWords_100 (by decide) ?_
                exact J_104 y_j89 s_j89 d_j89 e_j89 z0j89 (sV s_j89 a0 43) 1 H locs h hP hD hS ls (lv_sub hl [1, 0] rfl)
            refine lv_icmp_ne (tgt := 88) G.1 G.2.1 d_Mo_methodWords_81 (by decide) (fun c81 => ?_) (fun c81 => ?_)
            · skip
              have h := h.1 c81
              refine lv_iconst (v := 0) G.1 G.2.1 d_Mo_methodWords_88 (by decide) ?_
              exact J_89 y_75 s_74 (d_j66 + d_76) (e_j66 + e_77) 0 H locs h hP hD hS ls (lv_sub hl [0] rfl)
            · skip
              have h := h.2 c81
              refine lv_iconst (v := 1) G.1 G.2.1 d_Mo_methodWords_84 (by decide) ?_
              refine lv_goto (tgt := 89) G.1 G.2.1 d_Mo_methodWords_85 (by decide) ?_
              exact J_89 y_75 s_74 (d_j66 + d_76) (e_j66 + e_77) 1 H locs h hP hD hS ls (lv_sub hl [0] rfl)
          refine lv_icmp_ne (tgt := 66) G.1 G.2.1 d_Mo_methodWords_59 (by decide) (fun c59 => ?_) (fun c59 => ?_)
          · skip
            have h := h.1 c59
            exact J_66 y_h49 s_h49 d_h49 e_h49 H locs h hP hD hS ls (lv_sub hl [0] rfl)
          · skip
            have h := h.2 c59
            refine lv_aload_n G.1 G.2.1 d_Mo_methodWords_62 rfl (lv_at hl 0 rfl) ?_
            obtain ⟨mc_88, ms_89, hr_90, h⟩ := h
            refine uxVv (As := []) (rest := []) G hP hD hS (cx_Mo_wrong l D g ad mc_88 ms_89 y_h49 _ _ s_h49 a0 H.size (us H) h_a0 h) (fun _ h => absurd h List.not_mem_nil) w9_Mo_wrong q3551 ⟨Nat.le_of_ble_eq_true rfl, Nat.le_of_ble_eq_true rfl⟩ rfl rfl h_a0 (q := (RMo, TMo, 131)) rfl rfl hl.1 rfl (Nat.le_of_ble_eq_true rfl) rfl hr_90 d_Mo_methodWords_63 (fun y_85 s_84 d_86 e_87 H locs q9 ce h hP hD hS hce hcv hcl => ?_) (fun y_85 s_84 d_86 e_87 H locs h hP hD hS => ?_)
            · skip
              obtain ⟨hd, h⟩ := h
              exact hretX h hP hD hS hd.1 hd.2 hce hcv hcl
            have hl := lv_sub (l' := [(0, .ref (ad a0))]) hl [0] rfl
            obtain ⟨hd, h⟩ := h
            exact J_66 y_85 s_84 (d_h49 + d_86) (e_h49 + e_87) H locs h hP hD hS ls (lv_sub hl [0] rfl)
    exact L_49 _ y_29 s_35 (0 + d_4 + d_13 + d_21 + d_30) (0 + e_5 + e_14 + e_22 + e_31) 1 (Nat.lt_succ_self _) hI_49 H locs hP hD hS ls (lv_sub hl [1, 0] rfl)
theorem q2633 : Cond.classLink "ClassWorksModel" 267 "java/lang/IllegalStateException" ∈ lw_ok := lw_okmem (List.mem_of_getElem? (i := 2633) (by decide +kernel)) rfl
theorem q3494 : Cond.methodLink "ClassWorksModel" 569 y_Mo_cutLine ∈ lw_ok := lw_okmem (List.mem_of_getElem? (i := 3494) (by decide +kernel)) rfl
theorem q3497 : Cond.code y_Mo_cutLine b_Mo_cutLine 8 (some (.boolean)) ∈ lw_ok := lw_okmem (List.mem_of_getElem? (i := 3497) (by decide +kernel)) rfl
theorem q3496 : Cond.instanceMethod y_Mo_cutLine ∈ lw_ok := lw_okmem (List.mem_of_getElem? (i := 3496) (by decide +kernel)) rfl
theorem q179 : Cond.selects y_Mo_cutLine.cls y_Mo_cutLine y_Mo_cutLine ∈ lw_ok := lw_okmem (List.mem_of_getElem? (i := 179) (by decide +kernel)) rfl
theorem w9_Mo_cutLine : CWv y_Mo_cutLine b_Mo_cutLine 8 (some (.boolean)) 3 ∧ Cond.instanceMethod y_Mo_cutLine ∈ lw_ok ∧ Cond.selects y_Mo_cutLine.cls y_Mo_cutLine y_Mo_cutLine ∈ lw_ok := ⟨⟨q3497, q348, by decide +kernel, by decide +kernel, by decide +kernel⟩, q3496, q179⟩
theorem q3806 : Cond.methodLink "ClassWorksModel" 1144 y_Mo_methodWords ∈ lw_ok := lw_okmem (List.mem_of_getElem? (i := 3806) (by decide +kernel)) rfl
theorem q3809 : Cond.code y_Mo_methodWords b_Mo_methodWords 2 (none) ∈ lw_ok := lw_okmem (List.mem_of_getElem? (i := 3809) (by decide +kernel)) rfl
theorem q3808 : Cond.instanceMethod y_Mo_methodWords ∈ lw_ok := lw_okmem (List.mem_of_getElem? (i := 3808) (by decide +kernel)) rfl
theorem q244 : Cond.selects y_Mo_methodWords.cls y_Mo_methodWords y_Mo_methodWords ∈ lw_ok := lw_okmem (List.mem_of_getElem? (i := 244) (by decide +kernel)) rfl
theorem w9_Mo_methodWords : CWv y_Mo_methodWords b_Mo_methodWords 2 (none) 0 ∧ Cond.instanceMethod y_Mo_methodWords ∈ lw_ok ∧ Cond.selects y_Mo_methodWords.cls y_Mo_methodWords y_Mo_methodWords ∈ lw_ok := ⟨⟨q3809, q348, by decide +kernel, by decide +kernel, by decide +kernel⟩, q3808, q244⟩
theorem q3802 : Cond.methodLink "ClassWorksModel" 1141 y_Mo_callWords ∈ lw_ok := lw_okmem (List.mem_of_getElem? (i := 3802) (by decide +kernel)) rfl
theorem q3805 : Cond.code y_Mo_callWords b_Mo_callWords 2 (none) ∈ lw_ok := lw_okmem (List.mem_of_getElem? (i := 3805) (by decide +kernel)) rfl
theorem q3804 : Cond.instanceMethod y_Mo_callWords ∈ lw_ok := lw_okmem (List.mem_of_getElem? (i := 3804) (by decide +kernel)) rfl
theorem q243 : Cond.selects y_Mo_callWords.cls y_Mo_callWords y_Mo_callWords ∈ lw_ok := lw_okmem (List.mem_of_getElem? (i := 243) (by decide +kernel)) rfl
theorem w9_Mo_callWords : CWv y_Mo_callWords b_Mo_callWords 2 (none) 0 ∧ Cond.instanceMethod y_Mo_callWords ∈ lw_ok ∧ Cond.selects y_Mo_callWords.cls y_Mo_callWords y_Mo_callWords ∈ lw_ok := ⟨⟨q3805, q348, by decide +kernel, by decide +kernel, by decide +kernel⟩, q3804, q243⟩
def y_Mo_takesLine : MethodName := ⟨"ClassWorksModel", "takesLine", "(I)Z"⟩
abbrev b_Mo_takesLine : ByteArray := prog_14_method_140_code
theorem d_Mo_takesLine_0 : decode b_Mo_takesLine 0 = .ok (.aload_n 0, 1) := by decide +kernel
theorem d_Mo_takesLine_1 : decode b_Mo_takesLine 1 = .ok (.getfield 1112, 3) := by decide +kernel
theorem d_Mo_takesLine_4 : decode b_Mo_takesLine 4 = .ok (.istore_n 2, 1) := by decide +kernel
theorem d_Mo_takesLine_5 : decode b_Mo_takesLine 5 = .ok (.aload_n 0, 1) := by decide +kernel
theorem d_Mo_takesLine_6 : decode b_Mo_takesLine 6 = .ok (.iconst 0, 1) := by decide +kernel
theorem d_Mo_takesLine_7 : decode b_Mo_takesLine 7 = .ok (.putfield 1112, 3) := by decide +kernel
theorem d_Mo_takesLine_10 : decode b_Mo_takesLine 10 = .ok (.aload_n 0, 1) := by decide +kernel
theorem d_Mo_takesLine_11 : decode b_Mo_takesLine 11 = .ok (.bipush (-2), 2) := by decide +kernel
theorem d_Mo_takesLine_13 : decode b_Mo_takesLine 13 = .ok (.putfield 317, 3) := by decide +kernel
theorem d_Mo_takesLine_16 : decode b_Mo_takesLine 16 = .ok (.iconst 0, 1) := by decide +kernel
theorem d_Mo_takesLine_17 : decode b_Mo_takesLine 17 = .ok (.istore_n 3, 1) := by decide +kernel
theorem d_Mo_takesLine_18 : decode b_Mo_takesLine 18 = .ok (.iconst 0, 1) := by decide +kernel
theorem d_Mo_takesLine_19 : decode b_Mo_takesLine 19 = .ok (.istore 4, 2) := by decide +kernel
theorem d_Mo_takesLine_21 : decode b_Mo_takesLine 21 = .ok (.iload 4, 2) := by decide +kernel
theorem d_Mo_takesLine_23 : decode b_Mo_takesLine 23 = .ok (.iload_n 2, 1) := by decide +kernel
theorem d_Mo_takesLine_24 : decode b_Mo_takesLine 24 = .ok (.if_icmp .gt 80, 3) := by decide +kernel
theorem d_Mo_takesLine_27 : decode b_Mo_takesLine 27 = .ok (.iload 4, 2) := by decide +kernel
theorem d_Mo_takesLine_29 : decode b_Mo_takesLine 29 = .ok (.istore 5, 2) := by decide +kernel
theorem d_Mo_takesLine_31 : decode b_Mo_takesLine 31 = .ok (.iload 5, 2) := by decide +kernel
theorem d_Mo_takesLine_33 : decode b_Mo_takesLine 33 = .ok (.iload_n 2, 1) := by decide +kernel
theorem d_Mo_takesLine_34 : decode b_Mo_takesLine 34 = .ok (.if_icmp .ge 21, 3) := by decide +kernel
theorem d_Mo_takesLine_37 : decode b_Mo_takesLine 37 = .ok (.aload_n 0, 1) := by decide +kernel
theorem d_Mo_takesLine_38 : decode b_Mo_takesLine 38 = .ok (.getfield 314, 3) := by decide +kernel
theorem d_Mo_takesLine_41 : decode b_Mo_takesLine 41 = .ok (.iload 5, 2) := by decide +kernel
theorem d_Mo_takesLine_43 : decode b_Mo_takesLine 43 = .ok (.baload, 1) := by decide +kernel
theorem d_Mo_takesLine_44 : decode b_Mo_takesLine 44 = .ok (.bipush 10, 2) := by decide +kernel
theorem d_Mo_takesLine_46 : decode b_Mo_takesLine 46 = .ok (.if_icmp .eq 9, 3) := by decide +kernel
theorem d_Mo_takesLine_49 : decode b_Mo_takesLine 49 = .ok (.iinc 5 1, 3) := by decide +kernel
theorem d_Mo_takesLine_52 : decode b_Mo_takesLine 52 = .ok (.goto (-21), 3) := by decide +kernel
theorem d_Mo_takesLine_55 : decode b_Mo_takesLine 55 = .ok (.aload_n 0, 1) := by decide +kernel
theorem d_Mo_takesLine_56 : decode b_Mo_takesLine 56 = .ok (.aload_n 0, 1) := by decide +kernel
theorem d_Mo_takesLine_57 : decode b_Mo_takesLine 57 = .ok (.getfield 314, 3) := by decide +kernel
theorem d_Mo_takesLine_60 : decode b_Mo_takesLine 60 = .ok (.iload 4, 2) := by decide +kernel
theorem d_Mo_takesLine_62 : decode b_Mo_takesLine 62 = .ok (.iload 5, 2) := by decide +kernel
theorem d_Mo_takesLine_64 : decode b_Mo_takesLine 64 = .ok (.invokevirtual 569, 3) := by decide +kernel
theorem d_Mo_takesLine_67 : decode b_Mo_takesLine 67 = .ok (.ifCond .eq 28, 3) := by decide +kernel
theorem d_Mo_takesLine_70 : decode b_Mo_takesLine 70 = .ok (.iload_n 3, 1) := by decide +kernel
theorem d_Mo_takesLine_71 : decode b_Mo_takesLine 71 = .ok (.ifCond .eq 7, 3) := by decide +kernel
theorem d_Mo_takesLine_74 : decode b_Mo_takesLine 74 = .ok (.aload_n 0, 1) := by decide +kernel
theorem d_Mo_takesLine_75 : decode b_Mo_takesLine 75 = .ok (.invokevirtual 535, 3) := by decide +kernel
theorem d_Mo_takesLine_78 : decode b_Mo_takesLine 78 = .ok (.iconst 1, 1) := by decide +kernel
theorem d_Mo_takesLine_79 : decode b_Mo_takesLine 79 = .ok (.istore_n 3, 1) := by decide +kernel
theorem d_Mo_takesLine_80 : decode b_Mo_takesLine 80 = .ok (.iload_n 1, 1) := by decide +kernel
theorem d_Mo_takesLine_81 : decode b_Mo_takesLine 81 = .ok (.ifCond .ne 10, 3) := by decide +kernel
theorem d_Mo_takesLine_84 : decode b_Mo_takesLine 84 = .ok (.aload_n 0, 1) := by decide +kernel
theorem d_Mo_takesLine_85 : decode b_Mo_takesLine 85 = .ok (.invokevirtual 1141, 3) := by decide +kernel
theorem d_Mo_takesLine_88 : decode b_Mo_takesLine 88 = .ok (.goto 7, 3) := by decide +kernel
theorem d_Mo_takesLine_91 : decode b_Mo_takesLine 91 = .ok (.aload_n 0, 1) := by decide +kernel
theorem d_Mo_takesLine_92 : decode b_Mo_takesLine 92 = .ok (.invokevirtual 1144, 3) := by decide +kernel
theorem d_Mo_takesLine_95 : decode b_Mo_takesLine 95 = .ok (.iload 5, 2) := by decide +kernel
theorem d_Mo_takesLine_97 : decode b_Mo_takesLine 97 = .ok (.iconst 1, 1) := by decide +kernel
theorem d_Mo_takesLine_98 : decode b_Mo_takesLine 98 = .ok (.iadd, 1) := by decide +kernel
theorem d_Mo_takesLine_99 : decode b_Mo_takesLine 99 = .ok (.istore 4, 2) := by decide +kernel
theorem d_Mo_takesLine_101 : decode b_Mo_takesLine 101 = .ok (.goto (-80), 3) := by decide +kernel
theorem d_Mo_takesLine_104 : decode b_Mo_takesLine 104 = .ok (.iload_n 3, 1) := by decide +kernel
theorem d_Mo_takesLine_105 : decode b_Mo_takesLine 105 = .ok (.ifCond .ne 9, 3) := by decide +kernel
theorem d_Mo_takesLine_108 : decode b_Mo_takesLine 108 = .ok (.aload_n 0, 1) := by decide +kernel
theorem d_Mo_takesLine_109 : decode b_Mo_takesLine 109 = .ok (.iconst 1, 1) := by decide +kernel
theorem d_Mo_takesLine_110 : decode b_Mo_takesLine 110 = .ok (.iload_n 2, 1) := by decide +kernel
theorem d_Mo_takesLine_111 : decode b_Mo_takesLine 111 = .ok (.invokevirtual 576, 3) := by decide +kernel
theorem d_Mo_takesLine_114 : decode b_Mo_takesLine 114 = .ok (.goto 15, 3) := by decide +kernel
theorem d_Mo_takesLine_117 : decode b_Mo_takesLine 117 = .ok (.astore 4, 2) := by decide +kernel
theorem d_Mo_takesLine_119 : decode b_Mo_takesLine 119 = .ok (.aload_n 0, 1) := by decide +kernel
theorem d_Mo_takesLine_120 : decode b_Mo_takesLine 120 = .ok (.aload_n 0, 1) := by decide +kernel
theorem d_Mo_takesLine_121 : decode b_Mo_takesLine 121 = .ok (.getfield 529, 3) := by decide +kernel
theorem d_Mo_takesLine_124 : decode b_Mo_takesLine 124 = .ok (.putfield 317, 3) := by decide +kernel
theorem d_Mo_takesLine_127 : decode b_Mo_takesLine 127 = .ok (.iconst 0, 1) := by decide +kernel
theorem d_Mo_takesLine_128 : decode b_Mo_takesLine 128 = .ok (.ireturn, 1) := by decide +kernel
theorem d_Mo_takesLine_129 : decode b_Mo_takesLine 129 = .ok (.iconst 1, 1) := by decide +kernel
theorem d_Mo_takesLine_130 : decode b_Mo_takesLine 130 = .ok (.ireturn, 1) := by decide +kernel
abbrev ra_Mo_takesLine (mc ms : Nat) : Room := { frames := 7, cells := mc, slots := ms, locals := 203 }
abbrev hh_Mo_takesLine : List (Nat × Nat × Nat × Nat) := [(18, 114, 117, 267)]
def wja_Mo_takesLine_117 (mc ms : Nat) (Post : Ly → St → Int32 → Nat → Nat → Prop) (a0 : Nat) (y_j117 : Ly) (s_j117 : St) (d_j117 e_j117 : Nat) (z0j117 : Nat) : Prop := (d_j117 ≤ mc ∧ e_j117 ≤ ms) ∧ xP (uV s_j117 a0 86 (sV s_j117 a0 50)) (fun s_3 : St => (nb 0 ∧ Post y_j117 s_3 0 d_j117 e_j117))
def wja_Mo_takesLine_114 (mc ms : Nat) (Post : Ly → St → Int32 → Nat → Nat → Prop) (a0 : Nat) (y_j114 : Ly) (s_j114 : St) (d_j114 e_j114 : Nat) : Prop := (d_j114 ≤ mc ∧ e_j114 ≤ ms) ∧ (nb 1 ∧ Post y_j114 s_j114 1 d_j114 e_j114)
def wja_Mo_takesLine_95 (mc ms : Nat) (Post : Ly → St → Int32 → Nat → Nat → Prop) (K_21 : Ly → St → Nat → Nat → Int32 → Int32 → Int32 → Int32 → Prop) (a0 : Nat) (y_j95 : Ly) (s_j95 : St) (d_j95 e_j95 : Nat) (x1j95 : Int32) (x2j95 : Int32) (x3j95 : Int32) (x5j95 : Int32) : Prop := (d_j95 ≤ mc ∧ e_j95 ≤ ms) ∧ K_21 y_j95 s_j95 d_j95 e_j95 x1j95 x2j95 x3j95 (x5j95 + 1)
def wja_Mo_takesLine_78 (mc ms : Nat) (Post : Ly → St → Int32 → Nat → Nat → Prop) (K_21 : Ly → St → Nat → Nat → Int32 → Int32 → Int32 → Int32 → Prop) (a0 : Nat) (y_j78 : Ly) (s_j78 : St) (d_j78 e_j78 : Nat) (x1j78 : Int32) (x2j78 : Int32) (x5j78 : Int32) : Prop := (d_j78 ≤ mc ∧ e_j78 ≤ ms) ∧ ((¬ x1j78 = 0 → ∃ mc_25 ms_26 : Nat, (d_j78 + mc_25 ≤ mc ∧ e_j78 + ms_26 ≤ ms) ∧ wx_Mo_methodWords mc_25 ms_26 y_j78 (fun (y_22 : Ly) (s_21 : St) (d_23 e_24 : Nat) => (d_j78 + d_23 ≤ mc ∧ e_j78 + e_24 ≤ ms) ∧ wja_Mo_takesLine_95 mc ms Post K_21 a0 y_22 s_21 (d_j78 + d_23) (e_j78 + e_24) x1j78 x2j78 1 x5j78) (fun (y_22 : Ly) (s_21 : St) (d_23 e_24 : Nat) => ∀ q9 : Nat, wja_Mo_takesLine_117 mc ms Post a0 y_22 s_21 (d_j78 + d_23) (e_j78 + e_24) q9) s_j78 a0) ∧ (x1j78 = 0 → ∃ mc_33 ms_34 : Nat, (d_j78 + mc_33 ≤ mc ∧ e_j78 + ms_34 ≤ ms) ∧ wx_Mo_callWords mc_33 ms_34 y_j78 (fun (y_30 : Ly) (s_29 : St) (d_31 e_32 : Nat) => (d_j78 + d_31 ≤ mc ∧ e_j78 + e_32 ≤ ms) ∧ wja_Mo_takesLine_95 mc ms Post K_21 a0 y_30 s_29 (d_j78 + d_31) (e_j78 + e_32) x1j78 x2j78 1 x5j78) (fun (y_30 : Ly) (s_29 : St) (d_31 e_32 : Nat) => ∀ q9 : Nat, wja_Mo_takesLine_117 mc ms Post a0 y_30 s_29 (d_j78 + d_31) (e_j78 + e_32) q9) s_j78 a0))
def wja_Mo_takesLine_55 (mc ms : Nat) (Post : Ly → St → Int32 → Nat → Nat → Prop) (K_21 : Ly → St → Nat → Nat → Int32 → Int32 → Int32 → Int32 → Prop) (a0 : Nat) (y_j55 : Ly) (s_j55 : St) (d_j55 e_j55 : Nat) (x1j55 : Int32) (x2j55 : Int32) (x3j55 : Int32) (x4j55 : Int32) (x5j55 : Int32) : Prop := (d_j55 ≤ mc ∧ e_j55 ≤ ms) ∧ ∃ mc_17 ms_18 : Nat, (d_j55 + mc_17 ≤ mc ∧ e_j55 + ms_18 ≤ ms) ∧ wa_Mo_cutLine mc_17 ms_18 y_j55 (fun (y_14 : Ly) (s_13 : St) (r_12 : Int32) (d_15 e_16 : Nat) => (d_j55 + d_15 ≤ mc ∧ e_j55 + e_16 ≤ ms) ∧ ((r_12 = 0 → wja_Mo_takesLine_95 mc ms Post K_21 a0 y_14 s_13 (d_j55 + d_15) (e_j55 + e_16) x1j55 x2j55 x3j55 x5j55) ∧ (¬ (r_12 = 0) → ((x3j55 = 0 → wja_Mo_takesLine_78 mc ms Post K_21 a0 y_14 s_13 (d_j55 + d_15) (e_j55 + e_16) x1j55 x2j55 x5j55) ∧ (¬ (x3j55 = 0) → ∃ mc_41 ms_42 : Nat, (d_j55 + d_15 + mc_41 ≤ mc ∧ e_j55 + e_16 + ms_42 ≤ ms) ∧ wx_Mo_wrong mc_41 ms_42 y_14 (fun (y_38 : Ly) (s_37 : St) (d_39 e_40 : Nat) => (d_j55 + d_15 + d_39 ≤ mc ∧ e_j55 + e_16 + e_40 ≤ ms) ∧ wja_Mo_takesLine_78 mc ms Post K_21 a0 y_38 s_37 (d_j55 + d_15 + d_39) (e_j55 + e_16 + e_40) x1j55 x2j55 x5j55) (fun (y_38 : Ly) (s_37 : St) (d_39 e_40 : Nat) => ∀ q9 : Nat, wja_Mo_takesLine_117 mc ms Post a0 y_38 s_37 (d_j55 + d_15 + d_39) (e_j55 + e_16 + e_40) q9) s_13 a0))))) s_j55 a0 a0 84 x4j55 x5j55
def wba_Mo_takesLine_31 (mc ms : Nat) (Post : Ly → St → Int32 → Nat → Nat → Prop) (K_21 : Ly → St → Nat → Nat → Int32 → Int32 → Int32 → Int32 → Prop) (K_31 : Ly → St → Nat → Nat → Int32 → Int32 → Int32 → Int32 → Int32 → Prop) (a0 : Nat) (y_h31 : Ly) (s_h31 : St) (d_h31 e_h31 : Nat) (x1h31 : Int32) (x2h31 : Int32) (x3h31 : Int32) (x4h31 : Int32) (x5h31 : Int32) : Prop := (d_h31 ≤ mc ∧ e_h31 ≤ ms) ∧ ((x2h31 ≤ x5h31 → wja_Mo_takesLine_55 mc ms Post K_21 a0 y_h31 s_h31 d_h31 e_h31 x1h31 x2h31 x3h31 x4h31 x5h31) ∧ (¬ (x2h31 ≤ x5h31) → xA y_h31 s_h31 a0 84 x5h31 (fun x_44 : Int32 => ((x_44 = 10 → wja_Mo_takesLine_55 mc ms Post K_21 a0 y_h31 s_h31 d_h31 e_h31 x1h31 x2h31 x3h31 x4h31 x5h31) ∧ (¬ (x_44 = 10) → K_31 y_h31 s_h31 d_h31 e_h31 x1h31 x2h31 x3h31 x4h31 (x5h31 + 1))))))
def wla_Mo_takesLine_31 (mc ms : Nat) (Post : Ly → St → Int32 → Nat → Nat → Prop) (K_21 : Ly → St → Nat → Nat → Int32 → Int32 → Int32 → Int32 → Prop) (a0 : Nat) (y_h31 : Ly) (s_h31 : St) (d_h31 e_h31 : Nat) (x1h31 : Int32) (x2h31 : Int32) (x3h31 : Int32) (x4h31 : Int32) (x5h31 : Int32) : Prop := ∃ (I : Ly → St → Nat → Nat → Int32 → Int32 → Int32 → Int32 → Int32 → Prop) (μ : Ly → St → Nat → Nat → Int32 → Int32 → Int32 → Int32 → Int32 → Nat), I y_h31 s_h31 d_h31 e_h31 x1h31 x2h31 x3h31 x4h31 x5h31 ∧ ∀ (u1 : Ly) (u2 : St) (u3 u4 : Nat) (t0 : Int32) (t1 : Int32) (t2 : Int32) (t3 : Int32) (t4 : Int32), I u1 u2 u3 u4 t0 t1 t2 t3 t4 → wba_Mo_takesLine_31 mc ms Post K_21 (fun z1 z2 z3 z4 t0q t1q t2q t3q t4q => I z1 z2 z3 z4 t0q t1q t2q t3q t4q ∧ μ z1 z2 z3 z4 t0q t1q t2q t3q t4q < μ u1 u2 u3 u4 t0 t1 t2 t3 t4) a0 u1 u2 u3 u4 t0 t1 t2 t3 t4
def wba_Mo_takesLine_21 (mc ms : Nat) (Post : Ly → St → Int32 → Nat → Nat → Prop) (K_21 : Ly → St → Nat → Nat → Int32 → Int32 → Int32 → Int32 → Prop) (a0 : Nat) (y_h21 : Ly) (s_h21 : St) (d_h21 e_h21 : Nat) (x1h21 : Int32) (x2h21 : Int32) (x3h21 : Int32) (x4h21 : Int32) : Prop := (d_h21 ≤ mc ∧ e_h21 ≤ ms) ∧ ((x2h21 < x4h21 → ((¬ x3h21 = 0 → wja_Mo_takesLine_114 mc ms Post a0 y_h21 s_h21 d_h21 e_h21) ∧ (x3h21 = 0 → ∃ mc_9 ms_10 : Nat, (d_h21 + mc_9 ≤ mc ∧ e_h21 + ms_10 ≤ ms) ∧ wx_Mo_refuse mc_9 ms_10 y_h21 (fun (y_6 : Ly) (s_5 : St) (d_7 e_8 : Nat) => (d_h21 + d_7 ≤ mc ∧ e_h21 + e_8 ≤ ms) ∧ wja_Mo_takesLine_114 mc ms Post a0 y_6 s_5 (d_h21 + d_7) (e_h21 + e_8)) (fun (y_6 : Ly) (s_5 : St) (d_7 e_8 : Nat) => ∀ q9 : Nat, wja_Mo_takesLine_117 mc ms Post a0 y_6 s_5 (d_h21 + d_7) (e_h21 + e_8) q9) s_h21 a0 1 x2h21))) ∧ (¬ (x2h21 < x4h21) → wla_Mo_takesLine_31 mc ms Post K_21 a0 y_h21 s_h21 d_h21 e_h21 x1h21 x2h21 x3h21 x4h21 x4h21))
def wla_Mo_takesLine_21 (mc ms : Nat) (Post : Ly → St → Int32 → Nat → Nat → Prop) (a0 : Nat) (y_h21 : Ly) (s_h21 : St) (d_h21 e_h21 : Nat) (x1h21 : Int32) (x2h21 : Int32) (x3h21 : Int32) (x4h21 : Int32) : Prop := ∃ (I : Ly → St → Nat → Nat → Int32 → Int32 → Int32 → Int32 → Prop) (μ : Ly → St → Nat → Nat → Int32 → Int32 → Int32 → Int32 → Nat), I y_h21 s_h21 d_h21 e_h21 x1h21 x2h21 x3h21 x4h21 ∧ ∀ (u1 : Ly) (u2 : St) (u3 u4 : Nat) (t0 : Int32) (t1 : Int32) (t2 : Int32) (t3 : Int32), I u1 u2 u3 u4 t0 t1 t2 t3 → wba_Mo_takesLine_21 mc ms Post (fun z1 z2 z3 z4 t0q t1q t2q t3q => I z1 z2 z3 z4 t0q t1q t2q t3q ∧ μ z1 z2 z3 z4 t0q t1q t2q t3q < μ u1 u2 u3 u4 t0 t1 t2 t3) a0 u1 u2 u3 u4 t0 t1 t2 t3
def wa_Mo_takesLine (mc ms : Nat) (y : Ly) (Post : Ly → St → Int32 → Nat → Nat → Prop) (σ : St) (a0 : Nat) (v1 : Int32) : Prop := xP (uV σ a0 85 0) (fun s_1 : St => xP (uV s_1 a0 86 (-2)) (fun s_2 : St => wla_Mo_takesLine_21 mc ms Post a0 y s_2 0 0 v1 (sV σ a0 85) 0 0))
set_option maxHeartbeats 4000000 in
set_option maxRecDepth 100000 in
theorem ca_Mo_takesLine (l : Launch) (D : va_G) (g : Nat → ClassId) (ad : Nat → Nat) (mc ms : Nat) (y : Ly) (Post : Ly → St → Int32 → Nat → Nat → Prop) (σ : St) (a0 : Nat) (v1 : Int32) (sz uz : Nat) (h_a0 : cl a0 = 14) (h : wa_Mo_takesLine mc ms y Post σ a0 v1) : Met l y_Mo_takesLine (mww y_Mo_takesLine b_Mo_takesLine 6 (some (.boolean)) hh_Mo_takesLine) (ra_Mo_takesLine mc ms) (PCu g D [] [.ref (ad a0), .int v1] sz uz (ws g ad y σ)) (va_Qi (fun (r : Int32) (u : Ly × St × Nat × Nat) => Post u.1 u.2.1 r u.2.2.1 u.2.2.2) (QU D (va_A (ws g ad y σ) sz) (fun u => ws g ad u.1 u.2.1) sz uz (fun u => u.2.2.1) (fun u => u.2.2.2)) (va_A (ws g ad y σ) sz)) mc ms (va_A (ws g ad y σ) sz) := by
  refine ofZuW (by decide +kernel) (Nat.le_of_ble_eq_true rfl) ?_
  intro p e s m args below meth c A Q ls H locs G htab hsz hP hD hS hl hret
  subst hsz
  have hl : lv_has ls 6 [(0, .ref (ad a0)), (1, .int v1)] := hl
  have hd : 0 ≤ mc ∧ 0 ≤ ms := ⟨Nat.zero_le _, Nat.zero_le _⟩
  unfold wa_Mo_takesLine at h
  refine lv_aload_n G.1 G.2.1 d_Mo_takesLine_0 rfl (lv_at hl 0 rfl) ?_
  refine ugf (v := .int (sV σ a0 85)) G hP h_a0 iMo rfl 85 (by decide) rfl q3149 rfl rfl d_Mo_takesLine_1 ?_
  refine lv_istore_n (lv' := [(2, .int (sV σ a0 85)), (0, .ref (ad a0)), (1, .int v1)]) G.1 G.2.1 d_Mo_takesLine_4 rfl hl (by decide) rfl (fun ls hl => ?_)
  refine lv_aload_n G.1 G.2.1 d_Mo_takesLine_5 rfl (lv_at hl 1 rfl) ?_
  refine lv_iconst (v := 0) G.1 G.2.1 d_Mo_takesLine_6 (by decide) ?_
  refine upf G hP hD hS h 85 putV h_a0 iMo tMo tMo_ok nMo rfl (by decide) rfl q3149 rfl rfl fV rfl rfl d_Mo_takesLine_7 (fun s_1 H locs h hP hD hS => ?_)
  refine lv_aload_n G.1 G.2.1 d_Mo_takesLine_10 rfl (lv_at hl 1 rfl) ?_
  refine lv_bipush (v := (-2)) G.1 G.2.1 d_Mo_takesLine_11 (by decide) ?_
  refine upf G hP hD hS h 86 putV h_a0 iMo tMo tMo_ok nMo rfl (by decide) rfl q3150 rfl rfl fV rfl rfl d_Mo_takesLine_13 (fun s_2 H locs h hP hD hS => ?_)
  refine lv_iconst (v := 0) G.1 G.2.1 d_Mo_takesLine_16 (by decide) ?_
  refine lv_istore_n (lv' := [(3, .int 0), (2, .int (sV σ a0 85)), (0, .ref (ad a0)), (1, .int v1)]) G.1 G.2.1 d_Mo_takesLine_17 rfl hl (by decide) rfl (fun ls hl => ?_)
  refine W.eq (g2 := F0 m 18 ls []) rfl ?_
  refine lv_iconst (v := 0) G.1 G.2.1 d_Mo_takesLine_18 (by decide) ?_
  refine lv_istore (lv' := [(4, .int 0), (3, .int 0), (2, .int (sV σ a0 85)), (0, .ref (ad a0)), (1, .int v1)]) G.1 G.2.1 d_Mo_takesLine_19 hl (by decide) rfl (fun ls hl => ?_)
  unfold wla_Mo_takesLine_21 at h
  obtain ⟨I_21, μ_21, hI_21, hB_21⟩ := h
  have L_21 : ∀ (n_21 : Nat) (y_h21 : Ly) (s_h21 : St) (d_h21 e_h21 : Nat) (x1h21 : Int32) (x2h21 : Int32) (x3h21 : Int32) (x4h21 : Int32), μ_21 y_h21 s_h21 d_h21 e_h21 x1h21 x2h21 x3h21 x4h21 < n_21 → I_21 y_h21 s_h21 d_h21 e_h21 x1h21 x2h21 x3h21 x4h21 → ∀ (H : Heap) (locs : List Loc), va_P D CL (ws g ad y_h21 s_h21) H → va_D A (ws g ad y_h21 s_h21) → va_S A s.heap H locs → ∀ ls, lv_has ls 6 [(0, .ref (ad a0)), (1, .int x1h21), (2, .int x2h21), (3, .int x3h21), (4, .int x4h21)] → W p l e (ra_Mo_takesLine mc ms) s m args below meth c H locs d_h21 e_h21 Q (F0 m 21 ls []) := by
    intro n_21
    induction n_21 with
    | zero => intro y_h21 s_h21 d_h21 e_h21 x1h21 x2h21 x3h21 x4h21 hμ; exact absurd hμ (Nat.not_lt_zero _)
    | succ n_21 ih_21 =>
      intro y_h21 s_h21 d_h21 e_h21 x1h21 x2h21 x3h21 x4h21 hμ_21 hJ H locs hP hD hS ls hl
      obtain ⟨K_21, hK_21, h⟩ : ∃ K : Ly → St → Nat → Nat → Int32 → Int32 → Int32 → Int32 → Prop, (∀ z1 z2 z3 z4 (t0 : Int32) (t1 : Int32) (t2 : Int32) (t3 : Int32), K z1 z2 z3 z4 t0 t1 t2 t3 → I_21 z1 z2 z3 z4 t0 t1 t2 t3 ∧ μ_21 z1 z2 z3 z4 t0 t1 t2 t3 < μ_21 y_h21 s_h21 d_h21 e_h21 x1h21 x2h21 x3h21 x4h21) ∧ wba_Mo_takesLine_21 mc ms Post K a0 y_h21 s_h21 d_h21 e_h21 x1h21 x2h21 x3h21 x4h21 := ⟨_, fun _ _ _ _ _ _ _ _ h => h, hB_21 y_h21 s_h21 d_h21 e_h21 x1h21 x2h21 x3h21 x4h21 hJ⟩
      unfold wba_Mo_takesLine_21 at h
      obtain ⟨hd, h⟩ := h
      refine lv_iload G.1 G.2.1 d_Mo_takesLine_21 (lv_at hl 4 rfl) ?_
      refine lv_iload_n G.1 G.2.1 d_Mo_takesLine_23 rfl (lv_at hl 2 rfl) ?_
      have J_117 : ∀ (y_j117 : Ly) (s_j117 : St) (d_j117 e_j117 : Nat) (z0j117 : Nat) (H : Heap) (locs : List Loc), wja_Mo_takesLine_117 mc ms Post a0 y_j117 s_j117 d_j117 e_j117 z0j117 → va_P D CL (ws g ad y_j117 s_j117) H → va_D A (ws g ad y_j117 s_j117) → va_S A s.heap H locs → ∀ ls, lv_has ls 6 [(0, .ref (ad a0))] → W p l e (ra_Mo_takesLine mc ms) s m args below meth c H locs d_j117 e_j117 Q (F0 m 117 ls [.ref z0j117]) := by
        intro y_j117 s_j117 d_j117 e_j117 z0j117 H locs h hP hD hS ls hl
        unfold wja_Mo_takesLine_117 at h
        obtain ⟨hd, h⟩ := h
        refine lv_astore (lv' := [(4, .ref z0j117), (0, .ref (ad a0))]) G.1 G.2.1 d_Mo_takesLine_117 hl (by decide) rfl (fun ls hl => ?_)
        refine lv_aload_n G.1 G.2.1 d_Mo_takesLine_119 rfl (lv_at hl 1 rfl) ?_
        refine lv_aload_n G.1 G.2.1 d_Mo_takesLine_120 rfl (lv_at hl 1 rfl) ?_
        refine ugf (v := .int (sV s_j117 a0 50)) G hP h_a0 iMo rfl 50 (by decide) rfl q3114 rfl rfl d_Mo_takesLine_121 ?_
        refine upf G hP hD hS h 86 putV h_a0 iMo tMo tMo_ok nMo rfl (by decide) rfl q3150 rfl rfl fV rfl rfl d_Mo_takesLine_124 (fun s_3 H locs h hP hD hS => ?_)
        refine lv_iconst (v := 0) G.1 G.2.1 d_Mo_takesLine_127 (by decide) ?_
        exact hret _ (y_j117, s_3, d_j117, e_j117) _ _ _ _ _ ls (nb_n h.1) h.2 hP hD hS (Nat.le_refl _) (Nat.le_refl _) hd.1 hd.2 d_Mo_takesLine_128
      refine lv_icmp_gt (tgt := 104) G.1 G.2.1 d_Mo_takesLine_24 (by decide) (fun c24 => ?_) (fun c24 => ?_)
      · skip
        have h := h.1 c24
        refine lv_iload_n G.1 G.2.1 d_Mo_takesLine_104 rfl (lv_at hl 3 rfl) ?_
        have J_114 : ∀ (y_j114 : Ly) (s_j114 : St) (d_j114 e_j114 : Nat) (H : Heap) (locs : List Loc), wja_Mo_takesLine_114 mc ms Post a0 y_j114 s_j114 d_j114 e_j114 → va_P D CL (ws g ad y_j114 s_j114) H → va_D A (ws g ad y_j114 s_j114) → va_S A s.heap H locs → ∀ ls, lv_has ls 6 [] → W p l e (ra_Mo_takesLine mc ms) s m args below meth c H locs d_j114 e_j114 Q (F0 m 114 ls []) := by
          intro y_j114 s_j114 d_j114 e_j114 H locs h hP hD hS ls hl
          unfold wja_Mo_takesLine_114 at h
          obtain ⟨hd, h⟩ := h
          refine lv_goto (tgt := 129) G.1 G.2.1 d_Mo_takesLine_114 (by decide) ?_
          refine lv_iconst (v := 1) G.1 G.2.1 d_Mo_takesLine_129 (by decide) ?_
          exact hret _ (y_j114, s_j114, d_j114, e_j114) _ _ _ _ _ ls (nb_n h.1) h.2 hP hD hS (Nat.le_refl _) (Nat.le_refl _) hd.1 hd.2 d_Mo_takesLine_130
        refine lv_if_ne (tgt := 114) G.1 G.2.1 d_Mo_takesLine_105 (by decide) (fun c105 => ?_) (fun c105 => ?_)
        · skip
          have h := h.1 c105
          exact J_114 y_h21 s_h21 d_h21 e_h21 H locs h hP hD hS ls (lv_sub hl [] rfl)
        · skip
          have h := h.2 c105
          refine lv_aload_n G.1 G.2.1 d_Mo_takesLine_108 rfl (lv_at hl 0 rfl) ?_
          refine lv_iconst (v := 1) G.1 G.2.1 d_Mo_takesLine_109 (by decide) ?_
          refine lv_iload_n G.1 G.2.1 d_Mo_takesLine_110 rfl (lv_at hl 2 rfl) ?_
          obtain ⟨mc_9, ms_10, hr_11, h⟩ := h
          refine uxVv (As := [.int 1, .int x2h21]) (rest := []) G hP hD hS (cx_Mo_refuse l D g ad mc_9 ms_10 y_h21 _ _ s_h21 a0 1 x2h21 H.size (us H) h_a0 h) (fun _ h => absurd h List.not_mem_nil) w9_Mo_refuse q3535 ⟨Nat.le_of_ble_eq_true rfl, Nat.le_of_ble_eq_true rfl⟩ rfl rfl h_a0 (q := (RMo, TMo, 131)) rfl rfl hl.1 rfl (Nat.le_of_ble_eq_true rfl) rfl hr_11 d_Mo_takesLine_111 (fun y_6 s_5 d_7 e_8 H locs q9 ce h hP hD hS hce hcv hcl => ?_) (fun y_6 s_5 d_7 e_8 H locs h hP hD hS => ?_)
          · skip
            refine vx_catch (own := "ClassWorksModel") (name := "java/lang/IllegalStateException") (E := "java/lang/IllegalStateException") G.2.2.2.2.2.2.1 [] ⟨18, 114, 117, 267⟩ [] htab (fun z hz => absurd hz List.not_mem_nil) (by decide) (by decide) (G.2.2.2.2.2.1 _ q2633) (G.2.2.2.2.2.2.2.2.2.1.use (w := Cond.castable "java/lang/IllegalStateException" "java/lang/IllegalStateException") (lw_nestmem (List.mem_of_getElem? (i := 2635) (by decide +kernel)) rfl) rfl) hce hcv hcl ?_
            refine W.eq (g2 := F0 m 117 ls [.ref q9]) rfl ?_
            have h := h q9
            exact J_117 y_6 s_5 (d_h21 + d_7) (e_h21 + e_8) q9 H locs h hP hD hS ls (lv_sub hl [0] rfl)
          have hl := lv_sub (l' := []) hl [] rfl
          obtain ⟨hd, h⟩ := h
          exact J_114 y_6 s_5 (d_h21 + d_7) (e_h21 + e_8) H locs h hP hD hS ls (lv_sub hl [] rfl)
      · skip
        have h := h.2 c24
        refine lv_iload G.1 G.2.1 d_Mo_takesLine_27 (lv_at hl 4 rfl) ?_
        refine lv_istore (lv' := [(5, .int x4h21), (0, .ref (ad a0)), (1, .int x1h21), (2, .int x2h21), (3, .int x3h21), (4, .int x4h21)]) G.1 G.2.1 d_Mo_takesLine_29 hl (by decide) rfl (fun ls hl => ?_)
        unfold wla_Mo_takesLine_31 at h
        obtain ⟨I_31, μ_31, hI_31, hB_31⟩ := h
        have L_31 : ∀ (n_31 : Nat) (y_h31 : Ly) (s_h31 : St) (d_h31 e_h31 : Nat) (x1h31 : Int32) (x2h31 : Int32) (x3h31 : Int32) (x4h31 : Int32) (x5h31 : Int32), μ_31 y_h31 s_h31 d_h31 e_h31 x1h31 x2h31 x3h31 x4h31 x5h31 < n_31 → I_31 y_h31 s_h31 d_h31 e_h31 x1h31 x2h31 x3h31 x4h31 x5h31 → ∀ (H : Heap) (locs : List Loc), va_P D CL (ws g ad y_h31 s_h31) H → va_D A (ws g ad y_h31 s_h31) → va_S A s.heap H locs → ∀ ls, lv_has ls 6 [(0, .ref (ad a0)), (1, .int x1h31), (2, .int x2h31), (3, .int x3h31), (4, .int x4h31), (5, .int x5h31)] → W p l e (ra_Mo_takesLine mc ms) s m args below meth c H locs d_h31 e_h31 Q (F0 m 31 ls []) := by
          intro n_31
          induction n_31 with
          | zero => intro y_h31 s_h31 d_h31 e_h31 x1h31 x2h31 x3h31 x4h31 x5h31 hμ; exact absurd hμ (Nat.not_lt_zero _)
          | succ n_31 ih_31 =>
            intro y_h31 s_h31 d_h31 e_h31 x1h31 x2h31 x3h31 x4h31 x5h31 hμ_31 hJ H locs hP hD hS ls hl
            obtain ⟨K_31, hK_31, h⟩ : ∃ K : Ly → St → Nat → Nat → Int32 → Int32 → Int32 → Int32 → Int32 → Prop, (∀ z1 z2 z3 z4 (t0 : Int32) (t1 : Int32) (t2 : Int32) (t3 : Int32) (t4 : Int32), K z1 z2 z3 z4 t0 t1 t2 t3 t4 → I_31 z1 z2 z3 z4 t0 t1 t2 t3 t4 ∧ μ_31 z1 z2 z3 z4 t0 t1 t2 t3 t4 < μ_31 y_h31 s_h31 d_h31 e_h31 x1h31 x2h31 x3h31 x4h31 x5h31) ∧ wba_Mo_takesLine_31 mc ms Post K_21 K a0 y_h31 s_h31 d_h31 e_h31 x1h31 x2h31 x3h31 x4h31 x5h31 := ⟨_, fun _ _ _ _ _ _ _ _ _ h => h, hB_31 y_h31 s_h31 d_h31 e_h31 x1h31 x2h31 x3h31 x4h31 x5h31 hJ⟩
            unfold wba_Mo_takesLine_31 at h
            obtain ⟨hd, h⟩ := h
            refine lv_iload G.1 G.2.1 d_Mo_takesLine_31 (lv_at hl 5 rfl) ?_
            refine lv_iload_n G.1 G.2.1 d_Mo_takesLine_33 rfl (lv_at hl 2 rfl) ?_
            have J_55 : ∀ (y_j55 : Ly) (s_j55 : St) (d_j55 e_j55 : Nat) (x1j55 : Int32) (x2j55 : Int32) (x3j55 : Int32) (x4j55 : Int32) (x5j55 : Int32) (H : Heap) (locs : List Loc), wja_Mo_takesLine_55 mc ms Post K_21 a0 y_j55 s_j55 d_j55 e_j55 x1j55 x2j55 x3j55 x4j55 x5j55 → va_P D CL (ws g ad y_j55 s_j55) H → va_D A (ws g ad y_j55 s_j55) → va_S A s.heap H locs → ∀ ls, lv_has ls 6 [(0, .ref (ad a0)), (1, .int x1j55), (2, .int x2j55), (3, .int x3j55), (4, .int x4j55), (5, .int x5j55)] → W p l e (ra_Mo_takesLine mc ms) s m args below meth c H locs d_j55 e_j55 Q (F0 m 55 ls []) := by
              intro y_j55 s_j55 d_j55 e_j55 x1j55 x2j55 x3j55 x4j55 x5j55 H locs h hP hD hS ls hl
              unfold wja_Mo_takesLine_55 at h
              obtain ⟨hd, h⟩ := h
              refine lv_aload_n G.1 G.2.1 d_Mo_takesLine_55 rfl (lv_at hl 0 rfl) ?_
              refine lv_aload_n G.1 G.2.1 d_Mo_takesLine_56 rfl (lv_at hl 0 rfl) ?_
              refine ugf (v := .ref (yP y_j55 a0 84)) G hP h_a0 iMo rfl 84 (by decide) rfl q3148 rfl rfl d_Mo_takesLine_57 ?_
              refine lv_iload G.1 G.2.1 d_Mo_takesLine_60 (lv_at hl 4 rfl) ?_
              refine lv_iload G.1 G.2.1 d_Mo_takesLine_62 (lv_at hl 5 rfl) ?_
              obtain ⟨mc_17, ms_18, hr_19, h⟩ := h
              refine uaVi (As := [.ref (yP y_j55 a0 84), .int x4j55, .int x5j55]) (rest := []) G hP hD hS (ca_Mo_cutLine l D g ad mc_17 ms_18 y_j55 _ s_j55 a0 a0 84 x4j55 x5j55 H.size (us H) h_a0 ⟨(kdp h_a0 rfl), (typ h_a0 rfl)⟩ h) w9_Mo_cutLine q3494 ⟨Nat.le_of_ble_eq_true rfl, Nat.le_of_ble_eq_true rfl⟩ rfl rfl h_a0 (q := (RMo, TMo, 131)) rfl rfl hl.1 rfl (Nat.le_of_ble_eq_true rfl) rfl hr_19 d_Mo_takesLine_64 (fun r_12 y_14 s_13 d_15 e_16 H locs h hP hD hS => ?_)
              have hl := lv_sub (l' := [(0, .ref (ad a0)), (1, .int x1j55), (2, .int x2j55), (3, .int x3j55), (5, .int x5j55)]) hl [0, 1, 2, 3, 5] rfl
              obtain ⟨hd, h⟩ := h
              have J_95 : ∀ (y_j95 : Ly) (s_j95 : St) (d_j95 e_j95 : Nat) (x1j95 : Int32) (x2j95 : Int32) (x3j95 : Int32) (x5j95 : Int32) (H : Heap) (locs : List Loc), wja_Mo_takesLine_95 mc ms Post K_21 a0 y_j95 s_j95 d_j95 e_j95 x1j95 x2j95 x3j95 x5j95 → va_P D CL (ws g ad y_j95 s_j95) H → va_D A (ws g ad y_j95 s_j95) → va_S A s.heap H locs → ∀ ls, lv_has ls 6 [(0, .ref (ad a0)), (1, .int x1j95), (2, .int x2j95), (3, .int x3j95), (5, .int x5j95)] → W p l e (ra_Mo_takesLine mc ms) s m args below meth c H locs d_j95 e_j95 Q (F0 m 95 ls []) := by
                intro y_j95 s_j95 d_j95 e_j95 x1j95 x2j95 x3j95 x5j95 H locs h hP hD hS ls hl
                unfold wja_Mo_takesLine_95 at h
                obtain ⟨hd, h⟩ := h
                refine lv_iload G.1 G.2.1 d_Mo_takesLine_95 (lv_at hl 4 rfl) ?_
                refine lv_iconst (v := 1) G.1 G.2.1 d_Mo_takesLine_97 (by decide) ?_
                refine lv_iadd G.1 G.2.1 d_Mo_takesLine_98 ?_
                refine lv_istore (lv' := [(4, .int (x5j95 + 1)), (0, .ref (ad a0)), (1, .int x1j95), (2, .int x2j95), (3, .int x3j95), (5, .int x5j95)]) G.1 G.2.1 d_Mo_takesLine_99 hl (by decide) rfl (fun ls hl => ?_)
                refine lv_goto (tgt := 21) G.1 G.2.1 d_Mo_takesLine_101 (by decide) ?_
                have h := hK_21 y_j95 s_j95 d_j95 e_j95 x1j95 x2j95 x3j95 (x5j95 + 1) h
                exact ih_21 y_j95 s_j95 d_j95 e_j95 x1j95 x2j95 x3j95 (x5j95 + 1) (Nat.lt_of_lt_of_le h.2 (Nat.le_of_lt_succ hμ_21)) h.1 H locs hP hD hS ls (lv_sub hl [1, 2, 3, 4, 0] rfl)
              refine lv_if_eq (tgt := 95) G.1 G.2.1 d_Mo_takesLine_67 (by decide) (fun c67 => ?_) (fun c67 => ?_)
              · skip
                have h := h.1 c67
                exact J_95 y_14 s_13 (d_j55 + d_15) (e_j55 + e_16) x1j55 x2j55 x3j55 x5j55 H locs h hP hD hS ls (lv_sub hl [0, 1, 2, 3, 4] rfl)
              · skip
                have h := h.2 c67
                refine lv_iload_n G.1 G.2.1 d_Mo_takesLine_70 rfl (lv_at hl 3 rfl) ?_
                have J_78 : ∀ (y_j78 : Ly) (s_j78 : St) (d_j78 e_j78 : Nat) (x1j78 : Int32) (x2j78 : Int32) (x5j78 : Int32) (H : Heap) (locs : List Loc), wja_Mo_takesLine_78 mc ms Post K_21 a0 y_j78 s_j78 d_j78 e_j78 x1j78 x2j78 x5j78 → va_P D CL (ws g ad y_j78 s_j78) H → va_D A (ws g ad y_j78 s_j78) → va_S A s.heap H locs → ∀ ls, lv_has ls 6 [(0, .ref (ad a0)), (1, .int x1j78), (2, .int x2j78), (5, .int x5j78)] → W p l e (ra_Mo_takesLine mc ms) s m args below meth c H locs d_j78 e_j78 Q (F0 m 78 ls []) := by
                  intro y_j78 s_j78 d_j78 e_j78 x1j78 x2j78 x5j78 H locs h hP hD hS ls hl
                  unfold wja_Mo_takesLine_78 at h
                  obtain ⟨hd, h⟩ := h
                  refine lv_iconst (v := 1) G.1 G.2.1 d_Mo_takesLine_78 (by decide) ?_
                  refine lv_istore_n (lv' := [(3, .int 1), (0, .ref (ad a0)), (1, .int x1j78), (2, .int x2j78), (5, .int x5j78)]) G.1 G.2.1 d_Mo_takesLine_79 rfl hl (by decide) rfl (fun ls hl => ?_)
                  refine lv_iload_n G.1 G.2.1 d_Mo_takesLine_80 rfl (lv_at hl 2 rfl) ?_
                  refine lv_if_ne (tgt := 91) G.1 G.2.1 d_Mo_takesLine_81 (by decide) (fun c81 => ?_) (fun c81 => ?_)
                  · skip
                    have h := h.1 c81
                    refine lv_aload_n G.1 G.2.1 d_Mo_takesLine_91 rfl (lv_at hl 1 rfl) ?_
                    obtain ⟨mc_25, ms_26, hr_27, h⟩ := h
                    refine uxVv (As := []) (rest := []) G hP hD hS (cx_Mo_methodWords l D g ad mc_25 ms_26 y_j78 _ _ s_j78 a0 H.size (us H) h_a0 h) (fun _ h => absurd h List.not_mem_nil) w9_Mo_methodWords q3806 ⟨Nat.le_of_ble_eq_true rfl, Nat.le_of_ble_eq_true rfl⟩ rfl rfl h_a0 (q := (RMo, TMo, 131)) rfl rfl hl.1 rfl (Nat.le_of_ble_eq_true rfl) rfl hr_27 d_Mo_takesLine_92 (fun y_22 s_21 d_23 e_24 H locs q9 ce h hP hD hS hce hcv hcl => ?_) (fun y_22 s_21 d_23 e_24 H locs h hP hD hS => ?_)
                    · skip
                      refine vx_catch (own := "ClassWorksModel") (name := "java/lang/IllegalStateException") (E := "java/lang/IllegalStateException") G.2.2.2.2.2.2.1 [] ⟨18, 114, 117, 267⟩ [] htab (fun z hz => absurd hz List.not_mem_nil) (by decide) (by decide) (G.2.2.2.2.2.1 _ q2633) (G.2.2.2.2.2.2.2.2.2.1.use (w := Cond.castable "java/lang/IllegalStateException" "java/lang/IllegalStateException") (lw_nestmem (List.mem_of_getElem? (i := 2635) (by decide +kernel)) rfl) rfl) hce hcv hcl ?_
                      refine W.eq (g2 := F0 m 117 ls [.ref q9]) rfl ?_
                      have h := h q9
                      exact J_117 y_22 s_21 (d_j78 + d_23) (e_j78 + e_24) q9 H locs h hP hD hS ls (lv_sub hl [1] rfl)
                    obtain ⟨hd, h⟩ := h
                    exact J_95 y_22 s_21 (d_j78 + d_23) (e_j78 + e_24) x1j78 x2j78 1 x5j78 H locs h hP hD hS ls (lv_sub hl [1, 2, 3, 0, 4] rfl)
                  · skip
                    have h := h.2 c81
                    refine lv_aload_n G.1 G.2.1 d_Mo_takesLine_84 rfl (lv_at hl 1 rfl) ?_
                    obtain ⟨mc_33, ms_34, hr_35, h⟩ := h
                    refine uxVv (As := []) (rest := []) G hP hD hS (cx_Mo_callWords l D g ad mc_33 ms_34 y_j78 _ _ s_j78 a0 H.size (us H) h_a0 h) (fun _ h => absurd h List.not_mem_nil) w9_Mo_callWords q3802 ⟨Nat.le_of_ble_eq_true rfl, Nat.le_of_ble_eq_true rfl⟩ rfl rfl h_a0 (q := (RMo, TMo, 131)) rfl rfl hl.1 rfl (Nat.le_of_ble_eq_true rfl) rfl hr_35 d_Mo_takesLine_85 (fun y_30 s_29 d_31 e_32 H locs q9 ce h hP hD hS hce hcv hcl => ?_) (fun y_30 s_29 d_31 e_32 H locs h hP hD hS => ?_)
                    · skip
                      refine vx_catch (own := "ClassWorksModel") (name := "java/lang/IllegalStateException") (E := "java/lang/IllegalStateException") G.2.2.2.2.2.2.1 [] ⟨18, 114, 117, 267⟩ [] htab (fun z hz => absurd hz List.not_mem_nil) (by decide) (by decide) (G.2.2.2.2.2.1 _ q2633) (G.2.2.2.2.2.2.2.2.2.1.use (w := Cond.castable "java/lang/IllegalStateException" "java/lang/IllegalStateException") (lw_nestmem (List.mem_of_getElem? (i := 2635) (by decide +kernel)) rfl) rfl) hce hcv hcl ?_
                      refine W.eq (g2 := F0 m 117 ls [.ref q9]) rfl ?_
                      have h := h q9
                      exact J_117 y_30 s_29 (d_j78 + d_31) (e_j78 + e_32) q9 H locs h hP hD hS ls (lv_sub hl [1] rfl)
                    obtain ⟨hd, h⟩ := h
                    refine lv_goto (tgt := 95) G.1 G.2.1 d_Mo_takesLine_88 (by decide) ?_
                    exact J_95 y_30 s_29 (d_j78 + d_31) (e_j78 + e_32) x1j78 x2j78 1 x5j78 H locs h hP hD hS ls (lv_sub hl [1, 2, 3, 0, 4] rfl)
                refine lv_if_eq (tgt := 78) G.1 G.2.1 d_Mo_takesLine_71 (by decide) (fun c71 => ?_) (fun c71 => ?_)
                · skip
                  have h := h.1 c71
                  exact J_78 y_14 s_13 (d_j55 + d_15) (e_j55 + e_16) x1j55 x2j55 x5j55 H locs h hP hD hS ls (lv_sub hl [0, 1, 2, 4] rfl)
                · skip
                  have h := h.2 c71
                  refine lv_aload_n G.1 G.2.1 d_Mo_takesLine_74 rfl (lv_at hl 0 rfl) ?_
                  obtain ⟨mc_41, ms_42, hr_43, h⟩ := h
                  refine uxVv (As := []) (rest := []) G hP hD hS (cx_Mo_wrong l D g ad mc_41 ms_42 y_14 _ _ s_13 a0 H.size (us H) h_a0 h) (fun _ h => absurd h List.not_mem_nil) w9_Mo_wrong q3551 ⟨Nat.le_of_ble_eq_true rfl, Nat.le_of_ble_eq_true rfl⟩ rfl rfl h_a0 (q := (RMo, TMo, 131)) rfl rfl hl.1 rfl (Nat.le_of_ble_eq_true rfl) rfl hr_43 d_Mo_takesLine_75 (fun y_38 s_37 d_39 e_40 H locs q9 ce h hP hD hS hce hcv hcl => ?_) (fun y_38 s_37 d_39 e_40 H locs h hP hD hS => ?_)
                  · skip
                    refine vx_catch (own := "ClassWorksModel") (name := "java/lang/IllegalStateException") (E := "java/lang/IllegalStateException") G.2.2.2.2.2.2.1 [] ⟨18, 114, 117, 267⟩ [] htab (fun z hz => absurd hz List.not_mem_nil) (by decide) (by decide) (G.2.2.2.2.2.1 _ q2633) (G.2.2.2.2.2.2.2.2.2.1.use (w := Cond.castable "java/lang/IllegalStateException" "java/lang/IllegalStateException") (lw_nestmem (List.mem_of_getElem? (i := 2635) (by decide +kernel)) rfl) rfl) hce hcv hcl ?_
                    refine W.eq (g2 := F0 m 117 ls [.ref q9]) rfl ?_
                    have h := h q9
                    exact J_117 y_38 s_37 (d_j55 + d_15 + d_39) (e_j55 + e_16 + e_40) q9 H locs h hP hD hS ls (lv_sub hl [0] rfl)
                  have hl := lv_sub (l' := [(0, .ref (ad a0)), (1, .int x1j55), (2, .int x2j55), (5, .int x5j55)]) hl [0, 1, 2, 4] rfl
                  obtain ⟨hd, h⟩ := h
                  exact J_78 y_38 s_37 (d_j55 + d_15 + d_39) (e_j55 + e_16 + e_40) x1j55 x2j55 x5j55 H locs h hP hD hS ls (lv_sub hl [0, 1, 2, 3] rfl)
            refine lv_icmp_ge (tgt := 55) G.1 G.2.1 d_Mo_takesLine_34 (by decide) (fun c34 => ?_) (fun c34 => ?_)
            · skip
              have h := h.1 c34
              exact J_55 y_h31 s_h31 d_h31 e_h31 x1h31 x2h31 x3h31 x4h31 x5h31 H locs h hP hD hS ls (lv_sub hl [0, 1, 2, 3, 4, 5] rfl)
            · skip
              have h := h.2 c34
              refine lv_aload_n G.1 G.2.1 d_Mo_takesLine_37 rfl (lv_at hl 0 rfl) ?_
              refine ugf (v := .ref (yP y_h31 a0 84)) G hP h_a0 iMo rfl 84 (by decide) rfl q3148 rfl rfl d_Mo_takesLine_38 ?_
              refine lv_iload G.1 G.2.1 d_Mo_takesLine_41 (lv_at hl 5 rfl) ?_
              refine ubald G hP (kdp h_a0 rfl) (typ h_a0 rfl) h d_Mo_takesLine_43 (fun x_44 h => ?_)
              refine lv_bipush (v := 10) G.1 G.2.1 d_Mo_takesLine_44 (by decide) ?_
              refine lv_icmp_eq (tgt := 55) G.1 G.2.1 d_Mo_takesLine_46 (by decide) (fun c46 => ?_) (fun c46 => ?_)
              · skip
                have h := h.1 c46
                exact J_55 y_h31 s_h31 d_h31 e_h31 x1h31 x2h31 x3h31 x4h31 x5h31 H locs h hP hD hS ls (lv_sub hl [0, 1, 2, 3, 4, 5] rfl)
              · skip
                have h := h.2 c46
                refine lv_iinc (v := x5h31 + 1) (lv' := [(5, .int (x5h31 + 1)), (0, .ref (ad a0)), (1, .int x1h31), (2, .int x2h31), (3, .int x3h31), (4, .int x4h31)]) G.1 G.2.1 d_Mo_takesLine_49 hl (k := 5) rfl rfl (by decide) rfl (fun ls hl => ?_)
                refine lv_goto (tgt := 31) G.1 G.2.1 d_Mo_takesLine_52 (by decide) ?_
                have h := hK_31 y_h31 s_h31 d_h31 e_h31 x1h31 x2h31 x3h31 x4h31 (x5h31 + 1) h
                exact ih_31 y_h31 s_h31 d_h31 e_h31 x1h31 x2h31 x3h31 x4h31 (x5h31 + 1) (Nat.lt_of_lt_of_le h.2 (Nat.le_of_lt_succ hμ_31)) h.1 H locs hP hD hS ls (lv_sub hl [1, 2, 3, 4, 5, 0] rfl)
        exact L_31 _ y_h21 s_h21 d_h21 e_h21 x1h21 x2h21 x3h21 x4h21 x4h21 (Nat.lt_succ_self _) hI_31 H locs hP hD hS ls (lv_sub hl [1, 2, 3, 4, 5, 0] rfl)
  exact L_21 _ y s_2 0 0 v1 (sV σ a0 85) 0 0 (Nat.lt_succ_self _) hI_21 H locs hP hD hS ls (lv_sub hl [3, 4, 2, 1, 0] rfl)
theorem q3798 : Cond.methodLink "ClassWorksModel" 1156 y_Mo_takesLine ∈ lw_ok := lw_okmem (List.mem_of_getElem? (i := 3798) (by decide +kernel)) rfl
theorem q3801 : Cond.codeWith y_Mo_takesLine b_Mo_takesLine 6 (some (.boolean)) hh_Mo_takesLine ∈ lw_ok := lw_okmem (List.mem_of_getElem? (i := 3801) (by decide +kernel)) rfl
theorem q3800 : Cond.instanceMethod y_Mo_takesLine ∈ lw_ok := lw_okmem (List.mem_of_getElem? (i := 3800) (by decide +kernel)) rfl
theorem q242 : Cond.selects y_Mo_takesLine.cls y_Mo_takesLine y_Mo_takesLine ∈ lw_ok := lw_okmem (List.mem_of_getElem? (i := 242) (by decide +kernel)) rfl
theorem w9_Mo_takesLine : (Cond.codeWith y_Mo_takesLine b_Mo_takesLine 6 (some (.boolean)) hh_Mo_takesLine ∈ lw_ok ∧ Cond.initialized y_Mo_takesLine.cls ∈ lw_ok ∧ y_Mo_takesLine.cls ≠ "java/lang/invoke/MethodHandle" ∧ y_Mo_takesLine.cls ≠ "java/lang/invoke/VarHandle" ∧ (parseMethodDescriptor y_Mo_takesLine.desc).map (fun d => d.parameters.length) = some 1) ∧ Cond.instanceMethod y_Mo_takesLine ∈ lw_ok ∧ Cond.selects y_Mo_takesLine.cls y_Mo_takesLine y_Mo_takesLine ∈ lw_ok := ⟨⟨q3801, q348, by decide +kernel, by decide +kernel, by decide +kernel⟩, q3800, q242⟩
theorem q3810 : Cond.methodLink "ClassWorksModel" 1159 y_Mo_beginRun ∈ lw_ok := lw_okmem (List.mem_of_getElem? (i := 3810) (by decide +kernel)) rfl
theorem q3813 : Cond.code y_Mo_beginRun b_Mo_beginRun 3 (none) ∈ lw_ok := lw_okmem (List.mem_of_getElem? (i := 3813) (by decide +kernel)) rfl
theorem q3812 : Cond.instanceMethod y_Mo_beginRun ∈ lw_ok := lw_okmem (List.mem_of_getElem? (i := 3812) (by decide +kernel)) rfl
theorem q245 : Cond.selects y_Mo_beginRun.cls y_Mo_beginRun y_Mo_beginRun ∈ lw_ok := lw_okmem (List.mem_of_getElem? (i := 245) (by decide +kernel)) rfl
theorem w9_Mo_beginRun : CWv y_Mo_beginRun b_Mo_beginRun 3 (none) 1 ∧ Cond.instanceMethod y_Mo_beginRun ∈ lw_ok ∧ Cond.selects y_Mo_beginRun.cls y_Mo_beginRun y_Mo_beginRun ∈ lw_ok := ⟨⟨q3813, q348, by decide +kernel, by decide +kernel, by decide +kernel⟩, q3812, q245⟩
def y_Mo_call : MethodName := ⟨"ClassWorksModel", "call", "(II)I"⟩
abbrev b_Mo_call : ByteArray := prog_14_method_144_code
theorem d_Mo_call_0 : decode b_Mo_call 0 = .ok (.aload_n 0, 1) := by decide +kernel
theorem d_Mo_call_1 : decode b_Mo_call 1 = .ok (.iload_n 1, 1) := by decide +kernel
theorem d_Mo_call_2 : decode b_Mo_call 2 = .ok (.invokevirtual 1118, 3) := by decide +kernel
theorem d_Mo_call_5 : decode b_Mo_call 5 = .ok (.ifCond .eq 10, 3) := by decide +kernel
theorem d_Mo_call_8 : decode b_Mo_call 8 = .ok (.iload_n 2, 1) := by decide +kernel
theorem d_Mo_call_9 : decode b_Mo_call 9 = .ok (.invokestatic 1153, 3) := by decide +kernel
theorem d_Mo_call_12 : decode b_Mo_call 12 = .ok (.ifCond .ne 5, 3) := by decide +kernel
theorem d_Mo_call_15 : decode b_Mo_call 15 = .ok (.iconst (-1), 1) := by decide +kernel
theorem d_Mo_call_16 : decode b_Mo_call 16 = .ok (.ireturn, 1) := by decide +kernel
theorem d_Mo_call_17 : decode b_Mo_call 17 = .ok (.aload_n 0, 1) := by decide +kernel
theorem d_Mo_call_18 : decode b_Mo_call 18 = .ok (.getfield 263, 3) := by decide +kernel
theorem d_Mo_call_21 : decode b_Mo_call 21 = .ok (.iload_n 1, 1) := by decide +kernel
theorem d_Mo_call_22 : decode b_Mo_call 22 = .ok (.aaload, 1) := by decide +kernel
theorem d_Mo_call_23 : decode b_Mo_call 23 = .ok (.getfield 406, 3) := by decide +kernel
theorem d_Mo_call_26 : decode b_Mo_call 26 = .ok (.iload_n 2, 1) := by decide +kernel
theorem d_Mo_call_27 : decode b_Mo_call 27 = .ok (.aaload, 1) := by decide +kernel
theorem d_Mo_call_28 : decode b_Mo_call 28 = .ok (.getfield 486, 3) := by decide +kernel
theorem d_Mo_call_31 : decode b_Mo_call 31 = .ok (.iconst 1, 1) := by decide +kernel
theorem d_Mo_call_32 : decode b_Mo_call 32 = .ok (.if_icmp .ne 6, 3) := by decide +kernel
theorem d_Mo_call_35 : decode b_Mo_call 35 = .ok (.bipush (-2), 2) := by decide +kernel
theorem d_Mo_call_37 : decode b_Mo_call 37 = .ok (.ireturn, 1) := by decide +kernel
theorem d_Mo_call_38 : decode b_Mo_call 38 = .ok (.aload_n 0, 1) := by decide +kernel
theorem d_Mo_call_39 : decode b_Mo_call 39 = .ok (.iconst 0, 1) := by decide +kernel
theorem d_Mo_call_40 : decode b_Mo_call 40 = .ok (.invokevirtual 1156, 3) := by decide +kernel
theorem d_Mo_call_43 : decode b_Mo_call 43 = .ok (.ifCond .ne 22, 3) := by decide +kernel
theorem d_Mo_call_46 : decode b_Mo_call 46 = .ok (.aload_n 0, 1) := by decide +kernel
theorem d_Mo_call_47 : decode b_Mo_call 47 = .ok (.getfield 263, 3) := by decide +kernel
theorem d_Mo_call_50 : decode b_Mo_call 50 = .ok (.iload_n 1, 1) := by decide +kernel
theorem d_Mo_call_51 : decode b_Mo_call 51 = .ok (.aaload, 1) := by decide +kernel
theorem d_Mo_call_52 : decode b_Mo_call 52 = .ok (.getfield 406, 3) := by decide +kernel
theorem d_Mo_call_55 : decode b_Mo_call 55 = .ok (.iload_n 2, 1) := by decide +kernel
theorem d_Mo_call_56 : decode b_Mo_call 56 = .ok (.aaload, 1) := by decide +kernel
theorem d_Mo_call_57 : decode b_Mo_call 57 = .ok (.bipush (-2), 2) := by decide +kernel
theorem d_Mo_call_59 : decode b_Mo_call 59 = .ok (.putfield 486, 3) := by decide +kernel
theorem d_Mo_call_62 : decode b_Mo_call 62 = .ok (.bipush (-11), 2) := by decide +kernel
theorem d_Mo_call_64 : decode b_Mo_call 64 = .ok (.ireturn, 1) := by decide +kernel
theorem d_Mo_call_65 : decode b_Mo_call 65 = .ok (.aload_n 0, 1) := by decide +kernel
theorem d_Mo_call_66 : decode b_Mo_call 66 = .ok (.aload_n 0, 1) := by decide +kernel
theorem d_Mo_call_67 : decode b_Mo_call 67 = .ok (.getfield 263, 3) := by decide +kernel
theorem d_Mo_call_70 : decode b_Mo_call 70 = .ok (.iload_n 1, 1) := by decide +kernel
theorem d_Mo_call_71 : decode b_Mo_call 71 = .ok (.aaload, 1) := by decide +kernel
theorem d_Mo_call_72 : decode b_Mo_call 72 = .ok (.getfield 406, 3) := by decide +kernel
theorem d_Mo_call_75 : decode b_Mo_call 75 = .ok (.iload_n 2, 1) := by decide +kernel
theorem d_Mo_call_76 : decode b_Mo_call 76 = .ok (.aaload, 1) := by decide +kernel
theorem d_Mo_call_77 : decode b_Mo_call 77 = .ok (.invokevirtual 1159, 3) := by decide +kernel
theorem d_Mo_call_80 : decode b_Mo_call 80 = .ok (.iconst 0, 1) := by decide +kernel
theorem d_Mo_call_81 : decode b_Mo_call 81 = .ok (.ireturn, 1) := by decide +kernel
abbrev ra_Mo_call (mc ms : Nat) : Room := { frames := 8, cells := mc, slots := ms, locals := 228 }
def wja_Mo_call_15 (mc ms : Nat) (Post : Ly → St → Int32 → Nat → Nat → Prop) (a0 : Nat) (y_j15 : Ly) (s_j15 : St) (d_j15 e_j15 : Nat) : Prop := (d_j15 ≤ mc ∧ e_j15 ≤ ms) ∧ Post y_j15 s_j15 (-1) d_j15 e_j15
def wa_Mo_call (mc ms : Nat) (y : Ly) (Post : Ly → St → Int32 → Nat → Nat → Prop) (σ : St) (a0 : Nat) (v1 : Int32) (v2 : Int32) : Prop := wu_Mo_isWorld y (fun (s_2 : St) (r_1 : Int32) => ((r_1 = 0 → wja_Mo_call_15 mc ms Post a0 y s_2 0 0) ∧ (¬ (r_1 = 0) → wu_Mo_isThread y (fun (s_4 : St) (r_3 : Int32) => ((¬ r_3 = 0 → xQ y a0 44 v1 (fun b_5 : Nat => xQ y b_5 62 v2 (fun b_7 : Nat => ((¬ (sV s_4 b_7 0) = 1 → ∃ mc_14 ms_15 : Nat, (0 + mc_14 ≤ mc ∧ 0 + ms_15 ≤ ms) ∧ wa_Mo_takesLine mc_14 ms_15 y (fun (y_11 : Ly) (s_10 : St) (r_9 : Int32) (d_12 e_13 : Nat) => (0 + d_12 ≤ mc ∧ 0 + e_13 ≤ ms) ∧ ((¬ r_9 = 0 → xQ y_11 a0 44 v1 (fun b_17 : Nat => xQ y_11 b_17 62 v2 (fun b_19 : Nat => wu_Mo_beginRun y_11 (fun (s_22 : St) => Post y_11 s_22 0 (0 + d_12) (0 + e_13)) s_10 a0 b_19))) ∧ (r_9 = 0 → xQ y_11 a0 44 v1 (fun b_23 : Nat => xQ y_11 b_23 62 v2 (fun b_25 : Nat => xP (uV s_10 b_25 0 (-2)) (fun s_27 : St => Post y_11 s_27 (-11) (0 + d_12) (0 + e_13))))))) s_4 a0 0) ∧ ((sV s_4 b_7 0) = 1 → Post y s_4 (-2) 0 0))))) ∧ (r_3 = 0 → wja_Mo_call_15 mc ms Post a0 y s_4 0 0))) s_2 v2))) σ a0 v1
set_option maxHeartbeats 4000000 in
set_option maxRecDepth 100000 in
theorem ca_Mo_call (l : Launch) (D : va_G) (g : Nat → ClassId) (ad : Nat → Nat) (mc ms : Nat) (y : Ly) (Post : Ly → St → Int32 → Nat → Nat → Prop) (σ : St) (a0 : Nat) (v1 : Int32) (v2 : Int32) (sz uz : Nat) (h_a0 : cl a0 = 14) (h : wa_Mo_call mc ms y Post σ a0 v1 v2) : Met l y_Mo_call (mw y_Mo_call b_Mo_call 3 (some .int)) (ra_Mo_call mc ms) (PCu g D [] [.ref (ad a0), .int v1, .int v2] sz uz (ws g ad y σ)) (va_Qi (fun (r : Int32) (u : Ly × St × Nat × Nat) => Post u.1 u.2.1 r u.2.2.1 u.2.2.2) (QU D (va_A (ws g ad y σ) sz) (fun u => ws g ad u.1 u.2.1) sz uz (fun u => u.2.2.1) (fun u => u.2.2.2)) (va_A (ws g ad y σ) sz)) mc ms (va_A (ws g ad y σ) sz) := by
  refine ofIu (by decide +kernel) (Nat.le_of_ble_eq_true rfl) ?_
  intro p e s m args below meth c A Q ls H locs G hsz hP hD hS hl hret
  subst hsz
  have hl : lv_has ls 3 [(0, .ref (ad a0)), (1, .int v1), (2, .int v2)] := hl
  have hd : 0 ≤ mc ∧ 0 ≤ ms := ⟨Nat.zero_le _, Nat.zero_le _⟩
  unfold wa_Mo_call at h
  refine lv_aload_n G.1 G.2.1 d_Mo_call_0 rfl (lv_at hl 0 rfl) ?_
  refine lv_iload_n G.1 G.2.1 d_Mo_call_1 rfl (lv_at hl 1 rfl) ?_
  refine ucVi (As := [.int v1]) (rest := []) G hP hD hS (cu_Mo_isWorld l D g ad y _ σ a0 v1 H.size h_a0 h) w9_Mo_isWorld q3482 ⟨Nat.le_of_ble_eq_true rfl, Nat.le_of_ble_eq_true rfl⟩ rfl rfl h_a0 (q := (RMo, TMo, 131)) rfl rfl hl.1 rfl (Nat.le_of_ble_eq_true rfl) rfl hd d_Mo_call_2 (fun r_1 s_2 H locs h hP hD hS => ?_)
  have J_15 : ∀ (y_j15 : Ly) (s_j15 : St) (d_j15 e_j15 : Nat) (H : Heap) (locs : List Loc), wja_Mo_call_15 mc ms Post a0 y_j15 s_j15 d_j15 e_j15 → va_P D CL (ws g ad y_j15 s_j15) H → va_D A (ws g ad y_j15 s_j15) → va_S A s.heap H locs → ∀ ls, lv_has ls 3 [] → W p l e (ra_Mo_call mc ms) s m args below meth c H locs d_j15 e_j15 Q (F0 m 15 ls []) := by
    intro y_j15 s_j15 d_j15 e_j15 H locs h hP hD hS ls hl
    unfold wja_Mo_call_15 at h
    obtain ⟨hd, h⟩ := h
    refine lv_iconst (v := (-1)) G.1 G.2.1 d_Mo_call_15 (by decide) ?_
    exact hret _ (y_j15, s_j15, d_j15, e_j15) _ _ _ _ _ ls h hP hD hS (Nat.le_refl _) (Nat.le_refl _) hd.1 hd.2 d_Mo_call_16
  refine lv_if_eq (tgt := 15) G.1 G.2.1 d_Mo_call_5 (by decide) (fun c5 => ?_) (fun c5 => ?_)
  · skip
    have h := h.1 c5
    exact J_15 y s_2 0 0 H locs h hP hD hS ls (lv_sub hl [] rfl)
  · skip
    have h := h.2 c5
    refine lv_iload_n G.1 G.2.1 d_Mo_call_8 rfl (lv_at hl 2 rfl) ?_
    refine ucSi (As := [.int v2]) (rest := []) G hP hD hS (cu_Mo_isThread l D g ad y _ s_2 v2 H.size  h) w9_Mo_isThread q3795 ⟨Nat.le_of_ble_eq_true rfl, Nat.le_of_ble_eq_true rfl⟩ rfl rfl hl.1 rfl (Nat.le_of_ble_eq_true rfl) rfl hd d_Mo_call_9 (fun r_3 s_4 H locs h hP hD hS => ?_)
    refine lv_if_ne (tgt := 17) G.1 G.2.1 d_Mo_call_12 (by decide) (fun c12 => ?_) (fun c12 => ?_)
    · skip
      have h := h.1 c12
      refine lv_aload_n G.1 G.2.1 d_Mo_call_17 rfl (lv_at hl 0 rfl) ?_
      refine ugf (v := .ref (yP y a0 44)) G hP h_a0 iMo rfl 44 (by decide) rfl q3108 rfl rfl d_Mo_call_18 ?_
      refine lv_iload_n G.1 G.2.1 d_Mo_call_21 rfl (lv_at hl 1 rfl) ?_
      refine uqald G hP (kdp h_a0 rfl) (typ h_a0 rfl) rfl h d_Mo_call_22 (fun b_5 n_6 h => ?_)
      refine W.eq (g2 := F0 m 23 ls [.ref (ad b_5)]) rfl ?_
      refine ugfN (v := .ref (yP y b_5 62)) G hP (oa_14 h_a0 n_6) iMw rfl 62 (by decide) rfl q2820 rfl rfl d_Mo_call_23 ?_
      refine lv_iload_n G.1 G.2.1 d_Mo_call_26 rfl (lv_at hl 2 rfl) ?_
      refine uqald G hP (kdp (oa_14 h_a0 n_6) rfl) (typ (oa_14 h_a0 n_6) rfl) rfl h d_Mo_call_27 (fun b_7 n_8 h => ?_)
      refine ugfN (v := .int (sV s_4 b_7 0)) G hP (oa_13 (oa_14 h_a0 n_6) n_8) iMr rfl 0 (by decide) rfl q2987 rfl rfl d_Mo_call_28 ?_
      refine lv_iconst (v := 1) G.1 G.2.1 d_Mo_call_31 (by decide) ?_
      refine lv_icmp_ne (tgt := 38) G.1 G.2.1 d_Mo_call_32 (by decide) (fun c32 => ?_) (fun c32 => ?_)
      · skip
        have h := h.1 c32
        refine lv_aload_n G.1 G.2.1 d_Mo_call_38 rfl (lv_at hl 0 rfl) ?_
        refine lv_iconst (v := 0) G.1 G.2.1 d_Mo_call_39 (by decide) ?_
        obtain ⟨mc_14, ms_15, hr_16, h⟩ := h
        refine uwVi (As := [.int 0]) (rest := []) G hP hD hS (ca_Mo_takesLine l D g ad mc_14 ms_15 y _ s_4 a0 0 H.size (us H) h_a0 h) (fun _ h => absurd h List.not_mem_nil) w9_Mo_takesLine q3798 ⟨Nat.le_of_ble_eq_true rfl, Nat.le_of_ble_eq_true rfl⟩ rfl rfl h_a0 (q := (RMo, TMo, 131)) rfl rfl hl.1 rfl (Nat.le_of_ble_eq_true rfl) rfl hr_16 d_Mo_call_40 (fun r_9 y_11 s_10 d_12 e_13 H locs h hP hD hS => ?_)
        obtain ⟨hd, h⟩ := h
        refine lv_if_ne (tgt := 65) G.1 G.2.1 d_Mo_call_43 (by decide) (fun c43 => ?_) (fun c43 => ?_)
        · skip
          have h := h.1 c43
          refine lv_aload_n G.1 G.2.1 d_Mo_call_65 rfl (lv_at hl 0 rfl) ?_
          refine lv_aload_n G.1 G.2.1 d_Mo_call_66 rfl (lv_at hl 0 rfl) ?_
          refine W.eq (g2 := F0 m 67 ls [.ref (ad a0), .ref (ad a0)]) rfl ?_
          refine ugf (v := .ref (yP y_11 a0 44)) G hP h_a0 iMo rfl 44 (by decide) rfl q3108 rfl rfl d_Mo_call_67 ?_
          refine lv_iload_n G.1 G.2.1 d_Mo_call_70 rfl (lv_at hl 1 rfl) ?_
          refine uqald G hP (kdp h_a0 rfl) (typ h_a0 rfl) rfl h d_Mo_call_71 (fun b_17 n_18 h => ?_)
          refine ugfN (v := .ref (yP y_11 b_17 62)) G hP (oa_14 h_a0 n_18) iMw rfl 62 (by decide) rfl q2820 rfl rfl d_Mo_call_72 ?_
          refine lv_iload_n G.1 G.2.1 d_Mo_call_75 rfl (lv_at hl 2 rfl) ?_
          refine uqald G hP (kdp (oa_14 h_a0 n_18) rfl) (typ (oa_14 h_a0 n_18) rfl) rfl h d_Mo_call_76 (fun b_19 n_20 h => ?_)
          refine ucVv (As := [.ref (ad b_19)]) (rest := []) G hP hD hS (cu_Mo_beginRun l D g ad y_11 _ s_10 a0 b_19 H.size h_a0 (oa_13 (oa_14 h_a0 n_18) n_20) h) w9_Mo_beginRun q3810 ⟨Nat.le_of_ble_eq_true rfl, Nat.le_of_ble_eq_true rfl⟩ rfl rfl h_a0 (q := (RMo, TMo, 131)) rfl rfl hl.1 rfl (Nat.le_of_ble_eq_true rfl) rfl hd d_Mo_call_77 (fun s_22 H locs h hP hD hS => ?_)
          refine lv_iconst (v := 0) G.1 G.2.1 d_Mo_call_80 (by decide) ?_
          exact hret _ (y_11, s_22, 0 + d_12, 0 + e_13) _ _ _ _ _ ls h hP hD hS (Nat.le_refl _) (Nat.le_refl _) hd.1 hd.2 d_Mo_call_81
        · skip
          have h := h.2 c43
          refine lv_aload_n G.1 G.2.1 d_Mo_call_46 rfl (lv_at hl 0 rfl) ?_
          refine ugf (v := .ref (yP y_11 a0 44)) G hP h_a0 iMo rfl 44 (by decide) rfl q3108 rfl rfl d_Mo_call_47 ?_
          refine W.eq (g2 := F0 m 50 ls [.ref (yP y_11 a0 44)]) rfl ?_
          refine lv_iload_n G.1 G.2.1 d_Mo_call_50 rfl (lv_at hl 1 rfl) ?_
          refine uqald G hP (kdp h_a0 rfl) (typ h_a0 rfl) rfl h d_Mo_call_51 (fun b_23 n_24 h => ?_)
          refine ugfN (v := .ref (yP y_11 b_23 62)) G hP (oa_14 h_a0 n_24) iMw rfl 62 (by decide) rfl q2820 rfl rfl d_Mo_call_52 ?_
          refine lv_iload_n G.1 G.2.1 d_Mo_call_55 rfl (lv_at hl 2 rfl) ?_
          refine uqald G hP (kdp (oa_14 h_a0 n_24) rfl) (typ (oa_14 h_a0 n_24) rfl) rfl h d_Mo_call_56 (fun b_25 n_26 h => ?_)
          refine lv_bipush (v := (-2)) G.1 G.2.1 d_Mo_call_57 (by decide) ?_
          refine upfN G hP hD hS h 0 putV (oa_13 (oa_14 h_a0 n_24) n_26) iMr tMr tMr_ok nMr rfl (by decide) rfl q2987 rfl rfl fV rfl rfl d_Mo_call_59 (fun s_27 H locs h hP hD hS => ?_)
          refine lv_bipush (v := (-11)) G.1 G.2.1 d_Mo_call_62 (by decide) ?_
          exact hret _ (y_11, s_27, 0 + d_12, 0 + e_13) _ _ _ _ _ ls h hP hD hS (Nat.le_refl _) (Nat.le_refl _) hd.1 hd.2 d_Mo_call_64
      · skip
        have h := h.2 c32
        refine lv_bipush (v := (-2)) G.1 G.2.1 d_Mo_call_35 (by decide) ?_
        exact hret _ (y, s_4, 0, 0) _ _ _ _ _ ls h hP hD hS (Nat.le_refl _) (Nat.le_refl _) hd.1 hd.2 d_Mo_call_37
    · skip
      have h := h.2 c12
      exact J_15 y s_4 0 0 H locs h hP hD hS ls (lv_sub hl [] rfl)
def y_Mo_newFault : MethodName := ⟨"ClassWorksModel", "newFault", "(II)I"⟩
abbrev b_Mo_newFault : ByteArray := prog_14_method_88_code
theorem q2806 : Cond.fieldLinkNest "ClassWorksModel" 875 "ClassWorksModel$World" "faultRules" "[I" "ClassWorksModel" ∈ lw_nest := lw_nestmem (List.mem_of_getElem? (i := 2806) (by decide +kernel)) rfl
theorem d_Mo_newFault_0 : decode b_Mo_newFault 0 = .ok (.aload_n 0, 1) := by decide +kernel
theorem d_Mo_newFault_1 : decode b_Mo_newFault 1 = .ok (.getfield 522, 3) := by decide +kernel
theorem d_Mo_newFault_4 : decode b_Mo_newFault 4 = .ok (.getfield 516, 3) := by decide +kernel
theorem d_Mo_newFault_7 : decode b_Mo_newFault 7 = .ok (.istore_n 3, 1) := by decide +kernel
theorem d_Mo_newFault_8 : decode b_Mo_newFault 8 = .ok (.aload_n 0, 1) := by decide +kernel
theorem d_Mo_newFault_9 : decode b_Mo_newFault 9 = .ok (.getfield 522, 3) := by decide +kernel
theorem d_Mo_newFault_12 : decode b_Mo_newFault 12 = .ok (.aload_n 0, 1) := by decide +kernel
theorem d_Mo_newFault_13 : decode b_Mo_newFault 13 = .ok (.getfield 522, 3) := by decide +kernel
theorem d_Mo_newFault_16 : decode b_Mo_newFault 16 = .ok (.getfield 869, 3) := by decide +kernel
theorem d_Mo_newFault_19 : decode b_Mo_newFault 19 = .ok (.iload_n 3, 1) := by decide +kernel
theorem d_Mo_newFault_20 : decode b_Mo_newFault 20 = .ok (.iconst 1, 1) := by decide +kernel
theorem d_Mo_newFault_21 : decode b_Mo_newFault 21 = .ok (.iadd, 1) := by decide +kernel
theorem d_Mo_newFault_22 : decode b_Mo_newFault 22 = .ok (.invokestatic 43, 3) := by decide +kernel
theorem d_Mo_newFault_25 : decode b_Mo_newFault 25 = .ok (.putfield 869, 3) := by decide +kernel
theorem d_Mo_newFault_28 : decode b_Mo_newFault 28 = .ok (.aload_n 0, 1) := by decide +kernel
theorem d_Mo_newFault_29 : decode b_Mo_newFault 29 = .ok (.getfield 522, 3) := by decide +kernel
theorem d_Mo_newFault_32 : decode b_Mo_newFault 32 = .ok (.aload_n 0, 1) := by decide +kernel
theorem d_Mo_newFault_33 : decode b_Mo_newFault 33 = .ok (.getfield 522, 3) := by decide +kernel
theorem d_Mo_newFault_36 : decode b_Mo_newFault 36 = .ok (.getfield 875, 3) := by decide +kernel
theorem d_Mo_newFault_39 : decode b_Mo_newFault 39 = .ok (.iload_n 3, 1) := by decide +kernel
theorem d_Mo_newFault_40 : decode b_Mo_newFault 40 = .ok (.iconst 1, 1) := by decide +kernel
theorem d_Mo_newFault_41 : decode b_Mo_newFault 41 = .ok (.iadd, 1) := by decide +kernel
theorem d_Mo_newFault_42 : decode b_Mo_newFault 42 = .ok (.invokestatic 43, 3) := by decide +kernel
theorem d_Mo_newFault_45 : decode b_Mo_newFault 45 = .ok (.putfield 875, 3) := by decide +kernel
theorem d_Mo_newFault_48 : decode b_Mo_newFault 48 = .ok (.aload_n 0, 1) := by decide +kernel
theorem d_Mo_newFault_49 : decode b_Mo_newFault 49 = .ok (.getfield 522, 3) := by decide +kernel
theorem d_Mo_newFault_52 : decode b_Mo_newFault 52 = .ok (.aload_n 0, 1) := by decide +kernel
theorem d_Mo_newFault_53 : decode b_Mo_newFault 53 = .ok (.getfield 522, 3) := by decide +kernel
theorem d_Mo_newFault_56 : decode b_Mo_newFault 56 = .ok (.getfield 878, 3) := by decide +kernel
theorem d_Mo_newFault_59 : decode b_Mo_newFault 59 = .ok (.iload_n 3, 1) := by decide +kernel
theorem d_Mo_newFault_60 : decode b_Mo_newFault 60 = .ok (.iconst 1, 1) := by decide +kernel
theorem d_Mo_newFault_61 : decode b_Mo_newFault 61 = .ok (.iadd, 1) := by decide +kernel
theorem d_Mo_newFault_62 : decode b_Mo_newFault 62 = .ok (.invokestatic 43, 3) := by decide +kernel
theorem d_Mo_newFault_65 : decode b_Mo_newFault 65 = .ok (.putfield 878, 3) := by decide +kernel
theorem d_Mo_newFault_68 : decode b_Mo_newFault 68 = .ok (.aload_n 0, 1) := by decide +kernel
theorem d_Mo_newFault_69 : decode b_Mo_newFault 69 = .ok (.getfield 522, 3) := by decide +kernel
theorem d_Mo_newFault_72 : decode b_Mo_newFault 72 = .ok (.getfield 869, 3) := by decide +kernel
theorem d_Mo_newFault_75 : decode b_Mo_newFault 75 = .ok (.iload_n 3, 1) := by decide +kernel
theorem d_Mo_newFault_76 : decode b_Mo_newFault 76 = .ok (.iload_n 1, 1) := by decide +kernel
theorem d_Mo_newFault_77 : decode b_Mo_newFault 77 = .ok (.iastore, 1) := by decide +kernel
theorem d_Mo_newFault_78 : decode b_Mo_newFault 78 = .ok (.aload_n 0, 1) := by decide +kernel
theorem d_Mo_newFault_79 : decode b_Mo_newFault 79 = .ok (.getfield 522, 3) := by decide +kernel
theorem d_Mo_newFault_82 : decode b_Mo_newFault 82 = .ok (.getfield 875, 3) := by decide +kernel
theorem d_Mo_newFault_85 : decode b_Mo_newFault 85 = .ok (.iload_n 3, 1) := by decide +kernel
theorem d_Mo_newFault_86 : decode b_Mo_newFault 86 = .ok (.iload_n 2, 1) := by decide +kernel
theorem d_Mo_newFault_87 : decode b_Mo_newFault 87 = .ok (.iastore, 1) := by decide +kernel
theorem d_Mo_newFault_88 : decode b_Mo_newFault 88 = .ok (.aload_n 0, 1) := by decide +kernel
theorem d_Mo_newFault_89 : decode b_Mo_newFault 89 = .ok (.getfield 522, 3) := by decide +kernel
theorem d_Mo_newFault_92 : decode b_Mo_newFault 92 = .ok (.getfield 878, 3) := by decide +kernel
theorem d_Mo_newFault_95 : decode b_Mo_newFault 95 = .ok (.iload_n 3, 1) := by decide +kernel
theorem d_Mo_newFault_96 : decode b_Mo_newFault 96 = .ok (.iconst 0, 1) := by decide +kernel
theorem d_Mo_newFault_97 : decode b_Mo_newFault 97 = .ok (.iastore, 1) := by decide +kernel
theorem d_Mo_newFault_98 : decode b_Mo_newFault 98 = .ok (.aload_n 0, 1) := by decide +kernel
theorem d_Mo_newFault_99 : decode b_Mo_newFault 99 = .ok (.getfield 522, 3) := by decide +kernel
theorem d_Mo_newFault_102 : decode b_Mo_newFault 102 = .ok (.aload_n 0, 1) := by decide +kernel
theorem d_Mo_newFault_103 : decode b_Mo_newFault 103 = .ok (.getfield 522, 3) := by decide +kernel
theorem d_Mo_newFault_106 : decode b_Mo_newFault 106 = .ok (.getfield 881, 3) := by decide +kernel
theorem d_Mo_newFault_109 : decode b_Mo_newFault 109 = .ok (.iload_n 3, 1) := by decide +kernel
theorem d_Mo_newFault_110 : decode b_Mo_newFault 110 = .ok (.iconst 1, 1) := by decide +kernel
theorem d_Mo_newFault_111 : decode b_Mo_newFault 111 = .ok (.iadd, 1) := by decide +kernel
theorem d_Mo_newFault_112 : decode b_Mo_newFault 112 = .ok (.invokestatic 43, 3) := by decide +kernel
theorem d_Mo_newFault_115 : decode b_Mo_newFault 115 = .ok (.putfield 881, 3) := by decide +kernel
theorem d_Mo_newFault_118 : decode b_Mo_newFault 118 = .ok (.aload_n 0, 1) := by decide +kernel
theorem d_Mo_newFault_119 : decode b_Mo_newFault 119 = .ok (.getfield 522, 3) := by decide +kernel
theorem d_Mo_newFault_122 : decode b_Mo_newFault 122 = .ok (.dup, 1) := by decide +kernel
theorem d_Mo_newFault_123 : decode b_Mo_newFault 123 = .ok (.getfield 516, 3) := by decide +kernel
theorem d_Mo_newFault_126 : decode b_Mo_newFault 126 = .ok (.iconst 1, 1) := by decide +kernel
theorem d_Mo_newFault_127 : decode b_Mo_newFault 127 = .ok (.iadd, 1) := by decide +kernel
theorem d_Mo_newFault_128 : decode b_Mo_newFault 128 = .ok (.putfield 516, 3) := by decide +kernel
theorem d_Mo_newFault_131 : decode b_Mo_newFault 131 = .ok (.sipush 1001, 3) := by decide +kernel
theorem d_Mo_newFault_134 : decode b_Mo_newFault 134 = .ok (.iload_n 3, 1) := by decide +kernel
theorem d_Mo_newFault_135 : decode b_Mo_newFault 135 = .ok (.iadd, 1) := by decide +kernel
theorem d_Mo_newFault_136 : decode b_Mo_newFault 136 = .ok (.ireturn, 1) := by decide +kernel
abbrev ra_Mo_newFault (mc ms : Nat) : Room := { frames := 2, cells := mc, slots := ms, locals := 150 }
def wa_Mo_newFault (mc ms : Nat) (y : Ly) (Post : Ly → St → Int32 → Nat → Nat → Prop) (σ : St) (a0 : Nat) (v1 : Int32) (v2 : Int32) : Prop := ∃ b_1 : Nat, sO σ a0 45 = some b_1 ∧ cl b_1 = 13 ∧ xR mc ms 0 0 .int y σ b_1 53 ((sV σ b_1 56) + 1) (fun (y_4 : Ly) (s_5 : St) (d_6 e_7 : Nat) => (d_6 ≤ mc ∧ e_7 ≤ ms) ∧ ∃ b_8 : Nat, sO s_5 a0 45 = some b_8 ∧ cl b_8 = 13 ∧ xR mc ms d_6 e_7 .int y_4 s_5 b_8 54 ((sV σ b_1 56) + 1) (fun (y_11 : Ly) (s_12 : St) (d_13 e_14 : Nat) => (d_13 ≤ mc ∧ e_14 ≤ ms) ∧ ∃ b_15 : Nat, sO s_12 a0 45 = some b_15 ∧ cl b_15 = 13 ∧ xR mc ms d_13 e_14 .int y_11 s_12 b_15 55 ((sV σ b_1 56) + 1) (fun (y_18 : Ly) (s_19 : St) (d_20 e_21 : Nat) => (d_20 ≤ mc ∧ e_21 ≤ ms) ∧ ∃ b_22 : Nat, sO s_19 a0 45 = some b_22 ∧ cl b_22 = 13 ∧ xS y_18 s_19 b_22 53 (sV σ b_1 56) v1 (fun s_25 : St => ∃ b_26 : Nat, sO s_25 a0 45 = some b_26 ∧ cl b_26 = 13 ∧ xS y_18 s_25 b_26 54 (sV σ b_1 56) v2 (fun s_29 : St => ∃ b_30 : Nat, sO s_29 a0 45 = some b_30 ∧ cl b_30 = 13 ∧ xS y_18 s_29 b_30 55 (sV σ b_1 56) 0 (fun s_33 : St => ∃ b_34 : Nat, sO s_33 a0 45 = some b_34 ∧ cl b_34 = 13 ∧ xR mc ms d_20 e_21 .int y_18 s_33 b_34 58 ((sV σ b_1 56) + 1) (fun (y_37 : Ly) (s_38 : St) (d_39 e_40 : Nat) => (d_39 ≤ mc ∧ e_40 ≤ ms) ∧ ∃ b_41 : Nat, sO s_38 a0 45 = some b_41 ∧ cl b_41 = 13 ∧ xP (uV s_38 b_41 56 ((sV s_38 b_41 56) + 1)) (fun s_44 : St => Post y_37 s_44 (1001 + (sV σ b_1 56)) d_39 e_40))))))))
set_option maxHeartbeats 4000000 in
set_option maxRecDepth 100000 in
theorem ca_Mo_newFault (l : Launch) (D : va_G) (g : Nat → ClassId) (ad : Nat → Nat) (mc ms : Nat) (y : Ly) (Post : Ly → St → Int32 → Nat → Nat → Prop) (σ : St) (a0 : Nat) (v1 : Int32) (v2 : Int32) (sz uz : Nat) (h_a0 : cl a0 = 14) (h : wa_Mo_newFault mc ms y Post σ a0 v1 v2) : Met l y_Mo_newFault (mw y_Mo_newFault b_Mo_newFault 4 (some .int)) (ra_Mo_newFault mc ms) (PCu g D [] [.ref (ad a0), .int v1, .int v2] sz uz (ws g ad y σ)) (va_Qi (fun (r : Int32) (u : Ly × St × Nat × Nat) => Post u.1 u.2.1 r u.2.2.1 u.2.2.2) (QU D (va_A (ws g ad y σ) sz) (fun u => ws g ad u.1 u.2.1) sz uz (fun u => u.2.2.1) (fun u => u.2.2.2)) (va_A (ws g ad y σ) sz)) mc ms (va_A (ws g ad y σ) sz) := by
  refine ofIu (by decide +kernel) (Nat.le_of_ble_eq_true rfl) ?_
  intro p e s m args below meth c A Q ls H locs G hsz hP hD hS hl hret
  subst hsz
  have hl : lv_has ls 4 [(0, .ref (ad a0)), (1, .int v1), (2, .int v2)] := hl
  have hd : 0 ≤ mc ∧ 0 ≤ ms := ⟨Nat.zero_le _, Nat.zero_le _⟩
  unfold wa_Mo_newFault at h
  refine lv_aload_n G.1 G.2.1 d_Mo_newFault_0 rfl (lv_at hl 0 rfl) ?_
  obtain ⟨b_1, e_2, c_3, h⟩ := h
  refine ugf (v := .ref (ad b_1)) G hP h_a0 iMo rfl 45 (by decide) rfl q3109 rfl (by show va_rf ((sO σ a0 45).map ad) = _; rw [e_2]; rfl) d_Mo_newFault_1 ?_
  refine ugfN (v := .int (sV σ b_1 56)) G hP c_3 iMw rfl 56 (by decide) rfl q2809 rfl rfl d_Mo_newFault_4 ?_
  refine lv_istore_n (lv' := [(3, .int (sV σ b_1 56)), (0, .ref (ad a0)), (1, .int v1), (2, .int v2)]) G.1 G.2.1 d_Mo_newFault_7 rfl hl (by decide) rfl (fun ls hl => ?_)
  refine lv_aload_n G.1 G.2.1 d_Mo_newFault_8 rfl (lv_at hl 1 rfl) ?_
  refine ugf (v := .ref (ad b_1)) G hP h_a0 iMo rfl 45 (by decide) rfl q3109 rfl (by show va_rf ((sO σ a0 45).map ad) = _; rw [e_2]; rfl) d_Mo_newFault_9 ?_
  refine lv_aload_n G.1 G.2.1 d_Mo_newFault_12 rfl (lv_at hl 1 rfl) ?_
  refine ugf (v := .ref (ad b_1)) G hP h_a0 iMo rfl 45 (by decide) rfl q3109 rfl (by show va_rf ((sO σ a0 45).map ad) = _; rw [e_2]; rfl) d_Mo_newFault_13 ?_
  refine ugfN (v := .ref (yP y b_1 53)) G hP c_3 iMw rfl 53 (by decide) rfl q2804 rfl rfl d_Mo_newFault_16 ?_
  refine lv_iload_n G.1 G.2.1 d_Mo_newFault_19 rfl (lv_at hl 0 rfl) ?_
  refine lv_iconst (v := 1) G.1 G.2.1 d_Mo_newFault_20 (by decide) ?_
  refine W.eq (g2 := F0 m 21 ls [.int 1, .int (sV σ b_1 56), .ref (yP y b_1 53), .ref (ad b_1)]) rfl ?_
  refine lv_iadd G.1 G.2.1 d_Mo_newFault_21 ?_
  refine uroomN (C := RMw) (T := TMw) (N := 72) G hP hD hS (fun ws0 q1 q t n f sz he ht hn => c_Mo_room_k l D g ws0 q1 q t n f sz he ht hn) (fun ws0 q1 q t n f sz he hn ht hf => c_Mo_room_g l D g ws0 q1 q t n f sz he hn ht hf) w9_Mo_room q2596 ⟨Nat.le_of_ble_eq_true rfl, Nat.le_of_ble_eq_true rfl⟩ (Nat.le_refl _) (Nat.le_refl _) hd c_3 rfl rfl iMw tMw tMw_ok nMw rfl (by decide) q2804 rfl rfl (fun _ => rfl) (fun _ => rfl) hl.1 (Nat.le_of_ble_eq_true rfl) h d_Mo_newFault_22 d_Mo_newFault_25 (fun y_4 s_5 d_6 e_7 H locs h hP hD hS => ?_)
  obtain ⟨hd, h⟩ := h
  refine lv_aload_n G.1 G.2.1 d_Mo_newFault_28 rfl (lv_at hl 1 rfl) ?_
  obtain ⟨b_8, e_9, c_10, h⟩ := h
  refine ugf (v := .ref (ad b_8)) G hP h_a0 iMo rfl 45 (by decide) rfl q3109 rfl (by show va_rf ((sO s_5 a0 45).map ad) = _; rw [e_9]; rfl) d_Mo_newFault_29 ?_
  refine lv_aload_n G.1 G.2.1 d_Mo_newFault_32 rfl (lv_at hl 1 rfl) ?_
  refine ugf (v := .ref (ad b_8)) G hP h_a0 iMo rfl 45 (by decide) rfl q3109 rfl (by show va_rf ((sO s_5 a0 45).map ad) = _; rw [e_9]; rfl) d_Mo_newFault_33 ?_
  refine ugfN (v := .ref (yP y_4 b_8 54)) G hP c_10 iMw rfl 54 (by decide) rfl q2806 rfl rfl d_Mo_newFault_36 ?_
  refine lv_iload_n G.1 G.2.1 d_Mo_newFault_39 rfl (lv_at hl 0 rfl) ?_
  refine lv_iconst (v := 1) G.1 G.2.1 d_Mo_newFault_40 (by decide) ?_
  refine lv_iadd G.1 G.2.1 d_Mo_newFault_41 ?_
  refine uroomN (C := RMw) (T := TMw) (N := 72) G hP hD hS (fun ws0 q1 q t n f sz he ht hn => c_Mo_room_k l D g ws0 q1 q t n f sz he ht hn) (fun ws0 q1 q t n f sz he hn ht hf => c_Mo_room_g l D g ws0 q1 q t n f sz he hn ht hf) w9_Mo_room q2596 ⟨Nat.le_of_ble_eq_true rfl, Nat.le_of_ble_eq_true rfl⟩ (Nat.le_refl _) (Nat.le_refl _) hd c_10 rfl rfl iMw tMw tMw_ok nMw rfl (by decide) q2806 rfl rfl (fun _ => rfl) (fun _ => rfl) hl.1 (Nat.le_of_ble_eq_true rfl) h d_Mo_newFault_42 d_Mo_newFault_45 (fun y_11 s_12 d_13 e_14 H locs h hP hD hS => ?_)
  obtain ⟨hd, h⟩ := h
  refine lv_aload_n G.1 G.2.1 d_Mo_newFault_48 rfl (lv_at hl 1 rfl) ?_
  refine W.eq (g2 := F0 m 49 ls [.ref (ad a0)]) rfl ?_
  obtain ⟨b_15, e_16, c_17, h⟩ := h
  refine ugf (v := .ref (ad b_15)) G hP h_a0 iMo rfl 45 (by decide) rfl q3109 rfl (by show va_rf ((sO s_12 a0 45).map ad) = _; rw [e_16]; rfl) d_Mo_newFault_49 ?_
  refine lv_aload_n G.1 G.2.1 d_Mo_newFault_52 rfl (lv_at hl 1 rfl) ?_
  refine ugf (v := .ref (ad b_15)) G hP h_a0 iMo rfl 45 (by decide) rfl q3109 rfl (by show va_rf ((sO s_12 a0 45).map ad) = _; rw [e_16]; rfl) d_Mo_newFault_53 ?_
  refine ugfN (v := .ref (yP y_11 b_15 55)) G hP c_17 iMw rfl 55 (by decide) rfl q2808 rfl rfl d_Mo_newFault_56 ?_
  refine lv_iload_n G.1 G.2.1 d_Mo_newFault_59 rfl (lv_at hl 0 rfl) ?_
  refine lv_iconst (v := 1) G.1 G.2.1 d_Mo_newFault_60 (by decide) ?_
  refine lv_iadd G.1 G.2.1 d_Mo_newFault_61 ?_
  refine uroomN (C := RMw) (T := TMw) (N := 72) G hP hD hS (fun ws0 q1 q t n f sz he ht hn => c_Mo_room_k l D g ws0 q1 q t n f sz he ht hn) (fun ws0 q1 q t n f sz he hn ht hf => c_Mo_room_g l D g ws0 q1 q t n f sz he hn ht hf) w9_Mo_room q2596 ⟨Nat.le_of_ble_eq_true rfl, Nat.le_of_ble_eq_true rfl⟩ (Nat.le_refl _) (Nat.le_refl _) hd c_17 rfl rfl iMw tMw tMw_ok nMw rfl (by decide) q2808 rfl rfl (fun _ => rfl) (fun _ => rfl) hl.1 (Nat.le_of_ble_eq_true rfl) h d_Mo_newFault_62 d_Mo_newFault_65 (fun y_18 s_19 d_20 e_21 H locs h hP hD hS => ?_)
  obtain ⟨hd, h⟩ := h
  refine lv_aload_n G.1 G.2.1 d_Mo_newFault_68 rfl (lv_at hl 1 rfl) ?_
  obtain ⟨b_22, e_23, c_24, h⟩ := h
  refine ugf (v := .ref (ad b_22)) G hP h_a0 iMo rfl 45 (by decide) rfl q3109 rfl (by show va_rf ((sO s_19 a0 45).map ad) = _; rw [e_23]; rfl) d_Mo_newFault_69 ?_
  refine ugfN (v := .ref (yP y_18 b_22 53)) G hP c_24 iMw rfl 53 (by decide) rfl q2804 rfl rfl d_Mo_newFault_72 ?_
  refine lv_iload_n G.1 G.2.1 d_Mo_newFault_75 rfl (lv_at hl 0 rfl) ?_
  refine W.eq (g2 := F0 m 76 ls [.int (sV σ b_1 56), .ref (yP y_18 b_22 53)]) rfl ?_
  refine lv_iload_n G.1 G.2.1 d_Mo_newFault_76 rfl (lv_at hl 2 rfl) ?_
  refine uiast G hP hD hS (kdp c_24 rfl) (typ c_24 rfl) h d_Mo_newFault_77 (fun s_25 H locs h hP hD hS => ?_)
  refine lv_aload_n G.1 G.2.1 d_Mo_newFault_78 rfl (lv_at hl 1 rfl) ?_
  obtain ⟨b_26, e_27, c_28, h⟩ := h
  refine ugf (v := .ref (ad b_26)) G hP h_a0 iMo rfl 45 (by decide) rfl q3109 rfl (by show va_rf ((sO s_25 a0 45).map ad) = _; rw [e_27]; rfl) d_Mo_newFault_79 ?_
  refine ugfN (v := .ref (yP y_18 b_26 54)) G hP c_28 iMw rfl 54 (by decide) rfl q2806 rfl rfl d_Mo_newFault_82 ?_
  refine lv_iload_n G.1 G.2.1 d_Mo_newFault_85 rfl (lv_at hl 0 rfl) ?_
  refine lv_iload_n G.1 G.2.1 d_Mo_newFault_86 rfl (lv_at hl 3 rfl) ?_
  refine uiast G hP hD hS (kdp c_28 rfl) (typ c_28 rfl) h d_Mo_newFault_87 (fun s_29 H locs h hP hD hS => ?_)
  refine lv_aload_n G.1 G.2.1 d_Mo_newFault_88 rfl (lv_at hl 1 rfl) ?_
  obtain ⟨b_30, e_31, c_32, h⟩ := h
  refine ugf (v := .ref (ad b_30)) G hP h_a0 iMo rfl 45 (by decide) rfl q3109 rfl (by show va_rf ((sO s_29 a0 45).map ad) = _; rw [e_31]; rfl) d_Mo_newFault_89 ?_
  refine ugfN (v := .ref (yP y_18 b_30 55)) G hP c_32 iMw rfl 55 (by decide) rfl q2808 rfl rfl d_Mo_newFault_92 ?_
  refine lv_iload_n G.1 G.2.1 d_Mo_newFault_95 rfl (lv_at hl 0 rfl) ?_
  refine W.eq (g2 := F0 m 96 ls [.int (sV σ b_1 56), .ref (yP y_18 b_30 55)]) rfl ?_
  refine lv_iconst (v := 0) G.1 G.2.1 d_Mo_newFault_96 (by decide) ?_
  refine uiast G hP hD hS (kdp c_32 rfl) (typ c_32 rfl) h d_Mo_newFault_97 (fun s_33 H locs h hP hD hS => ?_)
  refine lv_aload_n G.1 G.2.1 d_Mo_newFault_98 rfl (lv_at hl 1 rfl) ?_
  obtain ⟨b_34, e_35, c_36, h⟩ := h
  refine ugf (v := .ref (ad b_34)) G hP h_a0 iMo rfl 45 (by decide) rfl q3109 rfl (by show va_rf ((sO s_33 a0 45).map ad) = _; rw [e_35]; rfl) d_Mo_newFault_99 ?_
  refine lv_aload_n G.1 G.2.1 d_Mo_newFault_102 rfl (lv_at hl 1 rfl) ?_
  refine ugf (v := .ref (ad b_34)) G hP h_a0 iMo rfl 45 (by decide) rfl q3109 rfl (by show va_rf ((sO s_33 a0 45).map ad) = _; rw [e_35]; rfl) d_Mo_newFault_103 ?_
  refine ugfN (v := .ref (yP y_18 b_34 58)) G hP c_36 iMw rfl 58 (by decide) rfl q2813 rfl rfl d_Mo_newFault_106 ?_
  refine lv_iload_n G.1 G.2.1 d_Mo_newFault_109 rfl (lv_at hl 0 rfl) ?_
  refine lv_iconst (v := 1) G.1 G.2.1 d_Mo_newFault_110 (by decide) ?_
  refine lv_iadd G.1 G.2.1 d_Mo_newFault_111 ?_
  refine uroomN (C := RMw) (T := TMw) (N := 72) G hP hD hS (fun ws0 q1 q t n f sz he ht hn => c_Mo_room_k l D g ws0 q1 q t n f sz he ht hn) (fun ws0 q1 q t n f sz he hn ht hf => c_Mo_room_g l D g ws0 q1 q t n f sz he hn ht hf) w9_Mo_room q2596 ⟨Nat.le_of_ble_eq_true rfl, Nat.le_of_ble_eq_true rfl⟩ (Nat.le_refl _) (Nat.le_refl _) hd c_36 rfl rfl iMw tMw tMw_ok nMw rfl (by decide) q2813 rfl rfl (fun _ => rfl) (fun _ => rfl) hl.1 (Nat.le_of_ble_eq_true rfl) h d_Mo_newFault_112 d_Mo_newFault_115 (fun y_37 s_38 d_39 e_40 H locs h hP hD hS => ?_)
  have hl := lv_sub (l' := [(3, .int (sV σ b_1 56)), (0, .ref (ad a0))]) hl [0, 1] rfl
  obtain ⟨hd, h⟩ := h
  refine lv_aload_n G.1 G.2.1 d_Mo_newFault_118 rfl (lv_at hl 1 rfl) ?_
  refine W.eq (g2 := F0 m 119 ls [.ref (ad a0)]) rfl ?_
  obtain ⟨b_41, e_42, c_43, h⟩ := h
  refine ugf (v := .ref (ad b_41)) G hP h_a0 iMo rfl 45 (by decide) rfl q3109 rfl (by show va_rf ((sO s_38 a0 45).map ad) = _; rw [e_42]; rfl) d_Mo_newFault_119 ?_
  refine lv_dup G.1 G.2.1 d_Mo_newFault_122 rfl ?_
  refine ugfN (v := .int (sV s_38 b_41 56)) G hP c_43 iMw rfl 56 (by decide) rfl q2809 rfl rfl d_Mo_newFault_123 ?_
  refine lv_iconst (v := 1) G.1 G.2.1 d_Mo_newFault_126 (by decide) ?_
  refine lv_iadd G.1 G.2.1 d_Mo_newFault_127 ?_
  refine upfN G hP hD hS h 56 putV c_43 iMw tMw tMw_ok nMw rfl (by decide) rfl q2809 rfl rfl fV rfl rfl d_Mo_newFault_128 (fun s_44 H locs h hP hD hS => ?_)
  refine lv_sipush (v := 1001) G.1 G.2.1 d_Mo_newFault_131 (by decide) ?_
  refine lv_iload_n G.1 G.2.1 d_Mo_newFault_134 rfl (lv_at hl 0 rfl) ?_
  refine lv_iadd G.1 G.2.1 d_Mo_newFault_135 ?_
  exact hret _ (y_37, s_44, d_39, e_40) _ _ _ _ _ ls h hP hD hS (Nat.le_refl _) (Nat.le_refl _) hd.1 hd.2 d_Mo_newFault_136
theorem q3887 : Cond.methodLink "ClassWorksModel" 954 y_Mo_newFault ∈ lw_ok := lw_okmem (List.mem_of_getElem? (i := 3887) (by decide +kernel)) rfl
theorem q3890 : Cond.code y_Mo_newFault b_Mo_newFault 4 (some .int) ∈ lw_ok := lw_okmem (List.mem_of_getElem? (i := 3890) (by decide +kernel)) rfl
theorem q3889 : Cond.instanceMethod y_Mo_newFault ∈ lw_ok := lw_okmem (List.mem_of_getElem? (i := 3889) (by decide +kernel)) rfl
theorem q261 : Cond.selects y_Mo_newFault.cls y_Mo_newFault y_Mo_newFault ∈ lw_ok := lw_okmem (List.mem_of_getElem? (i := 261) (by decide +kernel)) rfl
theorem w9_Mo_newFault : CWv y_Mo_newFault b_Mo_newFault 4 (some .int) 2 ∧ Cond.instanceMethod y_Mo_newFault ∈ lw_ok ∧ Cond.selects y_Mo_newFault.cls y_Mo_newFault y_Mo_newFault ∈ lw_ok := ⟨⟨q3890, q348, by decide +kernel, by decide +kernel, by decide +kernel⟩, q3889, q261⟩
theorem q3895 : Cond.methodLink "ClassWorksModel" 967 y_Mo_handlerOf ∈ lw_ok := lw_okmem (List.mem_of_getElem? (i := 3895) (by decide +kernel)) rfl
theorem q3898 : Cond.code y_Mo_handlerOf b_Mo_handlerOf 7 (some .int) ∈ lw_ok := lw_okmem (List.mem_of_getElem? (i := 3898) (by decide +kernel)) rfl
theorem q3897 : Cond.instanceMethod y_Mo_handlerOf ∈ lw_ok := lw_okmem (List.mem_of_getElem? (i := 3897) (by decide +kernel)) rfl
theorem q263 : Cond.selects y_Mo_handlerOf.cls y_Mo_handlerOf y_Mo_handlerOf ∈ lw_ok := lw_okmem (List.mem_of_getElem? (i := 263) (by decide +kernel)) rfl
theorem w9_Mo_handlerOf : CWv y_Mo_handlerOf b_Mo_handlerOf 7 (some .int) 2 ∧ Cond.instanceMethod y_Mo_handlerOf ∈ lw_ok ∧ Cond.selects y_Mo_handlerOf.cls y_Mo_handlerOf y_Mo_handlerOf ∈ lw_ok := ⟨⟨q3898, q348, by decide +kernel, by decide +kernel, by decide +kernel⟩, q3897, q263⟩
def y_Mo_unwind : MethodName := ⟨"ClassWorksModel", "unwind", "(I)V"⟩
abbrev b_Mo_unwind : ByteArray := prog_14_method_100_code
theorem d_Mo_unwind_0 : decode b_Mo_unwind 0 = .ok (.iload_n 1, 1) := by decide +kernel
theorem d_Mo_unwind_1 : decode b_Mo_unwind 1 = .ok (.istore_n 2, 1) := by decide +kernel
theorem d_Mo_unwind_2 : decode b_Mo_unwind 2 = .ok (.aload_n 0, 1) := by decide +kernel
theorem d_Mo_unwind_3 : decode b_Mo_unwind 3 = .ok (.getfield 917, 3) := by decide +kernel
theorem d_Mo_unwind_6 : decode b_Mo_unwind 6 = .ok (.getfield 945, 3) := by decide +kernel
theorem d_Mo_unwind_9 : decode b_Mo_unwind 9 = .ok (.ifCond .le 202, 3) := by decide +kernel
theorem d_Mo_unwind_12 : decode b_Mo_unwind 12 = .ok (.aload_n 0, 1) := by decide +kernel
theorem d_Mo_unwind_13 : decode b_Mo_unwind 13 = .ok (.getfield 917, 3) := by decide +kernel
theorem d_Mo_unwind_16 : decode b_Mo_unwind 16 = .ok (.getfield 945, 3) := by decide +kernel
theorem d_Mo_unwind_19 : decode b_Mo_unwind 19 = .ok (.iconst 1, 1) := by decide +kernel
theorem d_Mo_unwind_20 : decode b_Mo_unwind 20 = .ok (.isub, 1) := by decide +kernel
theorem d_Mo_unwind_21 : decode b_Mo_unwind 21 = .ok (.istore_n 3, 1) := by decide +kernel
theorem d_Mo_unwind_22 : decode b_Mo_unwind 22 = .ok (.aload_n 0, 1) := by decide +kernel
theorem d_Mo_unwind_23 : decode b_Mo_unwind 23 = .ok (.getfield 917, 3) := by decide +kernel
theorem d_Mo_unwind_26 : decode b_Mo_unwind 26 = .ok (.getfield 942, 3) := by decide +kernel
theorem d_Mo_unwind_29 : decode b_Mo_unwind 29 = .ok (.iload_n 3, 1) := by decide +kernel
theorem d_Mo_unwind_30 : decode b_Mo_unwind 30 = .ok (.iaload, 1) := by decide +kernel
theorem d_Mo_unwind_31 : decode b_Mo_unwind 31 = .ok (.istore 4, 2) := by decide +kernel
theorem d_Mo_unwind_33 : decode b_Mo_unwind 33 = .ok (.iload 4, 2) := by decide +kernel
theorem d_Mo_unwind_35 : decode b_Mo_unwind 35 = .ok (.ifCond .lt 104, 3) := by decide +kernel
theorem d_Mo_unwind_38 : decode b_Mo_unwind 38 = .ok (.aload_n 0, 1) := by decide +kernel
theorem d_Mo_unwind_39 : decode b_Mo_unwind 39 = .ok (.iload 4, 2) := by decide +kernel
theorem d_Mo_unwind_41 : decode b_Mo_unwind 41 = .ok (.iload_n 2, 1) := by decide +kernel
theorem d_Mo_unwind_42 : decode b_Mo_unwind 42 = .ok (.invokevirtual 967, 3) := by decide +kernel
theorem d_Mo_unwind_45 : decode b_Mo_unwind 45 = .ok (.istore 5, 2) := by decide +kernel
theorem d_Mo_unwind_47 : decode b_Mo_unwind 47 = .ok (.iload 5, 2) := by decide +kernel
theorem d_Mo_unwind_49 : decode b_Mo_unwind 49 = .ok (.ifCond .lt 59, 3) := by decide +kernel
theorem d_Mo_unwind_52 : decode b_Mo_unwind 52 = .ok (.aload_n 0, 1) := by decide +kernel
theorem d_Mo_unwind_53 : decode b_Mo_unwind 53 = .ok (.getfield 917, 3) := by decide +kernel
theorem d_Mo_unwind_56 : decode b_Mo_unwind 56 = .ok (.getfield 933, 3) := by decide +kernel
theorem d_Mo_unwind_59 : decode b_Mo_unwind 59 = .ok (.iload 4, 2) := by decide +kernel
theorem d_Mo_unwind_61 : decode b_Mo_unwind 61 = .ok (.iconst 0, 1) := by decide +kernel
theorem d_Mo_unwind_62 : decode b_Mo_unwind 62 = .ok (.iastore, 1) := by decide +kernel
theorem d_Mo_unwind_63 : decode b_Mo_unwind 63 = .ok (.aload_n 0, 1) := by decide +kernel
theorem d_Mo_unwind_64 : decode b_Mo_unwind 64 = .ok (.iload 4, 2) := by decide +kernel
theorem d_Mo_unwind_66 : decode b_Mo_unwind 66 = .ok (.iload_n 2, 1) := by decide +kernel
theorem d_Mo_unwind_67 : decode b_Mo_unwind 67 = .ok (.iconst 1, 1) := by decide +kernel
theorem d_Mo_unwind_68 : decode b_Mo_unwind 68 = .ok (.invokevirtual 970, 3) := by decide +kernel
theorem d_Mo_unwind_71 : decode b_Mo_unwind 71 = .ok (.aload_n 0, 1) := by decide +kernel
theorem d_Mo_unwind_72 : decode b_Mo_unwind 72 = .ok (.getfield 917, 3) := by decide +kernel
theorem d_Mo_unwind_75 : decode b_Mo_unwind 75 = .ok (.getfield 930, 3) := by decide +kernel
theorem d_Mo_unwind_78 : decode b_Mo_unwind 78 = .ok (.iload 4, 2) := by decide +kernel
theorem d_Mo_unwind_80 : decode b_Mo_unwind 80 = .ok (.aload_n 0, 1) := by decide +kernel
theorem d_Mo_unwind_81 : decode b_Mo_unwind 81 = .ok (.getfield 522, 3) := by decide +kernel
theorem d_Mo_unwind_84 : decode b_Mo_unwind 84 = .ok (.getfield 719, 3) := by decide +kernel
theorem d_Mo_unwind_87 : decode b_Mo_unwind 87 = .ok (.iload 5, 2) := by decide +kernel
theorem d_Mo_unwind_89 : decode b_Mo_unwind 89 = .ok (.iaload, 1) := by decide +kernel
theorem d_Mo_unwind_90 : decode b_Mo_unwind 90 = .ok (.iastore, 1) := by decide +kernel
theorem d_Mo_unwind_91 : decode b_Mo_unwind 91 = .ok (.aload_n 0, 1) := by decide +kernel
theorem d_Mo_unwind_92 : decode b_Mo_unwind 92 = .ok (.bipush 7, 2) := by decide +kernel
theorem d_Mo_unwind_94 : decode b_Mo_unwind 94 = .ok (.aload_n 0, 1) := by decide +kernel
theorem d_Mo_unwind_95 : decode b_Mo_unwind 95 = .ok (.getfield 917, 3) := by decide +kernel
theorem d_Mo_unwind_98 : decode b_Mo_unwind 98 = .ok (.getfield 927, 3) := by decide +kernel
theorem d_Mo_unwind_101 : decode b_Mo_unwind 101 = .ok (.iload 4, 2) := by decide +kernel
theorem d_Mo_unwind_103 : decode b_Mo_unwind 103 = .ok (.iaload, 1) := by decide +kernel
theorem d_Mo_unwind_104 : decode b_Mo_unwind 104 = .ok (.invokevirtual 951, 3) := by decide +kernel
theorem d_Mo_unwind_107 : decode b_Mo_unwind 107 = .ok (.return_, 1) := by decide +kernel
theorem d_Mo_unwind_108 : decode b_Mo_unwind 108 = .ok (.aload_n 0, 1) := by decide +kernel
theorem d_Mo_unwind_109 : decode b_Mo_unwind 109 = .ok (.getfield 917, 3) := by decide +kernel
theorem d_Mo_unwind_112 : decode b_Mo_unwind 112 = .ok (.dup, 1) := by decide +kernel
theorem d_Mo_unwind_113 : decode b_Mo_unwind 113 = .ok (.getfield 924, 3) := by decide +kernel
theorem d_Mo_unwind_116 : decode b_Mo_unwind 116 = .ok (.iconst 1, 1) := by decide +kernel
theorem d_Mo_unwind_117 : decode b_Mo_unwind 117 = .ok (.isub, 1) := by decide +kernel
theorem d_Mo_unwind_118 : decode b_Mo_unwind 118 = .ok (.putfield 924, 3) := by decide +kernel
theorem d_Mo_unwind_121 : decode b_Mo_unwind 121 = .ok (.aload_n 0, 1) := by decide +kernel
theorem d_Mo_unwind_122 : decode b_Mo_unwind 122 = .ok (.iconst 3, 1) := by decide +kernel
theorem d_Mo_unwind_123 : decode b_Mo_unwind 123 = .ok (.aload_n 0, 1) := by decide +kernel
theorem d_Mo_unwind_124 : decode b_Mo_unwind 124 = .ok (.getfield 917, 3) := by decide +kernel
theorem d_Mo_unwind_127 : decode b_Mo_unwind 127 = .ok (.getfield 927, 3) := by decide +kernel
theorem d_Mo_unwind_130 : decode b_Mo_unwind 130 = .ok (.iload 4, 2) := by decide +kernel
theorem d_Mo_unwind_132 : decode b_Mo_unwind 132 = .ok (.iaload, 1) := by decide +kernel
theorem d_Mo_unwind_133 : decode b_Mo_unwind 133 = .ok (.invokevirtual 951, 3) := by decide +kernel
theorem d_Mo_unwind_136 : decode b_Mo_unwind 136 = .ok (.goto 59, 3) := by decide +kernel
theorem d_Mo_unwind_139 : decode b_Mo_unwind 139 = .ok (.aload_n 0, 1) := by decide +kernel
theorem d_Mo_unwind_140 : decode b_Mo_unwind 140 = .ok (.getfield 522, 3) := by decide +kernel
theorem d_Mo_unwind_143 : decode b_Mo_unwind 143 = .ok (.getfield 441, 3) := by decide +kernel
theorem d_Mo_unwind_146 : decode b_Mo_unwind 146 = .ok (.iconst (-1), 1) := by decide +kernel
theorem d_Mo_unwind_147 : decode b_Mo_unwind 147 = .ok (.iload 4, 2) := by decide +kernel
theorem d_Mo_unwind_149 : decode b_Mo_unwind 149 = .ok (.isub, 1) := by decide +kernel
theorem d_Mo_unwind_150 : decode b_Mo_unwind 150 = .ok (.iconst 3, 1) := by decide +kernel
theorem d_Mo_unwind_151 : decode b_Mo_unwind 151 = .ok (.iastore, 1) := by decide +kernel
theorem d_Mo_unwind_152 : decode b_Mo_unwind 152 = .ok (.aload_n 0, 1) := by decide +kernel
theorem d_Mo_unwind_153 : decode b_Mo_unwind 153 = .ok (.bipush 6, 2) := by decide +kernel
theorem d_Mo_unwind_155 : decode b_Mo_unwind 155 = .ok (.iload 4, 2) := by decide +kernel
theorem d_Mo_unwind_157 : decode b_Mo_unwind 157 = .ok (.invokevirtual 951, 3) := by decide +kernel
theorem d_Mo_unwind_160 : decode b_Mo_unwind 160 = .ok (.aload_n 0, 1) := by decide +kernel
theorem d_Mo_unwind_161 : decode b_Mo_unwind 161 = .ok (.getfield 917, 3) := by decide +kernel
theorem d_Mo_unwind_164 : decode b_Mo_unwind 164 = .ok (.getfield 948, 3) := by decide +kernel
theorem d_Mo_unwind_167 : decode b_Mo_unwind 167 = .ok (.iload_n 3, 1) := by decide +kernel
theorem d_Mo_unwind_168 : decode b_Mo_unwind 168 = .ok (.iaload, 1) := by decide +kernel
theorem d_Mo_unwind_169 : decode b_Mo_unwind 169 = .ok (.iconst 2, 1) := by decide +kernel
theorem d_Mo_unwind_170 : decode b_Mo_unwind 170 = .ok (.if_icmp .ne 25, 3) := by decide +kernel
theorem d_Mo_unwind_173 : decode b_Mo_unwind 173 = .ok (.aload_n 0, 1) := by decide +kernel
theorem d_Mo_unwind_174 : decode b_Mo_unwind 174 = .ok (.aload_n 0, 1) := by decide +kernel
theorem d_Mo_unwind_175 : decode b_Mo_unwind 175 = .ok (.iload_n 2, 1) := by decide +kernel
theorem d_Mo_unwind_176 : decode b_Mo_unwind 176 = .ok (.invokevirtual 960, 3) := by decide +kernel
theorem d_Mo_unwind_179 : decode b_Mo_unwind 179 = .ok (.bipush 10, 2) := by decide +kernel
theorem d_Mo_unwind_181 : decode b_Mo_unwind 181 = .ok (.invokevirtual 963, 3) := by decide +kernel
theorem d_Mo_unwind_184 : decode b_Mo_unwind 184 = .ok (.ifCond .ne 11, 3) := by decide +kernel
theorem d_Mo_unwind_187 : decode b_Mo_unwind 187 = .ok (.aload_n 0, 1) := by decide +kernel
theorem d_Mo_unwind_188 : decode b_Mo_unwind 188 = .ok (.bipush 20, 2) := by decide +kernel
theorem d_Mo_unwind_190 : decode b_Mo_unwind 190 = .ok (.iconst 0, 1) := by decide +kernel
theorem d_Mo_unwind_191 : decode b_Mo_unwind 191 = .ok (.invokevirtual 954, 3) := by decide +kernel
theorem d_Mo_unwind_194 : decode b_Mo_unwind 194 = .ok (.istore_n 2, 1) := by decide +kernel
theorem d_Mo_unwind_195 : decode b_Mo_unwind 195 = .ok (.aload_n 0, 1) := by decide +kernel
theorem d_Mo_unwind_196 : decode b_Mo_unwind 196 = .ok (.getfield 917, 3) := by decide +kernel
theorem d_Mo_unwind_199 : decode b_Mo_unwind 199 = .ok (.dup, 1) := by decide +kernel
theorem d_Mo_unwind_200 : decode b_Mo_unwind 200 = .ok (.getfield 945, 3) := by decide +kernel
theorem d_Mo_unwind_203 : decode b_Mo_unwind 203 = .ok (.iconst 1, 1) := by decide +kernel
theorem d_Mo_unwind_204 : decode b_Mo_unwind 204 = .ok (.isub, 1) := by decide +kernel
theorem d_Mo_unwind_205 : decode b_Mo_unwind 205 = .ok (.putfield 945, 3) := by decide +kernel
theorem d_Mo_unwind_208 : decode b_Mo_unwind 208 = .ok (.goto (-206), 3) := by decide +kernel
theorem d_Mo_unwind_211 : decode b_Mo_unwind 211 = .ok (.aload_n 0, 1) := by decide +kernel
theorem d_Mo_unwind_212 : decode b_Mo_unwind 212 = .ok (.getfield 917, 3) := by decide +kernel
theorem d_Mo_unwind_215 : decode b_Mo_unwind 215 = .ok (.iconst 2, 1) := by decide +kernel
theorem d_Mo_unwind_216 : decode b_Mo_unwind 216 = .ok (.putfield 486, 3) := by decide +kernel
theorem d_Mo_unwind_219 : decode b_Mo_unwind 219 = .ok (.aload_n 0, 1) := by decide +kernel
theorem d_Mo_unwind_220 : decode b_Mo_unwind 220 = .ok (.getfield 917, 3) := by decide +kernel
theorem d_Mo_unwind_223 : decode b_Mo_unwind 223 = .ok (.iconst 0, 1) := by decide +kernel
theorem d_Mo_unwind_224 : decode b_Mo_unwind 224 = .ok (.putfield 974, 3) := by decide +kernel
theorem d_Mo_unwind_227 : decode b_Mo_unwind 227 = .ok (.aload_n 0, 1) := by decide +kernel
theorem d_Mo_unwind_228 : decode b_Mo_unwind 228 = .ok (.getfield 917, 3) := by decide +kernel
theorem d_Mo_unwind_231 : decode b_Mo_unwind 231 = .ok (.iconst 0, 1) := by decide +kernel
theorem d_Mo_unwind_232 : decode b_Mo_unwind 232 = .ok (.putfield 977, 3) := by decide +kernel
theorem d_Mo_unwind_235 : decode b_Mo_unwind 235 = .ok (.aload_n 0, 1) := by decide +kernel
theorem d_Mo_unwind_236 : decode b_Mo_unwind 236 = .ok (.getfield 917, 3) := by decide +kernel
theorem d_Mo_unwind_239 : decode b_Mo_unwind 239 = .ok (.aload_n 0, 1) := by decide +kernel
theorem d_Mo_unwind_240 : decode b_Mo_unwind 240 = .ok (.iload_n 2, 1) := by decide +kernel
theorem d_Mo_unwind_241 : decode b_Mo_unwind 241 = .ok (.invokevirtual 960, 3) := by decide +kernel
theorem d_Mo_unwind_244 : decode b_Mo_unwind 244 = .ok (.putfield 980, 3) := by decide +kernel
theorem d_Mo_unwind_247 : decode b_Mo_unwind 247 = .ok (.aload_n 0, 1) := by decide +kernel
theorem d_Mo_unwind_248 : decode b_Mo_unwind 248 = .ok (.getfield 917, 3) := by decide +kernel
theorem d_Mo_unwind_251 : decode b_Mo_unwind 251 = .ok (.iload_n 2, 1) := by decide +kernel
theorem d_Mo_unwind_252 : decode b_Mo_unwind 252 = .ok (.sipush 1001, 3) := by decide +kernel
theorem d_Mo_unwind_255 : decode b_Mo_unwind 255 = .ok (.if_icmp .lt 19, 3) := by decide +kernel
theorem d_Mo_unwind_258 : decode b_Mo_unwind 258 = .ok (.aload_n 0, 1) := by decide +kernel
theorem d_Mo_unwind_259 : decode b_Mo_unwind 259 = .ok (.getfield 522, 3) := by decide +kernel
theorem d_Mo_unwind_262 : decode b_Mo_unwind 262 = .ok (.getfield 875, 3) := by decide +kernel
theorem d_Mo_unwind_265 : decode b_Mo_unwind 265 = .ok (.iload_n 2, 1) := by decide +kernel
theorem d_Mo_unwind_266 : decode b_Mo_unwind 266 = .ok (.sipush 1001, 3) := by decide +kernel
theorem d_Mo_unwind_269 : decode b_Mo_unwind 269 = .ok (.isub, 1) := by decide +kernel
theorem d_Mo_unwind_270 : decode b_Mo_unwind 270 = .ok (.iaload, 1) := by decide +kernel
theorem d_Mo_unwind_271 : decode b_Mo_unwind 271 = .ok (.goto 4, 3) := by decide +kernel
theorem d_Mo_unwind_274 : decode b_Mo_unwind 274 = .ok (.iconst 0, 1) := by decide +kernel
theorem d_Mo_unwind_275 : decode b_Mo_unwind 275 = .ok (.putfield 983, 3) := by decide +kernel
theorem d_Mo_unwind_278 : decode b_Mo_unwind 278 = .ok (.return_, 1) := by decide +kernel
abbrev ra_Mo_unwind (mc ms : Nat) : Room := { frames := 6, cells := mc, slots := ms, locals := 173 }
def wja_Mo_unwind_275 (mc ms : Nat) (Post : Ly → St → Nat → Nat → Prop) (a0 : Nat) (y_j275 : Ly) (s_j275 : St) (d_j275 e_j275 : Nat) (z0j275 : Nat) (z1j275 : Int32) : Prop := (d_j275 ≤ mc ∧ e_j275 ≤ ms) ∧ cl z0j275 = 12 ∧ xP (uV s_j275 z0j275 13 z1j275) (fun s_22 : St => Post y_j275 s_22 d_j275 e_j275)
def wja_Mo_unwind_195 (mc ms : Nat) (Post : Ly → St → Nat → Nat → Prop) (K_2 : Ly → St → Nat → Nat → Int32 → Prop) (a0 : Nat) (y_j195 : Ly) (s_j195 : St) (d_j195 e_j195 : Nat) (x2j195 : Int32) : Prop := (d_j195 ≤ mc ∧ e_j195 ≤ ms) ∧ ∃ b_28 : Nat, sO s_j195 a0 46 = some b_28 ∧ cl b_28 = 12 ∧ xP (uV s_j195 b_28 16 ((sV s_j195 b_28 16) - 1)) (fun s_31 : St => K_2 y_j195 s_31 d_j195 e_j195 x2j195)
def wba_Mo_unwind_2 (mc ms : Nat) (Post : Ly → St → Nat → Nat → Prop) (K_2 : Ly → St → Nat → Nat → Int32 → Prop) (a0 : Nat) (y_h2 : Ly) (s_h2 : St) (d_h2 e_h2 : Nat) (x2h2 : Int32) : Prop := (d_h2 ≤ mc ∧ e_h2 ≤ ms) ∧ ∃ b_1 : Nat, sO s_h2 a0 46 = some b_1 ∧ cl b_1 = 12 ∧ (((sV s_h2 b_1 16) ≤ 0 → xP (uV s_h2 b_1 0 2) (fun s_4 : St => ∃ b_5 : Nat, sO s_4 a0 46 = some b_5 ∧ cl b_5 = 12 ∧ xP (uV s_4 b_5 10 0) (fun s_8 : St => ∃ b_9 : Nat, sO s_8 a0 46 = some b_9 ∧ cl b_9 = 12 ∧ xP (uV s_8 b_9 11 0) (fun s_12 : St => ∃ b_13 : Nat, sO s_12 a0 46 = some b_13 ∧ cl b_13 = 12 ∧ wu_Mo_classOfRef y_h2 (fun (s_17 : St) (r_16 : Int32) => xP (uV s_17 b_13 12 r_16) (fun s_18 : St => ∃ b_19 : Nat, sO s_18 a0 46 = some b_19 ∧ cl b_19 = 12 ∧ ((x2h2 < 1001 → wja_Mo_unwind_275 mc ms Post a0 y_h2 s_18 d_h2 e_h2 b_19 0) ∧ (¬ (x2h2 < 1001) → ∃ b_23 : Nat, sO s_18 a0 45 = some b_23 ∧ cl b_23 = 13 ∧ xA y_h2 s_18 b_23 54 (x2h2 - 1001) (fun x_26 : Int32 => wja_Mo_unwind_275 mc ms Post a0 y_h2 s_18 d_h2 e_h2 b_19 x_26))))) s_12 a0 x2h2)))) ∧ (¬ ((sV s_h2 b_1 16) ≤ 0) → xA y_h2 s_h2 b_1 14 ((sV s_h2 b_1 16) - 1) (fun x_27 : Int32 => ((x_27 < 0 → ∃ b_32 : Nat, sO s_h2 a0 45 = some b_32 ∧ cl b_32 = 13 ∧ xS y_h2 s_h2 b_32 10 ((-1) - x_27) 3 (fun s_35 : St => wu_Mo_note y_h2 (fun (s_37 : St) => ∃ b_38 : Nat, sO s_37 a0 46 = some b_38 ∧ cl b_38 = 12 ∧ xA y_h2 s_37 b_38 15 ((sV s_h2 b_1 16) - 1) (fun x_41 : Int32 => ((¬ x_41 = 2 → wja_Mo_unwind_195 mc ms Post K_2 a0 y_h2 s_37 d_h2 e_h2 x2h2) ∧ (x_41 = 2 → wu_Mo_classOfRef y_h2 (fun (s_43 : St) (r_42 : Int32) => wu_Mo_isBelow y_h2 (fun (s_45 : St) (r_44 : Int32) => ((¬ r_44 = 0 → wja_Mo_unwind_195 mc ms Post K_2 a0 y_h2 s_45 d_h2 e_h2 x2h2) ∧ (r_44 = 0 → ∃ mc_51 ms_52 : Nat, (d_h2 + mc_51 ≤ mc ∧ e_h2 + ms_52 ≤ ms) ∧ wa_Mo_newFault mc_51 ms_52 y_h2 (fun (y_48 : Ly) (s_47 : St) (r_46 : Int32) (d_49 e_50 : Nat) => (d_h2 + d_49 ≤ mc ∧ e_h2 + e_50 ≤ ms) ∧ wja_Mo_unwind_195 mc ms Post K_2 a0 y_48 s_47 (d_h2 + d_49) (e_h2 + e_50) r_46) s_45 a0 20 0))) s_43 a0 r_42 10) s_37 a0 x2h2)))) s_35 a0 6 x_27)) ∧ (¬ (x_27 < 0) → wu_Mo_handlerOf y_h2 (fun (s_55 : St) (r_54 : Int32) => ((r_54 < 0 → ∃ b_56 : Nat, sO s_55 a0 46 = some b_56 ∧ cl b_56 = 12 ∧ xP (uV s_55 b_56 22 ((sV s_55 b_56 22) - 1)) (fun s_59 : St => ∃ b_60 : Nat, sO s_59 a0 46 = some b_60 ∧ cl b_60 = 12 ∧ xA y_h2 s_59 b_60 17 x_27 (fun x_63 : Int32 => wu_Mo_note y_h2 (fun (s_65 : St) => wja_Mo_unwind_195 mc ms Post K_2 a0 y_h2 s_65 d_h2 e_h2 x2h2) s_59 a0 3 x_63))) ∧ (¬ (r_54 < 0) → ∃ b_66 : Nat, sO s_55 a0 46 = some b_66 ∧ cl b_66 = 12 ∧ xS y_h2 s_55 b_66 19 x_27 0 (fun s_69 : St => wu_Mo_push y_h2 (fun (s_71 : St) => ∃ b_72 : Nat, sO s_71 a0 46 = some b_72 ∧ cl b_72 = 12 ∧ ∃ b_75 : Nat, sO s_71 a0 45 = some b_75 ∧ cl b_75 = 13 ∧ xA y_h2 s_71 b_75 28 r_54 (fun x_78 : Int32 => xS y_h2 s_71 b_72 18 x_27 x_78 (fun s_79 : St => ∃ b_80 : Nat, sO s_79 a0 46 = some b_80 ∧ cl b_80 = 12 ∧ xA y_h2 s_79 b_80 17 x_27 (fun x_83 : Int32 => wu_Mo_note y_h2 (fun (s_85 : St) => Post y_h2 s_85 d_h2 e_h2) s_79 a0 7 x_83)))) s_69 a0 x_27 x2h2 1)))) s_h2 a0 x_27 x2h2)))))
def wla_Mo_unwind_2 (mc ms : Nat) (Post : Ly → St → Nat → Nat → Prop) (a0 : Nat) (y_h2 : Ly) (s_h2 : St) (d_h2 e_h2 : Nat) (x2h2 : Int32) : Prop := ∃ (I : Ly → St → Nat → Nat → Int32 → Prop) (μ : Ly → St → Nat → Nat → Int32 → Nat), I y_h2 s_h2 d_h2 e_h2 x2h2 ∧ ∀ (u1 : Ly) (u2 : St) (u3 u4 : Nat) (t0 : Int32), I u1 u2 u3 u4 t0 → wba_Mo_unwind_2 mc ms Post (fun z1 z2 z3 z4 t0q => I z1 z2 z3 z4 t0q ∧ μ z1 z2 z3 z4 t0q < μ u1 u2 u3 u4 t0) a0 u1 u2 u3 u4 t0
def wa_Mo_unwind (mc ms : Nat) (y : Ly) (Post : Ly → St → Nat → Nat → Prop) (σ : St) (a0 : Nat) (v1 : Int32) : Prop := wla_Mo_unwind_2 mc ms Post a0 y σ 0 0 v1
set_option maxHeartbeats 4000000 in
set_option maxRecDepth 100000 in
theorem ca_Mo_unwind (l : Launch) (D : va_G) (g : Nat → ClassId) (ad : Nat → Nat) (mc ms : Nat) (y : Ly) (Post : Ly → St → Nat → Nat → Prop) (σ : St) (a0 : Nat) (v1 : Int32) (sz uz : Nat) (h_a0 : cl a0 = 14) (h : wa_Mo_unwind mc ms y Post σ a0 v1) : Met l y_Mo_unwind (mw y_Mo_unwind b_Mo_unwind 6 (none)) (ra_Mo_unwind mc ms) (PCu g D [] [.ref (ad a0), .int v1] sz uz (ws g ad y σ)) (va_Qv (fun (u : Ly × St × Nat × Nat) => Post u.1 u.2.1 u.2.2.1 u.2.2.2) (QU D (va_A (ws g ad y σ) sz) (fun u => ws g ad u.1 u.2.1) sz uz (fun u => u.2.2.1) (fun u => u.2.2.2)) (va_A (ws g ad y σ) sz)) mc ms (va_A (ws g ad y σ) sz) := by
  refine ofVu (by decide +kernel) (Nat.le_of_ble_eq_true rfl) ?_
  intro p e s m args below meth c A Q ls H locs G hsz hP hD hS hl hret
  subst hsz
  have hl : lv_has ls 6 [(0, .ref (ad a0)), (1, .int v1)] := hl
  have hd : 0 ≤ mc ∧ 0 ≤ ms := ⟨Nat.zero_le _, Nat.zero_le _⟩
  unfold wa_Mo_unwind at h
  refine lv_iload_n G.1 G.2.1 d_Mo_unwind_0 rfl (lv_at hl 1 rfl) ?_
  refine lv_istore_n (lv' := [(2, .int v1), (0, .ref (ad a0)), (1, .int v1)]) G.1 G.2.1 d_Mo_unwind_1 rfl hl (by decide) rfl (fun ls hl => ?_)
  unfold wla_Mo_unwind_2 at h
  obtain ⟨I_2, μ_2, hI_2, hB_2⟩ := h
  have L_2 : ∀ (n_2 : Nat) (y_h2 : Ly) (s_h2 : St) (d_h2 e_h2 : Nat) (x2h2 : Int32), μ_2 y_h2 s_h2 d_h2 e_h2 x2h2 < n_2 → I_2 y_h2 s_h2 d_h2 e_h2 x2h2 → ∀ (H : Heap) (locs : List Loc), va_P D CL (ws g ad y_h2 s_h2) H → va_D A (ws g ad y_h2 s_h2) → va_S A s.heap H locs → ∀ ls, lv_has ls 6 [(0, .ref (ad a0)), (2, .int x2h2)] → W p l e (ra_Mo_unwind mc ms) s m args below meth c H locs d_h2 e_h2 Q (F0 m 2 ls []) := by
    intro n_2
    induction n_2 with
    | zero => intro y_h2 s_h2 d_h2 e_h2 x2h2 hμ; exact absurd hμ (Nat.not_lt_zero _)
    | succ n_2 ih_2 =>
      intro y_h2 s_h2 d_h2 e_h2 x2h2 hμ_2 hJ H locs hP hD hS ls hl
      obtain ⟨K_2, hK_2, h⟩ : ∃ K : Ly → St → Nat → Nat → Int32 → Prop, (∀ z1 z2 z3 z4 (t0 : Int32), K z1 z2 z3 z4 t0 → I_2 z1 z2 z3 z4 t0 ∧ μ_2 z1 z2 z3 z4 t0 < μ_2 y_h2 s_h2 d_h2 e_h2 x2h2) ∧ wba_Mo_unwind_2 mc ms Post K a0 y_h2 s_h2 d_h2 e_h2 x2h2 := ⟨_, fun _ _ _ _ _ h => h, hB_2 y_h2 s_h2 d_h2 e_h2 x2h2 hJ⟩
      unfold wba_Mo_unwind_2 at h
      obtain ⟨hd, h⟩ := h
      refine lv_aload_n G.1 G.2.1 d_Mo_unwind_2 rfl (lv_at hl 0 rfl) ?_
      obtain ⟨b_1, e_2, c_3, h⟩ := h
      refine ugf (v := .ref (ad b_1)) G hP h_a0 iMo rfl 46 (by decide) rfl q3110 rfl (by show va_rf ((sO s_h2 a0 46).map ad) = _; rw [e_2]; rfl) d_Mo_unwind_3 ?_
      refine ugfN (v := .int (sV s_h2 b_1 16)) G hP c_3 iMr rfl 16 (by decide) rfl q3005 rfl rfl d_Mo_unwind_6 ?_
      refine lv_if_le (tgt := 211) G.1 G.2.1 d_Mo_unwind_9 (by decide) (fun c9 => ?_) (fun c9 => ?_)
      · skip
        have h := h.1 c9
        refine lv_aload_n G.1 G.2.1 d_Mo_unwind_211 rfl (lv_at hl 0 rfl) ?_
        refine ugf (v := .ref (ad b_1)) G hP h_a0 iMo rfl 46 (by decide) rfl q3110 rfl (by show va_rf ((sO s_h2 a0 46).map ad) = _; rw [e_2]; rfl) d_Mo_unwind_212 ?_
        refine lv_iconst (v := 2) G.1 G.2.1 d_Mo_unwind_215 (by decide) ?_
        refine upfN G hP hD hS h 0 putV c_3 iMr tMr tMr_ok nMr rfl (by decide) rfl q2987 rfl rfl fV rfl rfl d_Mo_unwind_216 (fun s_4 H locs h hP hD hS => ?_)
        refine lv_aload_n G.1 G.2.1 d_Mo_unwind_219 rfl (lv_at hl 0 rfl) ?_
        obtain ⟨b_5, e_6, c_7, h⟩ := h
        refine ugf (v := .ref (ad b_5)) G hP h_a0 iMo rfl 46 (by decide) rfl q3110 rfl (by show va_rf ((sO s_4 a0 46).map ad) = _; rw [e_6]; rfl) d_Mo_unwind_220 ?_
        refine lv_iconst (v := 0) G.1 G.2.1 d_Mo_unwind_223 (by decide) ?_
        refine W.eq (g2 := F0 m 224 ls [.int 0, .ref (ad b_5)]) rfl ?_
        refine upfN G hP hD hS h 10 putV c_7 iMr tMr tMr_ok nMr rfl (by decide) rfl q2997 rfl rfl fV rfl rfl d_Mo_unwind_224 (fun s_8 H locs h hP hD hS => ?_)
        refine lv_aload_n G.1 G.2.1 d_Mo_unwind_227 rfl (lv_at hl 0 rfl) ?_
        obtain ⟨b_9, e_10, c_11, h⟩ := h
        refine ugf (v := .ref (ad b_9)) G hP h_a0 iMo rfl 46 (by decide) rfl q3110 rfl (by show va_rf ((sO s_8 a0 46).map ad) = _; rw [e_10]; rfl) d_Mo_unwind_228 ?_
        refine lv_iconst (v := 0) G.1 G.2.1 d_Mo_unwind_231 (by decide) ?_
        refine upfN G hP hD hS h 11 putV c_11 iMr tMr tMr_ok nMr rfl (by decide) rfl q2998 rfl rfl fV rfl rfl d_Mo_unwind_232 (fun s_12 H locs h hP hD hS => ?_)
        refine lv_aload_n G.1 G.2.1 d_Mo_unwind_235 rfl (lv_at hl 0 rfl) ?_
        obtain ⟨b_13, e_14, c_15, h⟩ := h
        refine ugf (v := .ref (ad b_13)) G hP h_a0 iMo rfl 46 (by decide) rfl q3110 rfl (by show va_rf ((sO s_12 a0 46).map ad) = _; rw [e_14]; rfl) d_Mo_unwind_236 ?_
        refine lv_aload_n G.1 G.2.1 d_Mo_unwind_239 rfl (lv_at hl 0 rfl) ?_
        refine lv_iload_n G.1 G.2.1 d_Mo_unwind_240 rfl (lv_at hl 1 rfl) ?_
        refine ucVi (As := [.int x2h2]) (rest := [.ref (ad b_13)]) G hP hD hS (cu_Mo_classOfRef l D g ad y_h2 _ s_12 a0 x2h2 H.size h_a0 h) w9_Mo_classOfRef q3899 ⟨Nat.le_of_ble_eq_true rfl, Nat.le_of_ble_eq_true rfl⟩ rfl rfl h_a0 (q := (RMo, TMo, 131)) rfl rfl hl.1 rfl (Nat.le_of_ble_eq_true rfl) rfl hd d_Mo_unwind_241 (fun r_16 s_17 H locs h hP hD hS => ?_)
        refine upfN G hP hD hS h 12 putV c_15 iMr tMr tMr_ok nMr rfl (by decide) rfl q2999 rfl rfl fV rfl rfl d_Mo_unwind_244 (fun s_18 H locs h hP hD hS => ?_)
        refine lv_aload_n G.1 G.2.1 d_Mo_unwind_247 rfl (lv_at hl 0 rfl) ?_
        refine W.eq (g2 := F0 m 248 ls [.ref (ad a0)]) rfl ?_
        obtain ⟨b_19, e_20, c_21, h⟩ := h
        refine ugf (v := .ref (ad b_19)) G hP h_a0 iMo rfl 46 (by decide) rfl q3110 rfl (by show va_rf ((sO s_18 a0 46).map ad) = _; rw [e_20]; rfl) d_Mo_unwind_248 ?_
        refine lv_iload_n G.1 G.2.1 d_Mo_unwind_251 rfl (lv_at hl 1 rfl) ?_
        refine lv_sipush (v := 1001) G.1 G.2.1 d_Mo_unwind_252 (by decide) ?_
        have J_275 : ∀ (y_j275 : Ly) (s_j275 : St) (d_j275 e_j275 : Nat) (z0j275 : Nat) (z1j275 : Int32) (H : Heap) (locs : List Loc), wja_Mo_unwind_275 mc ms Post a0 y_j275 s_j275 d_j275 e_j275 z0j275 z1j275 → va_P D CL (ws g ad y_j275 s_j275) H → va_D A (ws g ad y_j275 s_j275) → va_S A s.heap H locs → ∀ ls, lv_has ls 6 [] → W p l e (ra_Mo_unwind mc ms) s m args below meth c H locs d_j275 e_j275 Q (F0 m 275 ls [.int z1j275, .ref (ad z0j275)]) := by
          intro y_j275 s_j275 d_j275 e_j275 z0j275 z1j275 H locs h hP hD hS ls hl
          unfold wja_Mo_unwind_275 at h
          obtain ⟨hd, h⟩ := h
          obtain ⟨c_z0j275, h⟩ := h
          refine upfN G hP hD hS h 13 putV c_z0j275 iMr tMr tMr_ok nMr rfl (by decide) rfl q3000 rfl rfl fV rfl rfl d_Mo_unwind_275 (fun s_22 H locs h hP hD hS => ?_)
          exact hret (y_j275, s_22, d_j275, e_j275) _ _ _ _ _ ls h hP hD hS (Nat.le_refl _) (Nat.le_refl _) hd.1 hd.2 d_Mo_unwind_278
        refine lv_icmp_lt (tgt := 274) G.1 G.2.1 d_Mo_unwind_255 (by decide) (fun c255 => ?_) (fun c255 => ?_)
        · skip
          have h := h.1 c255
          refine lv_iconst (v := 0) G.1 G.2.1 d_Mo_unwind_274 (by decide) ?_
          exact J_275 y_h2 s_18 d_h2 e_h2 b_19 0 H locs h hP hD hS ls (lv_sub hl [] rfl)
        · skip
          have h := h.2 c255
          refine lv_aload_n G.1 G.2.1 d_Mo_unwind_258 rfl (lv_at hl 0 rfl) ?_
          obtain ⟨b_23, e_24, c_25, h⟩ := h
          refine ugf (v := .ref (ad b_23)) G hP h_a0 iMo rfl 45 (by decide) rfl q3109 rfl (by show va_rf ((sO s_18 a0 45).map ad) = _; rw [e_24]; rfl) d_Mo_unwind_259 ?_
          refine ugfN (v := .ref (yP y_h2 b_23 54)) G hP c_25 iMw rfl 54 (by decide) rfl q2806 rfl rfl d_Mo_unwind_262 ?_
          refine lv_iload_n G.1 G.2.1 d_Mo_unwind_265 rfl (lv_at hl 1 rfl) ?_
          refine lv_sipush (v := 1001) G.1 G.2.1 d_Mo_unwind_266 (by decide) ?_
          refine lv_isub G.1 G.2.1 d_Mo_unwind_269 ?_
          refine uiald G hP (kdp c_25 rfl) (typ c_25 rfl) h d_Mo_unwind_270 (fun x_26 h => ?_)
          refine lv_goto (tgt := 275) G.1 G.2.1 d_Mo_unwind_271 (by decide) ?_
          exact J_275 y_h2 s_18 d_h2 e_h2 b_19 x_26 H locs h hP hD hS ls (lv_sub hl [] rfl)
      · skip
        have h := h.2 c9
        refine lv_aload_n G.1 G.2.1 d_Mo_unwind_12 rfl (lv_at hl 0 rfl) ?_
        refine ugf (v := .ref (ad b_1)) G hP h_a0 iMo rfl 46 (by decide) rfl q3110 rfl (by show va_rf ((sO s_h2 a0 46).map ad) = _; rw [e_2]; rfl) d_Mo_unwind_13 ?_
        refine ugfN (v := .int (sV s_h2 b_1 16)) G hP c_3 iMr rfl 16 (by decide) rfl q3005 rfl rfl d_Mo_unwind_16 ?_
        refine lv_iconst (v := 1) G.1 G.2.1 d_Mo_unwind_19 (by decide) ?_
        refine lv_isub G.1 G.2.1 d_Mo_unwind_20 ?_
        refine lv_istore_n (lv' := [(3, .int ((sV s_h2 b_1 16) - 1)), (0, .ref (ad a0)), (2, .int x2h2)]) G.1 G.2.1 d_Mo_unwind_21 rfl hl (by decide) rfl (fun ls hl => ?_)
        refine lv_aload_n G.1 G.2.1 d_Mo_unwind_22 rfl (lv_at hl 1 rfl) ?_
        refine W.eq (g2 := F0 m 23 ls [.ref (ad a0)]) rfl ?_
        refine ugf (v := .ref (ad b_1)) G hP h_a0 iMo rfl 46 (by decide) rfl q3110 rfl (by show va_rf ((sO s_h2 a0 46).map ad) = _; rw [e_2]; rfl) d_Mo_unwind_23 ?_
        refine ugfN (v := .ref (yP y_h2 b_1 14)) G hP c_3 iMr rfl 14 (by decide) rfl q3002 rfl rfl d_Mo_unwind_26 ?_
        refine lv_iload_n G.1 G.2.1 d_Mo_unwind_29 rfl (lv_at hl 0 rfl) ?_
        refine uiald G hP (kdp c_3 rfl) (typ c_3 rfl) h d_Mo_unwind_30 (fun x_27 h => ?_)
        refine lv_istore (lv' := [(4, .int x_27), (3, .int ((sV s_h2 b_1 16) - 1)), (0, .ref (ad a0)), (2, .int x2h2)]) G.1 G.2.1 d_Mo_unwind_31 hl (by decide) rfl (fun ls hl => ?_)
        refine lv_iload G.1 G.2.1 d_Mo_unwind_33 (lv_at hl 0 rfl) ?_
        have J_195 : ∀ (y_j195 : Ly) (s_j195 : St) (d_j195 e_j195 : Nat) (x2j195 : Int32) (H : Heap) (locs : List Loc), wja_Mo_unwind_195 mc ms Post K_2 a0 y_j195 s_j195 d_j195 e_j195 x2j195 → va_P D CL (ws g ad y_j195 s_j195) H → va_D A (ws g ad y_j195 s_j195) → va_S A s.heap H locs → ∀ ls, lv_has ls 6 [(0, .ref (ad a0)), (2, .int x2j195)] → W p l e (ra_Mo_unwind mc ms) s m args below meth c H locs d_j195 e_j195 Q (F0 m 195 ls []) := by
          intro y_j195 s_j195 d_j195 e_j195 x2j195 H locs h hP hD hS ls hl
          unfold wja_Mo_unwind_195 at h
          obtain ⟨hd, h⟩ := h
          refine lv_aload_n G.1 G.2.1 d_Mo_unwind_195 rfl (lv_at hl 0 rfl) ?_
          obtain ⟨b_28, e_29, c_30, h⟩ := h
          refine ugf (v := .ref (ad b_28)) G hP h_a0 iMo rfl 46 (by decide) rfl q3110 rfl (by show va_rf ((sO s_j195 a0 46).map ad) = _; rw [e_29]; rfl) d_Mo_unwind_196 ?_
          refine lv_dup G.1 G.2.1 d_Mo_unwind_199 rfl ?_
          refine ugfN (v := .int (sV s_j195 b_28 16)) G hP c_30 iMr rfl 16 (by decide) rfl q3005 rfl rfl d_Mo_unwind_200 ?_
          refine lv_iconst (v := 1) G.1 G.2.1 d_Mo_unwind_203 (by decide) ?_
          refine lv_isub G.1 G.2.1 d_Mo_unwind_204 ?_
          refine upfN G hP hD hS h 16 putV c_30 iMr tMr tMr_ok nMr rfl (by decide) rfl q3005 rfl rfl fV rfl rfl d_Mo_unwind_205 (fun s_31 H locs h hP hD hS => ?_)
          refine lv_goto (tgt := 2) G.1 G.2.1 d_Mo_unwind_208 (by decide) ?_
          have h := hK_2 y_j195 s_31 d_j195 e_j195 x2j195 h
          exact ih_2 y_j195 s_31 d_j195 e_j195 x2j195 (Nat.lt_of_lt_of_le h.2 (Nat.le_of_lt_succ hμ_2)) h.1 H locs hP hD hS ls (lv_sub hl [0, 1] rfl)
        refine lv_if_lt (tgt := 139) G.1 G.2.1 d_Mo_unwind_35 (by decide) (fun c35 => ?_) (fun c35 => ?_)
        · skip
          have h := h.1 c35
          refine lv_aload_n G.1 G.2.1 d_Mo_unwind_139 rfl (lv_at hl 2 rfl) ?_
          obtain ⟨b_32, e_33, c_34, h⟩ := h
          refine ugf (v := .ref (ad b_32)) G hP h_a0 iMo rfl 45 (by decide) rfl q3109 rfl (by show va_rf ((sO s_h2 a0 45).map ad) = _; rw [e_33]; rfl) d_Mo_unwind_140 ?_
          refine ugfN (v := .ref (yP y_h2 b_32 10)) G hP c_34 iMw rfl 10 (by decide) rfl q2724 rfl rfl d_Mo_unwind_143 ?_
          refine lv_iconst (v := (-1)) G.1 G.2.1 d_Mo_unwind_146 (by decide) ?_
          refine lv_iload G.1 G.2.1 d_Mo_unwind_147 (lv_at hl 0 rfl) ?_
          refine W.eq (g2 := F0 m 149 ls [.int x_27, .int (-1), .ref (yP y_h2 b_32 10)]) rfl ?_
          refine lv_isub G.1 G.2.1 d_Mo_unwind_149 ?_
          refine lv_iconst (v := 3) G.1 G.2.1 d_Mo_unwind_150 (by decide) ?_
          refine uiast G hP hD hS (kdp c_34 rfl) (typ c_34 rfl) h d_Mo_unwind_151 (fun s_35 H locs h hP hD hS => ?_)
          refine lv_aload_n G.1 G.2.1 d_Mo_unwind_152 rfl (lv_at hl 2 rfl) ?_
          refine lv_bipush (v := 6) G.1 G.2.1 d_Mo_unwind_153 (by decide) ?_
          refine lv_iload G.1 G.2.1 d_Mo_unwind_155 (lv_at hl 0 rfl) ?_
          refine ucVv (As := [.int 6, .int x_27]) (rest := []) G hP hD hS (cu_Mo_note l D g ad y_h2 _ s_35 a0 6 x_27 H.size h_a0 h) w9_Mo_note q3879 ⟨Nat.le_of_ble_eq_true rfl, Nat.le_of_ble_eq_true rfl⟩ rfl rfl h_a0 (q := (RMo, TMo, 131)) rfl rfl hl.1 rfl (Nat.le_of_ble_eq_true rfl) rfl hd d_Mo_unwind_157 (fun s_37 H locs h hP hD hS => ?_)
          refine lv_aload_n G.1 G.2.1 d_Mo_unwind_160 rfl (lv_at hl 2 rfl) ?_
          obtain ⟨b_38, e_39, c_40, h⟩ := h
          refine ugf (v := .ref (ad b_38)) G hP h_a0 iMo rfl 46 (by decide) rfl q3110 rfl (by show va_rf ((sO s_37 a0 46).map ad) = _; rw [e_39]; rfl) d_Mo_unwind_161 ?_
          refine ugfN (v := .ref (yP y_h2 b_38 15)) G hP c_40 iMr rfl 15 (by decide) rfl q3004 rfl rfl d_Mo_unwind_164 ?_
          refine lv_iload_n G.1 G.2.1 d_Mo_unwind_167 rfl (lv_at hl 1 rfl) ?_
          refine uiald G hP (kdp c_40 rfl) (typ c_40 rfl) h d_Mo_unwind_168 (fun x_41 h => ?_)
          refine W.eq (g2 := F0 m 169 ls [.int x_41]) rfl ?_
          refine lv_iconst (v := 2) G.1 G.2.1 d_Mo_unwind_169 (by decide) ?_
          refine lv_icmp_ne (tgt := 195) G.1 G.2.1 d_Mo_unwind_170 (by decide) (fun c170 => ?_) (fun c170 => ?_)
          · skip
            have h := h.1 c170
            exact J_195 y_h2 s_37 d_h2 e_h2 x2h2 H locs h hP hD hS ls (lv_sub hl [2, 3] rfl)
          · skip
            have h := h.2 c170
            refine lv_aload_n G.1 G.2.1 d_Mo_unwind_173 rfl (lv_at hl 2 rfl) ?_
            refine lv_aload_n G.1 G.2.1 d_Mo_unwind_174 rfl (lv_at hl 2 rfl) ?_
            refine lv_iload_n G.1 G.2.1 d_Mo_unwind_175 rfl (lv_at hl 3 rfl) ?_
            refine ucVi (As := [.int x2h2]) (rest := [.ref (ad a0)]) G hP hD hS (cu_Mo_classOfRef l D g ad y_h2 _ s_37 a0 x2h2 H.size h_a0 h) w9_Mo_classOfRef q3899 ⟨Nat.le_of_ble_eq_true rfl, Nat.le_of_ble_eq_true rfl⟩ rfl rfl h_a0 (q := (RMo, TMo, 131)) rfl rfl hl.1 rfl (Nat.le_of_ble_eq_true rfl) rfl hd d_Mo_unwind_176 (fun r_42 s_43 H locs h hP hD hS => ?_)
            refine lv_bipush (v := 10) G.1 G.2.1 d_Mo_unwind_179 (by decide) ?_
            refine ucVi (As := [.int r_42, .int 10]) (rest := []) G hP hD hS (cu_Mo_isBelow l D g ad y_h2 _ s_43 a0 r_42 10 H.size h_a0 h) w9_Mo_isBelow q3903 ⟨Nat.le_of_ble_eq_true rfl, Nat.le_of_ble_eq_true rfl⟩ rfl rfl h_a0 (q := (RMo, TMo, 131)) rfl rfl hl.1 rfl (Nat.le_of_ble_eq_true rfl) rfl hd d_Mo_unwind_181 (fun r_44 s_45 H locs h hP hD hS => ?_)
            refine lv_if_ne (tgt := 195) G.1 G.2.1 d_Mo_unwind_184 (by decide) (fun c184 => ?_) (fun c184 => ?_)
            · skip
              have h := h.1 c184
              exact J_195 y_h2 s_45 d_h2 e_h2 x2h2 H locs h hP hD hS ls (lv_sub hl [2, 3] rfl)
            · skip
              have h := h.2 c184
              refine lv_aload_n G.1 G.2.1 d_Mo_unwind_187 rfl (lv_at hl 2 rfl) ?_
              refine lv_bipush (v := 20) G.1 G.2.1 d_Mo_unwind_188 (by decide) ?_
              refine lv_iconst (v := 0) G.1 G.2.1 d_Mo_unwind_190 (by decide) ?_
              refine W.eq (g2 := F0 m 191 ls [.int 0, .int 20, .ref (ad a0)]) rfl ?_
              obtain ⟨mc_51, ms_52, hr_53, h⟩ := h
              refine uaVi (As := [.int 20, .int 0]) (rest := []) G hP hD hS (ca_Mo_newFault l D g ad mc_51 ms_52 y_h2 _ s_45 a0 20 0 H.size (us H) h_a0 h) w9_Mo_newFault q3887 ⟨Nat.le_of_ble_eq_true rfl, Nat.le_of_ble_eq_true rfl⟩ rfl rfl h_a0 (q := (RMo, TMo, 131)) rfl rfl hl.1 rfl (Nat.le_of_ble_eq_true rfl) rfl hr_53 d_Mo_unwind_191 (fun r_46 y_48 s_47 d_49 e_50 H locs h hP hD hS => ?_)
              have hl := lv_sub (l' := [(0, .ref (ad a0))]) hl [2] rfl
              obtain ⟨hd, h⟩ := h
              refine lv_istore_n (lv' := [(2, .int r_46), (0, .ref (ad a0))]) G.1 G.2.1 d_Mo_unwind_194 rfl hl (by decide) rfl (fun ls hl => ?_)
              exact J_195 y_48 s_47 (d_h2 + d_49) (e_h2 + e_50) r_46 H locs h hP hD hS ls (lv_sub hl [1, 0] rfl)
        · skip
          have h := h.2 c35
          refine lv_aload_n G.1 G.2.1 d_Mo_unwind_38 rfl (lv_at hl 2 rfl) ?_
          refine lv_iload G.1 G.2.1 d_Mo_unwind_39 (lv_at hl 0 rfl) ?_
          refine lv_iload_n G.1 G.2.1 d_Mo_unwind_41 rfl (lv_at hl 3 rfl) ?_
          refine ucVi (As := [.int x_27, .int x2h2]) (rest := []) G hP hD hS (cu_Mo_handlerOf l D g ad y_h2 _ s_h2 a0 x_27 x2h2 H.size h_a0 h) w9_Mo_handlerOf q3895 ⟨Nat.le_of_ble_eq_true rfl, Nat.le_of_ble_eq_true rfl⟩ rfl rfl h_a0 (q := (RMo, TMo, 131)) rfl rfl hl.1 rfl (Nat.le_of_ble_eq_true rfl) rfl hd d_Mo_unwind_42 (fun r_54 s_55 H locs h hP hD hS => ?_)
          refine lv_istore (lv' := [(5, .int r_54), (4, .int x_27), (3, .int ((sV s_h2 b_1 16) - 1)), (0, .ref (ad a0)), (2, .int x2h2)]) G.1 G.2.1 d_Mo_unwind_45 hl (by decide) rfl (fun ls hl => ?_)
          refine W.eq (g2 := F0 m 47 ls []) rfl ?_
          refine lv_iload G.1 G.2.1 d_Mo_unwind_47 (lv_at hl 0 rfl) ?_
          refine lv_if_lt (tgt := 108) G.1 G.2.1 d_Mo_unwind_49 (by decide) (fun c49 => ?_) (fun c49 => ?_)
          · skip
            have h := h.1 c49
            refine lv_aload_n G.1 G.2.1 d_Mo_unwind_108 rfl (lv_at hl 3 rfl) ?_
            obtain ⟨b_56, e_57, c_58, h⟩ := h
            refine ugf (v := .ref (ad b_56)) G hP h_a0 iMo rfl 46 (by decide) rfl q3110 rfl (by show va_rf ((sO s_55 a0 46).map ad) = _; rw [e_57]; rfl) d_Mo_unwind_109 ?_
            refine lv_dup G.1 G.2.1 d_Mo_unwind_112 rfl ?_
            refine ugfN (v := .int (sV s_55 b_56 22)) G hP c_58 iMr rfl 22 (by decide) rfl q3016 rfl rfl d_Mo_unwind_113 ?_
            refine lv_iconst (v := 1) G.1 G.2.1 d_Mo_unwind_116 (by decide) ?_
            refine lv_isub G.1 G.2.1 d_Mo_unwind_117 ?_
            refine upfN G hP hD hS h 22 putV c_58 iMr tMr tMr_ok nMr rfl (by decide) rfl q3016 rfl rfl fV rfl rfl d_Mo_unwind_118 (fun s_59 H locs h hP hD hS => ?_)
            refine lv_aload_n G.1 G.2.1 d_Mo_unwind_121 rfl (lv_at hl 3 rfl) ?_
            refine lv_iconst (v := 3) G.1 G.2.1 d_Mo_unwind_122 (by decide) ?_
            refine lv_aload_n G.1 G.2.1 d_Mo_unwind_123 rfl (lv_at hl 3 rfl) ?_
            refine W.eq (g2 := F0 m 124 ls [.ref (ad a0), .int 3, .ref (ad a0)]) rfl ?_
            obtain ⟨b_60, e_61, c_62, h⟩ := h
            refine ugf (v := .ref (ad b_60)) G hP h_a0 iMo rfl 46 (by decide) rfl q3110 rfl (by show va_rf ((sO s_59 a0 46).map ad) = _; rw [e_61]; rfl) d_Mo_unwind_124 ?_
            refine ugfN (v := .ref (yP y_h2 b_60 17)) G hP c_62 iMr rfl 17 (by decide) rfl q3007 rfl rfl d_Mo_unwind_127 ?_
            refine lv_iload G.1 G.2.1 d_Mo_unwind_130 (lv_at hl 1 rfl) ?_
            refine uiald G hP (kdp c_62 rfl) (typ c_62 rfl) h d_Mo_unwind_132 (fun x_63 h => ?_)
            refine ucVv (As := [.int 3, .int x_63]) (rest := []) G hP hD hS (cu_Mo_note l D g ad y_h2 _ s_59 a0 3 x_63 H.size h_a0 h) w9_Mo_note q3879 ⟨Nat.le_of_ble_eq_true rfl, Nat.le_of_ble_eq_true rfl⟩ rfl rfl h_a0 (q := (RMo, TMo, 131)) rfl rfl hl.1 rfl (Nat.le_of_ble_eq_true rfl) rfl hd d_Mo_unwind_133 (fun s_65 H locs h hP hD hS => ?_)
            refine lv_goto (tgt := 195) G.1 G.2.1 d_Mo_unwind_136 (by decide) ?_
            exact J_195 y_h2 s_65 d_h2 e_h2 x2h2 H locs h hP hD hS ls (lv_sub hl [3, 4] rfl)
          · skip
            have h := h.2 c49
            refine lv_aload_n G.1 G.2.1 d_Mo_unwind_52 rfl (lv_at hl 3 rfl) ?_
            obtain ⟨b_66, e_67, c_68, h⟩ := h
            refine ugf (v := .ref (ad b_66)) G hP h_a0 iMo rfl 46 (by decide) rfl q3110 rfl (by show va_rf ((sO s_55 a0 46).map ad) = _; rw [e_67]; rfl) d_Mo_unwind_53 ?_
            refine ugfN (v := .ref (yP y_h2 b_66 19)) G hP c_68 iMr rfl 19 (by decide) rfl q3011 rfl rfl d_Mo_unwind_56 ?_
            refine lv_iload G.1 G.2.1 d_Mo_unwind_59 (lv_at hl 1 rfl) ?_
            refine lv_iconst (v := 0) G.1 G.2.1 d_Mo_unwind_61 (by decide) ?_
            refine uiast G hP hD hS (kdp c_68 rfl) (typ c_68 rfl) h d_Mo_unwind_62 (fun s_69 H locs h hP hD hS => ?_)
            refine lv_aload_n G.1 G.2.1 d_Mo_unwind_63 rfl (lv_at hl 3 rfl) ?_
            refine lv_iload G.1 G.2.1 d_Mo_unwind_64 (lv_at hl 1 rfl) ?_
            refine lv_iload_n G.1 G.2.1 d_Mo_unwind_66 rfl (lv_at hl 4 rfl) ?_
            refine lv_iconst (v := 1) G.1 G.2.1 d_Mo_unwind_67 (by decide) ?_
            refine W.eq (g2 := F0 m 68 ls [.int 1, .int x2h2, .int x_27, .ref (ad a0)]) rfl ?_
            refine ucVv (As := [.int x_27, .int x2h2, .int 1]) (rest := []) G hP hD hS (cu_Mo_push l D g ad y_h2 _ s_69 a0 x_27 x2h2 1 H.size h_a0 h) w9_Mo_push q3907 ⟨Nat.le_of_ble_eq_true rfl, Nat.le_of_ble_eq_true rfl⟩ rfl rfl h_a0 (q := (RMo, TMo, 131)) rfl rfl hl.1 rfl (Nat.le_of_ble_eq_true rfl) rfl hd d_Mo_unwind_68 (fun s_71 H locs h hP hD hS => ?_)
            refine lv_aload_n G.1 G.2.1 d_Mo_unwind_71 rfl (lv_at hl 3 rfl) ?_
            obtain ⟨b_72, e_73, c_74, h⟩ := h
            refine ugf (v := .ref (ad b_72)) G hP h_a0 iMo rfl 46 (by decide) rfl q3110 rfl (by show va_rf ((sO s_71 a0 46).map ad) = _; rw [e_73]; rfl) d_Mo_unwind_72 ?_
            refine ugfN (v := .ref (yP y_h2 b_72 18)) G hP c_74 iMr rfl 18 (by decide) rfl q3009 rfl rfl d_Mo_unwind_75 ?_
            refine lv_iload G.1 G.2.1 d_Mo_unwind_78 (lv_at hl 1 rfl) ?_
            refine lv_aload_n G.1 G.2.1 d_Mo_unwind_80 rfl (lv_at hl 3 rfl) ?_
            obtain ⟨b_75, e_76, c_77, h⟩ := h
            refine ugf (v := .ref (ad b_75)) G hP h_a0 iMo rfl 45 (by decide) rfl q3109 rfl (by show va_rf ((sO s_71 a0 45).map ad) = _; rw [e_76]; rfl) d_Mo_unwind_81 ?_
            refine ugfN (v := .ref (yP y_h2 b_75 28)) G hP c_77 iMw rfl 28 (by decide) rfl q2760 rfl rfl d_Mo_unwind_84 ?_
            refine lv_iload G.1 G.2.1 d_Mo_unwind_87 (lv_at hl 0 rfl) ?_
            refine uiald G hP (kdp c_77 rfl) (typ c_77 rfl) h d_Mo_unwind_89 (fun x_78 h => ?_)
            refine uiast G hP hD hS (kdp c_74 rfl) (typ c_74 rfl) h d_Mo_unwind_90 (fun s_79 H locs h hP hD hS => ?_)
            refine lv_aload_n G.1 G.2.1 d_Mo_unwind_91 rfl (lv_at hl 3 rfl) ?_
            refine W.eq (g2 := F0 m 92 ls [.ref (ad a0)]) rfl ?_
            refine lv_bipush (v := 7) G.1 G.2.1 d_Mo_unwind_92 (by decide) ?_
            refine lv_aload_n G.1 G.2.1 d_Mo_unwind_94 rfl (lv_at hl 3 rfl) ?_
            obtain ⟨b_80, e_81, c_82, h⟩ := h
            refine ugf (v := .ref (ad b_80)) G hP h_a0 iMo rfl 46 (by decide) rfl q3110 rfl (by show va_rf ((sO s_79 a0 46).map ad) = _; rw [e_81]; rfl) d_Mo_unwind_95 ?_
            refine ugfN (v := .ref (yP y_h2 b_80 17)) G hP c_82 iMr rfl 17 (by decide) rfl q3007 rfl rfl d_Mo_unwind_98 ?_
            refine lv_iload G.1 G.2.1 d_Mo_unwind_101 (lv_at hl 1 rfl) ?_
            refine uiald G hP (kdp c_82 rfl) (typ c_82 rfl) h d_Mo_unwind_103 (fun x_83 h => ?_)
            refine ucVv (As := [.int 7, .int x_83]) (rest := []) G hP hD hS (cu_Mo_note l D g ad y_h2 _ s_79 a0 7 x_83 H.size h_a0 h) w9_Mo_note q3879 ⟨Nat.le_of_ble_eq_true rfl, Nat.le_of_ble_eq_true rfl⟩ rfl rfl h_a0 (q := (RMo, TMo, 131)) rfl rfl hl.1 rfl (Nat.le_of_ble_eq_true rfl) rfl hd d_Mo_unwind_104 (fun s_85 H locs h hP hD hS => ?_)
            exact hret (y_h2, s_85, d_h2, e_h2) _ _ _ _ _ ls h hP hD hS (Nat.le_refl _) (Nat.le_refl _) hd.1 hd.2 d_Mo_unwind_107
  exact L_2 _ y σ 0 0 v1 (Nat.lt_succ_self _) hI_2 H locs hP hD hS ls (lv_sub hl [1, 0] rfl)
theorem q3891 : Cond.methodLink "ClassWorksModel" 957 y_Mo_unwind ∈ lw_ok := lw_okmem (List.mem_of_getElem? (i := 3891) (by decide +kernel)) rfl
theorem q3894 : Cond.code y_Mo_unwind b_Mo_unwind 6 (none) ∈ lw_ok := lw_okmem (List.mem_of_getElem? (i := 3894) (by decide +kernel)) rfl
theorem q3893 : Cond.instanceMethod y_Mo_unwind ∈ lw_ok := lw_okmem (List.mem_of_getElem? (i := 3893) (by decide +kernel)) rfl
theorem q262 : Cond.selects y_Mo_unwind.cls y_Mo_unwind y_Mo_unwind ∈ lw_ok := lw_okmem (List.mem_of_getElem? (i := 262) (by decide +kernel)) rfl
theorem w9_Mo_unwind : CWv y_Mo_unwind b_Mo_unwind 6 (none) 1 ∧ Cond.instanceMethod y_Mo_unwind ∈ lw_ok ∧ Cond.selects y_Mo_unwind.cls y_Mo_unwind y_Mo_unwind ∈ lw_ok := ⟨⟨q3894, q348, by decide +kernel, by decide +kernel, by decide +kernel⟩, q3893, q262⟩
def y_Mo_throwNew : MethodName := ⟨"ClassWorksModel", "throwNew", "(II)V"⟩
abbrev b_Mo_throwNew : ByteArray := prog_14_method_98_code
theorem d_Mo_throwNew_0 : decode b_Mo_throwNew 0 = .ok (.aload_n 0, 1) := by decide +kernel
theorem d_Mo_throwNew_1 : decode b_Mo_throwNew 1 = .ok (.aload_n 0, 1) := by decide +kernel
theorem d_Mo_throwNew_2 : decode b_Mo_throwNew 2 = .ok (.iload_n 2, 1) := by decide +kernel
theorem d_Mo_throwNew_3 : decode b_Mo_throwNew 3 = .ok (.iload_n 1, 1) := by decide +kernel
theorem d_Mo_throwNew_4 : decode b_Mo_throwNew 4 = .ok (.invokevirtual 954, 3) := by decide +kernel
theorem d_Mo_throwNew_7 : decode b_Mo_throwNew 7 = .ok (.invokevirtual 957, 3) := by decide +kernel
theorem d_Mo_throwNew_10 : decode b_Mo_throwNew 10 = .ok (.return_, 1) := by decide +kernel
abbrev ra_Mo_throwNew (mc ms : Nat) : Room := { frames := 7, cells := mc, slots := ms, locals := 198 }
def wa_Mo_throwNew (mc ms : Nat) (y : Ly) (Post : Ly → St → Nat → Nat → Prop) (σ : St) (a0 : Nat) (v1 : Int32) (v2 : Int32) : Prop := ∃ mc_6 ms_7 : Nat, (0 + mc_6 ≤ mc ∧ 0 + ms_7 ≤ ms) ∧ wa_Mo_newFault mc_6 ms_7 y (fun (y_3 : Ly) (s_2 : St) (r_1 : Int32) (d_4 e_5 : Nat) => (0 + d_4 ≤ mc ∧ 0 + e_5 ≤ ms) ∧ ∃ mc_14 ms_15 : Nat, (0 + d_4 + mc_14 ≤ mc ∧ 0 + e_5 + ms_15 ≤ ms) ∧ wa_Mo_unwind mc_14 ms_15 y_3 (fun (y_11 : Ly) (s_10 : St) (d_12 e_13 : Nat) => (0 + d_4 + d_12 ≤ mc ∧ 0 + e_5 + e_13 ≤ ms) ∧ Post y_11 s_10 (0 + d_4 + d_12) (0 + e_5 + e_13)) s_2 a0 r_1) σ a0 v2 v1
set_option maxHeartbeats 4000000 in
set_option maxRecDepth 100000 in
theorem ca_Mo_throwNew (l : Launch) (D : va_G) (g : Nat → ClassId) (ad : Nat → Nat) (mc ms : Nat) (y : Ly) (Post : Ly → St → Nat → Nat → Prop) (σ : St) (a0 : Nat) (v1 : Int32) (v2 : Int32) (sz uz : Nat) (h_a0 : cl a0 = 14) (h : wa_Mo_throwNew mc ms y Post σ a0 v1 v2) : Met l y_Mo_throwNew (mw y_Mo_throwNew b_Mo_throwNew 3 (none)) (ra_Mo_throwNew mc ms) (PCu g D [] [.ref (ad a0), .int v1, .int v2] sz uz (ws g ad y σ)) (va_Qv (fun (u : Ly × St × Nat × Nat) => Post u.1 u.2.1 u.2.2.1 u.2.2.2) (QU D (va_A (ws g ad y σ) sz) (fun u => ws g ad u.1 u.2.1) sz uz (fun u => u.2.2.1) (fun u => u.2.2.2)) (va_A (ws g ad y σ) sz)) mc ms (va_A (ws g ad y σ) sz) := by
  refine ofVu (by decide +kernel) (Nat.le_of_ble_eq_true rfl) ?_
  intro p e s m args below meth c A Q ls H locs G hsz hP hD hS hl hret
  subst hsz
  have hl : lv_has ls 3 [(0, .ref (ad a0)), (1, .int v1), (2, .int v2)] := hl
  have hd : 0 ≤ mc ∧ 0 ≤ ms := ⟨Nat.zero_le _, Nat.zero_le _⟩
  unfold wa_Mo_throwNew at h
  refine lv_aload_n G.1 G.2.1 d_Mo_throwNew_0 rfl (lv_at hl 0 rfl) ?_
  refine lv_aload_n G.1 G.2.1 d_Mo_throwNew_1 rfl (lv_at hl 0 rfl) ?_
  refine lv_iload_n G.1 G.2.1 d_Mo_throwNew_2 rfl (lv_at hl 2 rfl) ?_
  refine lv_iload_n G.1 G.2.1 d_Mo_throwNew_3 rfl (lv_at hl 1 rfl) ?_
  obtain ⟨mc_6, ms_7, hr_8, h⟩ := h
  refine uaVi (As := [.int v2, .int v1]) (rest := [.ref (ad a0)]) G hP hD hS (ca_Mo_newFault l D g ad mc_6 ms_7 y _ σ a0 v2 v1 H.size (us H) h_a0 h) w9_Mo_newFault q3887 ⟨Nat.le_of_ble_eq_true rfl, Nat.le_of_ble_eq_true rfl⟩ rfl rfl h_a0 (q := (RMo, TMo, 131)) rfl rfl hl.1 rfl (Nat.le_of_ble_eq_true rfl) rfl hr_8 d_Mo_throwNew_4 (fun r_1 y_3 s_2 d_4 e_5 H locs h hP hD hS => ?_)
  have hl := lv_sub (l' := []) hl [] rfl
  obtain ⟨hd, h⟩ := h
  obtain ⟨mc_14, ms_15, hr_16, h⟩ := h
  refine uaVv (As := [.int r_1]) (rest := []) G hP hD hS (ca_Mo_unwind l D g ad mc_14 ms_15 y_3 _ s_2 a0 r_1 H.size (us H) h_a0 h) w9_Mo_unwind q3891 ⟨Nat.le_of_ble_eq_true rfl, Nat.le_of_ble_eq_true rfl⟩ rfl rfl h_a0 (q := (RMo, TMo, 131)) rfl rfl hl.1 rfl (Nat.le_of_ble_eq_true rfl) rfl hr_16 d_Mo_throwNew_7 (fun y_11 s_10 d_12 e_13 H locs h hP hD hS => ?_)
  obtain ⟨hd, h⟩ := h
  exact hret (y_11, s_10, 0 + d_4 + d_12, 0 + e_5 + e_13) _ _ _ _ _ ls h hP hD hS (Nat.le_refl _) (Nat.le_refl _) hd.1 hd.2 d_Mo_throwNew_10
theorem q3943 : Cond.methodLink "ClassWorksModel" 1032 y_Mo_tally ∈ lw_ok := lw_okmem (List.mem_of_getElem? (i := 3943) (by decide +kernel)) rfl
theorem q3946 : Cond.code y_Mo_tally b_Mo_tally 2 (none) ∈ lw_ok := lw_okmem (List.mem_of_getElem? (i := 3946) (by decide +kernel)) rfl
theorem q3945 : Cond.instanceMethod y_Mo_tally ∈ lw_ok := lw_okmem (List.mem_of_getElem? (i := 3945) (by decide +kernel)) rfl
theorem q275 : Cond.selects y_Mo_tally.cls y_Mo_tally y_Mo_tally ∈ lw_ok := lw_okmem (List.mem_of_getElem? (i := 275) (by decide +kernel)) rfl
theorem w9_Mo_tally : CWv y_Mo_tally b_Mo_tally 2 (none) 1 ∧ Cond.instanceMethod y_Mo_tally ∈ lw_ok ∧ Cond.selects y_Mo_tally.cls y_Mo_tally y_Mo_tally ∈ lw_ok := ⟨⟨q3946, q348, by decide +kernel, by decide +kernel, by decide +kernel⟩, q3945, q275⟩
theorem q3883 : Cond.methodLink "ClassWorksModel" 1001 y_Mo_throwNew ∈ lw_ok := lw_okmem (List.mem_of_getElem? (i := 3883) (by decide +kernel)) rfl
theorem q3886 : Cond.code y_Mo_throwNew b_Mo_throwNew 3 (none) ∈ lw_ok := lw_okmem (List.mem_of_getElem? (i := 3886) (by decide +kernel)) rfl
theorem q3885 : Cond.instanceMethod y_Mo_throwNew ∈ lw_ok := lw_okmem (List.mem_of_getElem? (i := 3885) (by decide +kernel)) rfl
theorem q260 : Cond.selects y_Mo_throwNew.cls y_Mo_throwNew y_Mo_throwNew ∈ lw_ok := lw_okmem (List.mem_of_getElem? (i := 260) (by decide +kernel)) rfl
theorem w9_Mo_throwNew : CWv y_Mo_throwNew b_Mo_throwNew 3 (none) 2 ∧ Cond.instanceMethod y_Mo_throwNew ∈ lw_ok ∧ Cond.selects y_Mo_throwNew.cls y_Mo_throwNew y_Mo_throwNew ∈ lw_ok := ⟨⟨q3886, q348, by decide +kernel, by decide +kernel, by decide +kernel⟩, q3885, q260⟩
def y_Mo_throwsAt : MethodName := ⟨"ClassWorksModel", "throwsAt", "(III)I"⟩
abbrev b_Mo_throwsAt : ByteArray := prog_14_method_107_code
theorem d_Mo_throwsAt_0 : decode b_Mo_throwsAt 0 = .ok (.aload_n 0, 1) := by decide +kernel
theorem d_Mo_throwsAt_1 : decode b_Mo_throwsAt 1 = .ok (.iload_n 1, 1) := by decide +kernel
theorem d_Mo_throwsAt_2 : decode b_Mo_throwsAt 2 = .ok (.invokevirtual 1032, 3) := by decide +kernel
theorem d_Mo_throwsAt_5 : decode b_Mo_throwsAt 5 = .ok (.aload_n 0, 1) := by decide +kernel
theorem d_Mo_throwsAt_6 : decode b_Mo_throwsAt 6 = .ok (.iload_n 2, 1) := by decide +kernel
theorem d_Mo_throwsAt_7 : decode b_Mo_throwsAt 7 = .ok (.iload_n 3, 1) := by decide +kernel
theorem d_Mo_throwsAt_8 : decode b_Mo_throwsAt 8 = .ok (.invokevirtual 1001, 3) := by decide +kernel
theorem d_Mo_throwsAt_11 : decode b_Mo_throwsAt 11 = .ok (.iconst 1, 1) := by decide +kernel
theorem d_Mo_throwsAt_12 : decode b_Mo_throwsAt 12 = .ok (.ireturn, 1) := by decide +kernel
abbrev ra_Mo_throwsAt (mc ms : Nat) : Room := { frames := 8, cells := mc, slots := ms, locals := 220 }
def wa_Mo_throwsAt (mc ms : Nat) (y : Ly) (Post : Ly → St → Int32 → Nat → Nat → Prop) (σ : St) (a0 : Nat) (v1 : Int32) (v2 : Int32) (v3 : Int32) : Prop := wu_Mo_tally y (fun (s_2 : St) => ∃ mc_8 ms_9 : Nat, (0 + mc_8 ≤ mc ∧ 0 + ms_9 ≤ ms) ∧ wa_Mo_throwNew mc_8 ms_9 y (fun (y_5 : Ly) (s_4 : St) (d_6 e_7 : Nat) => (0 + d_6 ≤ mc ∧ 0 + e_7 ≤ ms) ∧ Post y_5 s_4 1 (0 + d_6) (0 + e_7)) s_2 a0 v2 v3) σ a0 v1
set_option maxHeartbeats 4000000 in
set_option maxRecDepth 100000 in
theorem ca_Mo_throwsAt (l : Launch) (D : va_G) (g : Nat → ClassId) (ad : Nat → Nat) (mc ms : Nat) (y : Ly) (Post : Ly → St → Int32 → Nat → Nat → Prop) (σ : St) (a0 : Nat) (v1 : Int32) (v2 : Int32) (v3 : Int32) (sz uz : Nat) (h_a0 : cl a0 = 14) (h : wa_Mo_throwsAt mc ms y Post σ a0 v1 v2 v3) : Met l y_Mo_throwsAt (mw y_Mo_throwsAt b_Mo_throwsAt 4 (some .int)) (ra_Mo_throwsAt mc ms) (PCu g D [] [.ref (ad a0), .int v1, .int v2, .int v3] sz uz (ws g ad y σ)) (va_Qi (fun (r : Int32) (u : Ly × St × Nat × Nat) => Post u.1 u.2.1 r u.2.2.1 u.2.2.2) (QU D (va_A (ws g ad y σ) sz) (fun u => ws g ad u.1 u.2.1) sz uz (fun u => u.2.2.1) (fun u => u.2.2.2)) (va_A (ws g ad y σ) sz)) mc ms (va_A (ws g ad y σ) sz) := by
  refine ofIu (by decide +kernel) (Nat.le_of_ble_eq_true rfl) ?_
  intro p e s m args below meth c A Q ls H locs G hsz hP hD hS hl hret
  subst hsz
  have hl : lv_has ls 4 [(0, .ref (ad a0)), (1, .int v1), (2, .int v2), (3, .int v3)] := hl
  have hd : 0 ≤ mc ∧ 0 ≤ ms := ⟨Nat.zero_le _, Nat.zero_le _⟩
  unfold wa_Mo_throwsAt at h
  refine lv_aload_n G.1 G.2.1 d_Mo_throwsAt_0 rfl (lv_at hl 0 rfl) ?_
  refine lv_iload_n G.1 G.2.1 d_Mo_throwsAt_1 rfl (lv_at hl 1 rfl) ?_
  refine ucVv (As := [.int v1]) (rest := []) G hP hD hS (cu_Mo_tally l D g ad y _ σ a0 v1 H.size h_a0 h) w9_Mo_tally q3943 ⟨Nat.le_of_ble_eq_true rfl, Nat.le_of_ble_eq_true rfl⟩ rfl rfl h_a0 (q := (RMo, TMo, 131)) rfl rfl hl.1 rfl (Nat.le_of_ble_eq_true rfl) rfl hd d_Mo_throwsAt_2 (fun s_2 H locs h hP hD hS => ?_)
  refine lv_aload_n G.1 G.2.1 d_Mo_throwsAt_5 rfl (lv_at hl 0 rfl) ?_
  refine lv_iload_n G.1 G.2.1 d_Mo_throwsAt_6 rfl (lv_at hl 2 rfl) ?_
  refine lv_iload_n G.1 G.2.1 d_Mo_throwsAt_7 rfl (lv_at hl 3 rfl) ?_
  obtain ⟨mc_8, ms_9, hr_10, h⟩ := h
  refine uaVv (As := [.int v2, .int v3]) (rest := []) G hP hD hS (ca_Mo_throwNew l D g ad mc_8 ms_9 y _ s_2 a0 v2 v3 H.size (us H) h_a0 h) w9_Mo_throwNew q3883 ⟨Nat.le_of_ble_eq_true rfl, Nat.le_of_ble_eq_true rfl⟩ rfl rfl h_a0 (q := (RMo, TMo, 131)) rfl rfl hl.1 rfl (Nat.le_of_ble_eq_true rfl) rfl hr_10 d_Mo_throwsAt_8 (fun y_5 s_4 d_6 e_7 H locs h hP hD hS => ?_)
  have hl := lv_sub (l' := []) hl [] rfl
  obtain ⟨hd, h⟩ := h
  refine lv_iconst (v := 1) G.1 G.2.1 d_Mo_throwsAt_11 (by decide) ?_
  exact hret _ (y_5, s_4, 0 + d_6, 0 + e_7) _ _ _ _ _ ls h hP hD hS (Nat.le_refl _) (Nat.le_refl _) hd.1 hd.2 d_Mo_throwsAt_12
def y_Mo_classStep : MethodName := ⟨"ClassWorksModel", "classStep", "(III)I"⟩
abbrev b_Mo_classStep : ByteArray := prog_14_method_115_code
theorem d_Mo_classStep_0 : decode b_Mo_classStep 0 = .ok (.aload_n 0, 1) := by decide +kernel
theorem d_Mo_classStep_1 : decode b_Mo_classStep 1 = .ok (.iload_n 3, 1) := by decide +kernel
theorem d_Mo_classStep_2 : decode b_Mo_classStep 2 = .ok (.invokevirtual 1032, 3) := by decide +kernel
theorem d_Mo_classStep_5 : decode b_Mo_classStep 5 = .ok (.bipush 44, 2) := by decide +kernel
theorem d_Mo_classStep_7 : decode b_Mo_classStep 7 = .ok (.iload_n 1, 1) := by decide +kernel
theorem d_Mo_classStep_8 : decode b_Mo_classStep 8 = .ok (.imul, 1) := by decide +kernel
theorem d_Mo_classStep_9 : decode b_Mo_classStep 9 = .ok (.bipush 20, 2) := by decide +kernel
theorem d_Mo_classStep_11 : decode b_Mo_classStep 11 = .ok (.iadd, 1) := by decide +kernel
theorem d_Mo_classStep_12 : decode b_Mo_classStep 12 = .ok (.aload_n 0, 1) := by decide +kernel
theorem d_Mo_classStep_13 : decode b_Mo_classStep 13 = .ok (.getfield 917, 3) := by decide +kernel
theorem d_Mo_classStep_16 : decode b_Mo_classStep 16 = .ok (.getfield 933, 3) := by decide +kernel
theorem d_Mo_classStep_19 : decode b_Mo_classStep 19 = .ok (.iload_n 1, 1) := by decide +kernel
theorem d_Mo_classStep_20 : decode b_Mo_classStep 20 = .ok (.iaload, 1) := by decide +kernel
theorem d_Mo_classStep_21 : decode b_Mo_classStep 21 = .ok (.iadd, 1) := by decide +kernel
theorem d_Mo_classStep_22 : decode b_Mo_classStep 22 = .ok (.iconst 1, 1) := by decide +kernel
theorem d_Mo_classStep_23 : decode b_Mo_classStep 23 = .ok (.isub, 1) := by decide +kernel
theorem d_Mo_classStep_24 : decode b_Mo_classStep 24 = .ok (.istore 4, 2) := by decide +kernel
theorem d_Mo_classStep_26 : decode b_Mo_classStep 26 = .ok (.aload_n 0, 1) := by decide +kernel
theorem d_Mo_classStep_27 : decode b_Mo_classStep 27 = .ok (.getfield 917, 3) := by decide +kernel
theorem d_Mo_classStep_30 : decode b_Mo_classStep 30 = .ok (.getfield 936, 3) := by decide +kernel
theorem d_Mo_classStep_33 : decode b_Mo_classStep 33 = .ok (.iload 4, 2) := by decide +kernel
theorem d_Mo_classStep_35 : decode b_Mo_classStep 35 = .ok (.iaload, 1) := by decide +kernel
theorem d_Mo_classStep_36 : decode b_Mo_classStep 36 = .ok (.istore 5, 2) := by decide +kernel
theorem d_Mo_classStep_38 : decode b_Mo_classStep 38 = .ok (.iconst 0, 1) := by decide +kernel
theorem d_Mo_classStep_39 : decode b_Mo_classStep 39 = .ok (.istore 6, 2) := by decide +kernel
theorem d_Mo_classStep_41 : decode b_Mo_classStep 41 = .ok (.iload 5, 2) := by decide +kernel
theorem d_Mo_classStep_43 : decode b_Mo_classStep 43 = .ok (.ifCond .eq 102, 3) := by decide +kernel
theorem d_Mo_classStep_46 : decode b_Mo_classStep 46 = .ok (.aload_n 0, 1) := by decide +kernel
theorem d_Mo_classStep_47 : decode b_Mo_classStep 47 = .ok (.aload_n 0, 1) := by decide +kernel
theorem d_Mo_classStep_48 : decode b_Mo_classStep 48 = .ok (.getfield 522, 3) := by decide +kernel
theorem d_Mo_classStep_51 : decode b_Mo_classStep 51 = .ok (.getfield 677, 3) := by decide +kernel
theorem d_Mo_classStep_54 : decode b_Mo_classStep 54 = .ok (.iload_n 2, 1) := by decide +kernel
theorem d_Mo_classStep_55 : decode b_Mo_classStep 55 = .ok (.iaload, 1) := by decide +kernel
theorem d_Mo_classStep_56 : decode b_Mo_classStep 56 = .ok (.invokevirtual 601, 3) := by decide +kernel
theorem d_Mo_classStep_59 : decode b_Mo_classStep 59 = .ok (.istore 7, 2) := by decide +kernel
theorem d_Mo_classStep_61 : decode b_Mo_classStep 61 = .ok (.iload 7, 2) := by decide +kernel
theorem d_Mo_classStep_63 : decode b_Mo_classStep 63 = .ok (.ifCond .ge 13, 3) := by decide +kernel
theorem d_Mo_classStep_66 : decode b_Mo_classStep 66 = .ok (.aload_n 0, 1) := by decide +kernel
theorem d_Mo_classStep_67 : decode b_Mo_classStep 67 = .ok (.bipush 50, 2) := by decide +kernel
theorem d_Mo_classStep_69 : decode b_Mo_classStep 69 = .ok (.bipush 11, 2) := by decide +kernel
theorem d_Mo_classStep_71 : decode b_Mo_classStep 71 = .ok (.invokevirtual 1001, 3) := by decide +kernel
theorem d_Mo_classStep_74 : decode b_Mo_classStep 74 = .ok (.iconst 1, 1) := by decide +kernel
theorem d_Mo_classStep_75 : decode b_Mo_classStep 75 = .ok (.ireturn, 1) := by decide +kernel
theorem d_Mo_classStep_76 : decode b_Mo_classStep 76 = .ok (.iload 5, 2) := by decide +kernel
theorem d_Mo_classStep_78 : decode b_Mo_classStep 78 = .ok (.sipush 1001, 3) := by decide +kernel
theorem d_Mo_classStep_81 : decode b_Mo_classStep 81 = .ok (.if_icmp .ge 30, 3) := by decide +kernel
theorem d_Mo_classStep_84 : decode b_Mo_classStep 84 = .ok (.aload_n 0, 1) := by decide +kernel
theorem d_Mo_classStep_85 : decode b_Mo_classStep 85 = .ok (.getfield 522, 3) := by decide +kernel
theorem d_Mo_classStep_88 : decode b_Mo_classStep 88 = .ok (.getfield 872, 3) := by decide +kernel
theorem d_Mo_classStep_91 : decode b_Mo_classStep 91 = .ok (.iload 5, 2) := by decide +kernel
theorem d_Mo_classStep_93 : decode b_Mo_classStep 93 = .ok (.iaload, 1) := by decide +kernel
theorem d_Mo_classStep_94 : decode b_Mo_classStep 94 = .ok (.iconst (-1), 1) := by decide +kernel
theorem d_Mo_classStep_95 : decode b_Mo_classStep 95 = .ok (.if_icmp .ne 16, 3) := by decide +kernel
theorem d_Mo_classStep_98 : decode b_Mo_classStep 98 = .ok (.iload 7, 2) := by decide +kernel
theorem d_Mo_classStep_100 : decode b_Mo_classStep 100 = .ok (.ifCond .ne 7, 3) := by decide +kernel
theorem d_Mo_classStep_103 : decode b_Mo_classStep 103 = .ok (.iconst 1, 1) := by decide +kernel
theorem d_Mo_classStep_104 : decode b_Mo_classStep 104 = .ok (.goto 19, 3) := by decide +kernel
theorem d_Mo_classStep_107 : decode b_Mo_classStep 107 = .ok (.iconst 0, 1) := by decide +kernel
theorem d_Mo_classStep_108 : decode b_Mo_classStep 108 = .ok (.goto 15, 3) := by decide +kernel
theorem d_Mo_classStep_111 : decode b_Mo_classStep 111 = .ok (.aload_n 0, 1) := by decide +kernel
theorem d_Mo_classStep_112 : decode b_Mo_classStep 112 = .ok (.aload_n 0, 1) := by decide +kernel
theorem d_Mo_classStep_113 : decode b_Mo_classStep 113 = .ok (.iload 5, 2) := by decide +kernel
theorem d_Mo_classStep_115 : decode b_Mo_classStep 115 = .ok (.invokevirtual 960, 3) := by decide +kernel
theorem d_Mo_classStep_118 : decode b_Mo_classStep 118 = .ok (.iload 7, 2) := by decide +kernel
theorem d_Mo_classStep_120 : decode b_Mo_classStep 120 = .ok (.invokevirtual 963, 3) := by decide +kernel
theorem d_Mo_classStep_123 : decode b_Mo_classStep 123 = .ok (.istore 6, 2) := by decide +kernel
theorem d_Mo_classStep_125 : decode b_Mo_classStep 125 = .ok (.iload_n 3, 1) := by decide +kernel
theorem d_Mo_classStep_126 : decode b_Mo_classStep 126 = .ok (.bipush 54, 2) := by decide +kernel
theorem d_Mo_classStep_128 : decode b_Mo_classStep 128 = .ok (.if_icmp .ne 17, 3) := by decide +kernel
theorem d_Mo_classStep_131 : decode b_Mo_classStep 131 = .ok (.iload 6, 2) := by decide +kernel
theorem d_Mo_classStep_133 : decode b_Mo_classStep 133 = .ok (.ifCond .ne 12, 3) := by decide +kernel
theorem d_Mo_classStep_136 : decode b_Mo_classStep 136 = .ok (.aload_n 0, 1) := by decide +kernel
theorem d_Mo_classStep_137 : decode b_Mo_classStep 137 = .ok (.iconst 0, 1) := by decide +kernel
theorem d_Mo_classStep_138 : decode b_Mo_classStep 138 = .ok (.bipush 6, 2) := by decide +kernel
theorem d_Mo_classStep_140 : decode b_Mo_classStep 140 = .ok (.invokevirtual 1001, 3) := by decide +kernel
theorem d_Mo_classStep_143 : decode b_Mo_classStep 143 = .ok (.iconst 1, 1) := by decide +kernel
theorem d_Mo_classStep_144 : decode b_Mo_classStep 144 = .ok (.ireturn, 1) := by decide +kernel
theorem d_Mo_classStep_145 : decode b_Mo_classStep 145 = .ok (.iload_n 3, 1) := by decide +kernel
theorem d_Mo_classStep_146 : decode b_Mo_classStep 146 = .ok (.bipush 55, 2) := by decide +kernel
theorem d_Mo_classStep_148 : decode b_Mo_classStep 148 = .ok (.if_icmp .ne 34, 3) := by decide +kernel
theorem d_Mo_classStep_151 : decode b_Mo_classStep 151 = .ok (.aload_n 0, 1) := by decide +kernel
theorem d_Mo_classStep_152 : decode b_Mo_classStep 152 = .ok (.getfield 917, 3) := by decide +kernel
theorem d_Mo_classStep_155 : decode b_Mo_classStep 155 = .ok (.getfield 936, 3) := by decide +kernel
theorem d_Mo_classStep_158 : decode b_Mo_classStep 158 = .ok (.iload 4, 2) := by decide +kernel
theorem d_Mo_classStep_160 : decode b_Mo_classStep 160 = .ok (.iload 6, 2) := by decide +kernel
theorem d_Mo_classStep_162 : decode b_Mo_classStep 162 = .ok (.ifCond .eq 7, 3) := by decide +kernel
theorem d_Mo_classStep_165 : decode b_Mo_classStep 165 = .ok (.iconst 1, 1) := by decide +kernel
theorem d_Mo_classStep_166 : decode b_Mo_classStep 166 = .ok (.goto 4, 3) := by decide +kernel
theorem d_Mo_classStep_169 : decode b_Mo_classStep 169 = .ok (.iconst 0, 1) := by decide +kernel
theorem d_Mo_classStep_170 : decode b_Mo_classStep 170 = .ok (.iastore, 1) := by decide +kernel
theorem d_Mo_classStep_171 : decode b_Mo_classStep 171 = .ok (.aload_n 0, 1) := by decide +kernel
theorem d_Mo_classStep_172 : decode b_Mo_classStep 172 = .ok (.getfield 917, 3) := by decide +kernel
theorem d_Mo_classStep_175 : decode b_Mo_classStep 175 = .ok (.getfield 939, 3) := by decide +kernel
theorem d_Mo_classStep_178 : decode b_Mo_classStep 178 = .ok (.iload 4, 2) := by decide +kernel
theorem d_Mo_classStep_180 : decode b_Mo_classStep 180 = .ok (.iconst 0, 1) := by decide +kernel
theorem d_Mo_classStep_181 : decode b_Mo_classStep 181 = .ok (.bastore, 1) := by decide +kernel
theorem d_Mo_classStep_182 : decode b_Mo_classStep 182 = .ok (.aload_n 0, 1) := by decide +kernel
theorem d_Mo_classStep_183 : decode b_Mo_classStep 183 = .ok (.getfield 917, 3) := by decide +kernel
theorem d_Mo_classStep_186 : decode b_Mo_classStep 186 = .ok (.getfield 930, 3) := by decide +kernel
theorem d_Mo_classStep_189 : decode b_Mo_classStep 189 = .ok (.iload_n 1, 1) := by decide +kernel
theorem d_Mo_classStep_190 : decode b_Mo_classStep 190 = .ok (.dup2, 1) := by decide +kernel
theorem d_Mo_classStep_191 : decode b_Mo_classStep 191 = .ok (.iaload, 1) := by decide +kernel
theorem d_Mo_classStep_192 : decode b_Mo_classStep 192 = .ok (.iconst 1, 1) := by decide +kernel
theorem d_Mo_classStep_193 : decode b_Mo_classStep 193 = .ok (.iadd, 1) := by decide +kernel
theorem d_Mo_classStep_194 : decode b_Mo_classStep 194 = .ok (.iastore, 1) := by decide +kernel
theorem d_Mo_classStep_195 : decode b_Mo_classStep 195 = .ok (.iconst 1, 1) := by decide +kernel
theorem d_Mo_classStep_196 : decode b_Mo_classStep 196 = .ok (.ireturn, 1) := by decide +kernel
abbrev ra_Mo_classStep (mc ms : Nat) : Room := { frames := 8, cells := mc, slots := ms, locals := 220 }
def wja_Mo_classStep_182 (mc ms : Nat) (Post : Ly → St → Int32 → Nat → Nat → Prop) (a0 : Nat) (y_j182 : Ly) (s_j182 : St) (d_j182 e_j182 : Nat) (x1j182 : Int32) : Prop := (d_j182 ≤ mc ∧ e_j182 ≤ ms) ∧ ∃ b_8 : Nat, sO s_j182 a0 46 = some b_8 ∧ cl b_8 = 12 ∧ xA y_j182 s_j182 b_8 18 x1j182 (fun x_11 : Int32 => xS y_j182 s_j182 b_8 18 x1j182 (x_11 + 1) (fun s_12 : St => Post y_j182 s_12 1 d_j182 e_j182))
def wja_Mo_classStep_170 (mc ms : Nat) (Post : Ly → St → Int32 → Nat → Nat → Prop) (a0 : Nat) (y_j170 : Ly) (s_j170 : St) (d_j170 e_j170 : Nat) (x1j170 : Int32) (x4j170 : Int32) (z0j170 : Nat) (z0j170k : Nat) (z1j170 : Int32) (z2j170 : Int32) : Prop := (d_j170 ≤ mc ∧ e_j170 ≤ ms) ∧ (kd (cl z0j170) z0j170k = 2 ∧ tyx (cl z0j170) z0j170k = 0) ∧ xS y_j170 s_j170 z0j170 z0j170k z1j170 z2j170 (fun s_16 : St => ∃ b_17 : Nat, sO s_16 a0 46 = some b_17 ∧ cl b_17 = 12 ∧ xS y_j170 s_16 b_17 21 x4j170 (vp_nar .boolean 0) (fun s_20 : St => wja_Mo_classStep_182 mc ms Post a0 y_j170 s_20 d_j170 e_j170 x1j170))
def wja_Mo_classStep_145 (mc ms : Nat) (Post : Ly → St → Int32 → Nat → Nat → Prop) (a0 : Nat) (y_j145 : Ly) (s_j145 : St) (d_j145 e_j145 : Nat) (x1j145 : Int32) (x3j145 : Int32) (x4j145 : Int32) (x6j145 : Int32) : Prop := (d_j145 ≤ mc ∧ e_j145 ≤ ms) ∧ ((¬ x3j145 = 55 → wja_Mo_classStep_182 mc ms Post a0 y_j145 s_j145 d_j145 e_j145 x1j145) ∧ (x3j145 = 55 → ∃ b_13 : Nat, sO s_j145 a0 46 = some b_13 ∧ cl b_13 = 12 ∧ ((x6j145 = 0 → wja_Mo_classStep_170 mc ms Post a0 y_j145 s_j145 d_j145 e_j145 x1j145 x4j145 b_13 20 x4j145 0) ∧ (¬ (x6j145 = 0) → wja_Mo_classStep_170 mc ms Post a0 y_j145 s_j145 d_j145 e_j145 x1j145 x4j145 b_13 20 x4j145 1))))
def wja_Mo_classStep_123 (mc ms : Nat) (Post : Ly → St → Int32 → Nat → Nat → Prop) (a0 : Nat) (y_j123 : Ly) (s_j123 : St) (d_j123 e_j123 : Nat) (x1j123 : Int32) (x3j123 : Int32) (x4j123 : Int32) (z0j123 : Int32) : Prop := (d_j123 ≤ mc ∧ e_j123 ≤ ms) ∧ ((¬ x3j123 = 54 → wja_Mo_classStep_145 mc ms Post a0 y_j123 s_j123 d_j123 e_j123 x1j123 x3j123 x4j123 z0j123) ∧ (x3j123 = 54 → ((¬ z0j123 = 0 → wja_Mo_classStep_145 mc ms Post a0 y_j123 s_j123 d_j123 e_j123 x1j123 x3j123 x4j123 z0j123) ∧ (z0j123 = 0 → ∃ mc_32 ms_33 : Nat, (d_j123 + mc_32 ≤ mc ∧ e_j123 + ms_33 ≤ ms) ∧ wa_Mo_throwNew mc_32 ms_33 y_j123 (fun (y_29 : Ly) (s_28 : St) (d_30 e_31 : Nat) => (d_j123 + d_30 ≤ mc ∧ e_j123 + e_31 ≤ ms) ∧ Post y_29 s_28 1 (d_j123 + d_30) (e_j123 + e_31)) s_j123 a0 0 6))))
def wja_Mo_classStep_111 (mc ms : Nat) (Post : Ly → St → Int32 → Nat → Nat → Prop) (a0 : Nat) (y_j111 : Ly) (s_j111 : St) (d_j111 e_j111 : Nat) (x1j111 : Int32) (x3j111 : Int32) (x4j111 : Int32) (x5j111 : Int32) (x7j111 : Int32) : Prop := (d_j111 ≤ mc ∧ e_j111 ≤ ms) ∧ wu_Mo_classOfRef y_j111 (fun (s_36 : St) (r_35 : Int32) => wu_Mo_isBelow y_j111 (fun (s_38 : St) (r_37 : Int32) => wja_Mo_classStep_123 mc ms Post a0 y_j111 s_38 d_j111 e_j111 x1j111 x3j111 x4j111 r_37) s_36 a0 r_35 x7j111) s_j111 a0 x5j111
def wa_Mo_classStep (mc ms : Nat) (y : Ly) (Post : Ly → St → Int32 → Nat → Nat → Prop) (σ : St) (a0 : Nat) (v1 : Int32) (v2 : Int32) (v3 : Int32) : Prop := wu_Mo_tally y (fun (s_2 : St) => ∃ b_3 : Nat, sO s_2 a0 46 = some b_3 ∧ cl b_3 = 12 ∧ xA y s_2 b_3 19 v1 (fun x_6 : Int32 => xA y s_2 b_3 20 ((((44 * v1) + 20) + x_6) - 1) (fun x_7 : Int32 => ((x_7 = 0 → wja_Mo_classStep_145 mc ms Post a0 y s_2 0 0 v1 v3 ((((44 * v1) + 20) + x_6) - 1) 0) ∧ (¬ (x_7 = 0) → ∃ b_21 : Nat, sO s_2 a0 45 = some b_21 ∧ cl b_21 = 13 ∧ xA y s_2 b_21 31 v2 (fun x_24 : Int32 => wu_Mo_classOf y (fun (s_26 : St) (r_25 : Int32) => ((0 ≤ r_25 → ((1001 ≤ x_7 → wja_Mo_classStep_111 mc ms Post a0 y s_26 0 0 v1 v3 ((((44 * v1) + 20) + x_6) - 1) x_7 r_25) ∧ (¬ (1001 ≤ x_7) → ∃ b_39 : Nat, sO s_26 a0 45 = some b_39 ∧ cl b_39 = 13 ∧ xA y s_26 b_39 45 x_7 (fun x_42 : Int32 => ((¬ x_42 = (-1) → wja_Mo_classStep_111 mc ms Post a0 y s_26 0 0 v1 v3 ((((44 * v1) + 20) + x_6) - 1) x_7 r_25) ∧ (x_42 = (-1) → ((¬ r_25 = 0 → wja_Mo_classStep_123 mc ms Post a0 y s_26 0 0 v1 v3 ((((44 * v1) + 20) + x_6) - 1) 0) ∧ (r_25 = 0 → wja_Mo_classStep_123 mc ms Post a0 y s_26 0 0 v1 v3 ((((44 * v1) + 20) + x_6) - 1) 1)))))))) ∧ (¬ (0 ≤ r_25) → ∃ mc_48 ms_49 : Nat, (0 + mc_48 ≤ mc ∧ 0 + ms_49 ≤ ms) ∧ wa_Mo_throwNew mc_48 ms_49 y (fun (y_45 : Ly) (s_44 : St) (d_46 e_47 : Nat) => (0 + d_46 ≤ mc ∧ 0 + e_47 ≤ ms) ∧ Post y_45 s_44 1 (0 + d_46) (0 + e_47)) s_26 a0 50 11))) s_2 a0 x_24)))))) σ a0 v3
set_option maxHeartbeats 4000000 in
set_option maxRecDepth 100000 in
theorem ca_Mo_classStep (l : Launch) (D : va_G) (g : Nat → ClassId) (ad : Nat → Nat) (mc ms : Nat) (y : Ly) (Post : Ly → St → Int32 → Nat → Nat → Prop) (σ : St) (a0 : Nat) (v1 : Int32) (v2 : Int32) (v3 : Int32) (sz uz : Nat) (h_a0 : cl a0 = 14) (h : wa_Mo_classStep mc ms y Post σ a0 v1 v2 v3) : Met l y_Mo_classStep (mw y_Mo_classStep b_Mo_classStep 8 (some .int)) (ra_Mo_classStep mc ms) (PCu g D [] [.ref (ad a0), .int v1, .int v2, .int v3] sz uz (ws g ad y σ)) (va_Qi (fun (r : Int32) (u : Ly × St × Nat × Nat) => Post u.1 u.2.1 r u.2.2.1 u.2.2.2) (QU D (va_A (ws g ad y σ) sz) (fun u => ws g ad u.1 u.2.1) sz uz (fun u => u.2.2.1) (fun u => u.2.2.2)) (va_A (ws g ad y σ) sz)) mc ms (va_A (ws g ad y σ) sz) := by
  refine ofIu (by decide +kernel) (Nat.le_of_ble_eq_true rfl) ?_
  intro p e s m args below meth c A Q ls H locs G hsz hP hD hS hl hret
  subst hsz
  have hl : lv_has ls 8 [(0, .ref (ad a0)), (1, .int v1), (2, .int v2), (3, .int v3)] := hl
  have hd : 0 ≤ mc ∧ 0 ≤ ms := ⟨Nat.zero_le _, Nat.zero_le _⟩
  unfold wa_Mo_classStep at h
  refine lv_aload_n G.1 G.2.1 d_Mo_classStep_0 rfl (lv_at hl 0 rfl) ?_
  refine lv_iload_n G.1 G.2.1 d_Mo_classStep_1 rfl (lv_at hl 3 rfl) ?_
  refine ucVv (As := [.int v3]) (rest := []) G hP hD hS (cu_Mo_tally l D g ad y _ σ a0 v3 H.size h_a0 h) w9_Mo_tally q3943 ⟨Nat.le_of_ble_eq_true rfl, Nat.le_of_ble_eq_true rfl⟩ rfl rfl h_a0 (q := (RMo, TMo, 131)) rfl rfl hl.1 rfl (Nat.le_of_ble_eq_true rfl) rfl hd d_Mo_classStep_2 (fun s_2 H locs h hP hD hS => ?_)
  refine lv_bipush (v := 44) G.1 G.2.1 d_Mo_classStep_5 (by decide) ?_
  refine lv_iload_n G.1 G.2.1 d_Mo_classStep_7 rfl (lv_at hl 1 rfl) ?_
  refine lv_imul G.1 G.2.1 d_Mo_classStep_8 ?_
  refine lv_bipush (v := 20) G.1 G.2.1 d_Mo_classStep_9 (by decide) ?_
  refine lv_iadd G.1 G.2.1 d_Mo_classStep_11 ?_
  refine lv_aload_n G.1 G.2.1 d_Mo_classStep_12 rfl (lv_at hl 0 rfl) ?_
  obtain ⟨b_3, e_4, c_5, h⟩ := h
  refine ugf (v := .ref (ad b_3)) G hP h_a0 iMo rfl 46 (by decide) rfl q3110 rfl (by show va_rf ((sO s_2 a0 46).map ad) = _; rw [e_4]; rfl) d_Mo_classStep_13 ?_
  refine ugfN (v := .ref (yP y b_3 19)) G hP c_5 iMr rfl 19 (by decide) rfl q3011 rfl rfl d_Mo_classStep_16 ?_
  refine W.eq (g2 := F0 m 19 ls [.ref (yP y b_3 19), .int ((44 * v1) + 20)]) rfl ?_
  refine lv_iload_n G.1 G.2.1 d_Mo_classStep_19 rfl (lv_at hl 1 rfl) ?_
  refine uiald G hP (kdp c_5 rfl) (typ c_5 rfl) h d_Mo_classStep_20 (fun x_6 h => ?_)
  refine lv_iadd G.1 G.2.1 d_Mo_classStep_21 ?_
  refine lv_iconst (v := 1) G.1 G.2.1 d_Mo_classStep_22 (by decide) ?_
  refine lv_isub G.1 G.2.1 d_Mo_classStep_23 ?_
  refine lv_istore (lv' := [(4, .int ((((44 * v1) + 20) + x_6) - 1)), (0, .ref (ad a0)), (1, .int v1), (2, .int v2), (3, .int v3)]) G.1 G.2.1 d_Mo_classStep_24 hl (by decide) rfl (fun ls hl => ?_)
  refine lv_aload_n G.1 G.2.1 d_Mo_classStep_26 rfl (lv_at hl 1 rfl) ?_
  refine ugf (v := .ref (ad b_3)) G hP h_a0 iMo rfl 46 (by decide) rfl q3110 rfl (by show va_rf ((sO s_2 a0 46).map ad) = _; rw [e_4]; rfl) d_Mo_classStep_27 ?_
  refine ugfN (v := .ref (yP y b_3 20)) G hP c_5 iMr rfl 20 (by decide) rfl q3013 rfl rfl d_Mo_classStep_30 ?_
  refine lv_iload G.1 G.2.1 d_Mo_classStep_33 (lv_at hl 0 rfl) ?_
  refine uiald G hP (kdp c_5 rfl) (typ c_5 rfl) h d_Mo_classStep_35 (fun x_7 h => ?_)
  refine lv_istore (lv' := [(5, .int x_7), (4, .int ((((44 * v1) + 20) + x_6) - 1)), (0, .ref (ad a0)), (1, .int v1), (2, .int v2), (3, .int v3)]) G.1 G.2.1 d_Mo_classStep_36 hl (by decide) rfl (fun ls hl => ?_)
  refine W.eq (g2 := F0 m 38 ls []) rfl ?_
  refine lv_iconst (v := 0) G.1 G.2.1 d_Mo_classStep_38 (by decide) ?_
  refine lv_istore (lv' := [(6, .int 0), (5, .int x_7), (4, .int ((((44 * v1) + 20) + x_6) - 1)), (0, .ref (ad a0)), (1, .int v1), (2, .int v2), (3, .int v3)]) G.1 G.2.1 d_Mo_classStep_39 hl (by decide) rfl (fun ls hl => ?_)
  refine lv_iload G.1 G.2.1 d_Mo_classStep_41 (lv_at hl 1 rfl) ?_
  have J_145 : ∀ (y_j145 : Ly) (s_j145 : St) (d_j145 e_j145 : Nat) (x1j145 : Int32) (x3j145 : Int32) (x4j145 : Int32) (x6j145 : Int32) (H : Heap) (locs : List Loc), wja_Mo_classStep_145 mc ms Post a0 y_j145 s_j145 d_j145 e_j145 x1j145 x3j145 x4j145 x6j145 → va_P D CL (ws g ad y_j145 s_j145) H → va_D A (ws g ad y_j145 s_j145) → va_S A s.heap H locs → ∀ ls, lv_has ls 8 [(0, .ref (ad a0)), (1, .int x1j145), (3, .int x3j145), (4, .int x4j145), (6, .int x6j145)] → W p l e (ra_Mo_classStep mc ms) s m args below meth c H locs d_j145 e_j145 Q (F0 m 145 ls []) := by
    intro y_j145 s_j145 d_j145 e_j145 x1j145 x3j145 x4j145 x6j145 H locs h hP hD hS ls hl
    unfold wja_Mo_classStep_145 at h
    obtain ⟨hd, h⟩ := h
    refine lv_iload_n G.1 G.2.1 d_Mo_classStep_145 rfl (lv_at hl 2 rfl) ?_
    refine lv_bipush (v := 55) G.1 G.2.1 d_Mo_classStep_146 (by decide) ?_
    have J_182 : ∀ (y_j182 : Ly) (s_j182 : St) (d_j182 e_j182 : Nat) (x1j182 : Int32) (H : Heap) (locs : List Loc), wja_Mo_classStep_182 mc ms Post a0 y_j182 s_j182 d_j182 e_j182 x1j182 → va_P D CL (ws g ad y_j182 s_j182) H → va_D A (ws g ad y_j182 s_j182) → va_S A s.heap H locs → ∀ ls, lv_has ls 8 [(0, .ref (ad a0)), (1, .int x1j182)] → W p l e (ra_Mo_classStep mc ms) s m args below meth c H locs d_j182 e_j182 Q (F0 m 182 ls []) := by
      intro y_j182 s_j182 d_j182 e_j182 x1j182 H locs h hP hD hS ls hl
      unfold wja_Mo_classStep_182 at h
      obtain ⟨hd, h⟩ := h
      refine lv_aload_n G.1 G.2.1 d_Mo_classStep_182 rfl (lv_at hl 0 rfl) ?_
      obtain ⟨b_8, e_9, c_10, h⟩ := h
      refine ugf (v := .ref (ad b_8)) G hP h_a0 iMo rfl 46 (by decide) rfl q3110 rfl (by show va_rf ((sO s_j182 a0 46).map ad) = _; rw [e_9]; rfl) d_Mo_classStep_183 ?_
      refine ugfN (v := .ref (yP y_j182 b_8 18)) G hP c_10 iMr rfl 18 (by decide) rfl q3009 rfl rfl d_Mo_classStep_186 ?_
      refine lv_iload_n G.1 G.2.1 d_Mo_classStep_189 rfl (lv_at hl 1 rfl) ?_
      refine lv_dup2_11 G.1 G.2.1 d_Mo_classStep_190 rfl rfl ?_
      refine uiald G hP (kdp c_10 rfl) (typ c_10 rfl) h d_Mo_classStep_191 (fun x_11 h => ?_)
      refine lv_iconst (v := 1) G.1 G.2.1 d_Mo_classStep_192 (by decide) ?_
      refine lv_iadd G.1 G.2.1 d_Mo_classStep_193 ?_
      refine uiast G hP hD hS (kdp c_10 rfl) (typ c_10 rfl) h d_Mo_classStep_194 (fun s_12 H locs h hP hD hS => ?_)
      refine lv_iconst (v := 1) G.1 G.2.1 d_Mo_classStep_195 (by decide) ?_
      exact hret _ (y_j182, s_12, d_j182, e_j182) _ _ _ _ _ ls h hP hD hS (Nat.le_refl _) (Nat.le_refl _) hd.1 hd.2 d_Mo_classStep_196
    refine lv_icmp_ne (tgt := 182) G.1 G.2.1 d_Mo_classStep_148 (by decide) (fun c148 => ?_) (fun c148 => ?_)
    · skip
      have h := h.1 c148
      exact J_182 y_j145 s_j145 d_j145 e_j145 x1j145 H locs h hP hD hS ls (lv_sub hl [0, 1] rfl)
    · skip
      have h := h.2 c148
      refine lv_aload_n G.1 G.2.1 d_Mo_classStep_151 rfl (lv_at hl 0 rfl) ?_
      obtain ⟨b_13, e_14, c_15, h⟩ := h
      refine ugf (v := .ref (ad b_13)) G hP h_a0 iMo rfl 46 (by decide) rfl q3110 rfl (by show va_rf ((sO s_j145 a0 46).map ad) = _; rw [e_14]; rfl) d_Mo_classStep_152 ?_
      refine ugfN (v := .ref (yP y_j145 b_13 20)) G hP c_15 iMr rfl 20 (by decide) rfl q3013 rfl rfl d_Mo_classStep_155 ?_
      refine lv_iload G.1 G.2.1 d_Mo_classStep_158 (lv_at hl 3 rfl) ?_
      refine lv_iload G.1 G.2.1 d_Mo_classStep_160 (lv_at hl 4 rfl) ?_
      have J_170 : ∀ (y_j170 : Ly) (s_j170 : St) (d_j170 e_j170 : Nat) (x1j170 : Int32) (x4j170 : Int32) (z0j170 : Nat) (z0j170k : Nat) (z1j170 : Int32) (z2j170 : Int32) (H : Heap) (locs : List Loc), wja_Mo_classStep_170 mc ms Post a0 y_j170 s_j170 d_j170 e_j170 x1j170 x4j170 z0j170 z0j170k z1j170 z2j170 → va_P D CL (ws g ad y_j170 s_j170) H → va_D A (ws g ad y_j170 s_j170) → va_S A s.heap H locs → ∀ ls, lv_has ls 8 [(0, .ref (ad a0)), (1, .int x1j170), (4, .int x4j170)] → W p l e (ra_Mo_classStep mc ms) s m args below meth c H locs d_j170 e_j170 Q (F0 m 170 ls [.int z2j170, .int z1j170, .ref (yP y_j170 z0j170 z0j170k)]) := by
        intro y_j170 s_j170 d_j170 e_j170 x1j170 x4j170 z0j170 z0j170k z1j170 z2j170 H locs h hP hD hS ls hl
        unfold wja_Mo_classStep_170 at h
        obtain ⟨hd, h⟩ := h
        obtain ⟨c_z0j170, h⟩ := h
        refine uiast G hP hD hS c_z0j170.1 c_z0j170.2 h d_Mo_classStep_170 (fun s_16 H locs h hP hD hS => ?_)
        refine lv_aload_n G.1 G.2.1 d_Mo_classStep_171 rfl (lv_at hl 0 rfl) ?_
        obtain ⟨b_17, e_18, c_19, h⟩ := h
        refine ugf (v := .ref (ad b_17)) G hP h_a0 iMo rfl 46 (by decide) rfl q3110 rfl (by show va_rf ((sO s_16 a0 46).map ad) = _; rw [e_18]; rfl) d_Mo_classStep_172 ?_
        refine ugfN (v := .ref (yP y_j170 b_17 21)) G hP c_19 iMr rfl 21 (by decide) rfl q3015 rfl rfl d_Mo_classStep_175 ?_
        refine lv_iload G.1 G.2.1 d_Mo_classStep_178 (lv_at hl 2 rfl) ?_
        refine lv_iconst (v := 0) G.1 G.2.1 d_Mo_classStep_180 (by decide) ?_
        refine uzast G hP hD hS (kdp c_19 rfl) (typ c_19 rfl) h d_Mo_classStep_181 (fun s_20 H locs h hP hD hS => ?_)
        exact J_182 y_j170 s_20 d_j170 e_j170 x1j170 H locs h hP hD hS ls (lv_sub hl [0, 1] rfl)
      refine lv_if_eq (tgt := 169) G.1 G.2.1 d_Mo_classStep_162 (by decide) (fun c162 => ?_) (fun c162 => ?_)
      · skip
        have h := h.1 c162
        refine lv_iconst (v := 0) G.1 G.2.1 d_Mo_classStep_169 (by decide) ?_
        exact J_170 y_j145 s_j145 d_j145 e_j145 x1j145 x4j145 b_13 20 x4j145 0 H locs h hP hD hS ls (lv_sub hl [0, 1, 3] rfl)
      · skip
        have h := h.2 c162
        refine lv_iconst (v := 1) G.1 G.2.1 d_Mo_classStep_165 (by decide) ?_
        refine lv_goto (tgt := 170) G.1 G.2.1 d_Mo_classStep_166 (by decide) ?_
        exact J_170 y_j145 s_j145 d_j145 e_j145 x1j145 x4j145 b_13 20 x4j145 1 H locs h hP hD hS ls (lv_sub hl [0, 1, 3] rfl)
  refine lv_if_eq (tgt := 145) G.1 G.2.1 d_Mo_classStep_43 (by decide) (fun c43 => ?_) (fun c43 => ?_)
  · skip
    have h := h.1 c43
    exact J_145 y s_2 0 0 v1 v3 ((((44 * v1) + 20) + x_6) - 1) 0 H locs h hP hD hS ls (lv_sub hl [3, 4, 6, 2, 0] rfl)
  · skip
    have h := h.2 c43
    refine lv_aload_n G.1 G.2.1 d_Mo_classStep_46 rfl (lv_at hl 3 rfl) ?_
    refine lv_aload_n G.1 G.2.1 d_Mo_classStep_47 rfl (lv_at hl 3 rfl) ?_
    obtain ⟨b_21, e_22, c_23, h⟩ := h
    refine ugf (v := .ref (ad b_21)) G hP h_a0 iMo rfl 45 (by decide) rfl q3109 rfl (by show va_rf ((sO s_2 a0 45).map ad) = _; rw [e_22]; rfl) d_Mo_classStep_48 ?_
    refine ugfN (v := .ref (yP y b_21 31)) G hP c_23 iMw rfl 31 (by decide) rfl q2766 rfl rfl d_Mo_classStep_51 ?_
    refine lv_iload_n G.1 G.2.1 d_Mo_classStep_54 rfl (lv_at hl 5 rfl) ?_
    refine uiald G hP (kdp c_23 rfl) (typ c_23 rfl) h d_Mo_classStep_55 (fun x_24 h => ?_)
    refine ucVi (As := [.int x_24]) (rest := []) G hP hD hS (cu_Mo_classOf l D g ad y _ s_2 a0 x_24 H.size h_a0 h) w9_Mo_classOf q3571 ⟨Nat.le_of_ble_eq_true rfl, Nat.le_of_ble_eq_true rfl⟩ rfl rfl h_a0 (q := (RMo, TMo, 131)) rfl rfl hl.1 rfl (Nat.le_of_ble_eq_true rfl) rfl hd d_Mo_classStep_56 (fun r_25 s_26 H locs h hP hD hS => ?_)
    refine lv_istore (lv' := [(7, .int r_25), (6, .int 0), (5, .int x_7), (4, .int ((((44 * v1) + 20) + x_6) - 1)), (0, .ref (ad a0)), (1, .int v1), (2, .int v2), (3, .int v3)]) G.1 G.2.1 d_Mo_classStep_59 hl (by decide) rfl (fun ls hl => ?_)
    refine W.eq (g2 := F0 m 61 ls []) rfl ?_
    refine lv_iload G.1 G.2.1 d_Mo_classStep_61 (lv_at hl 0 rfl) ?_
    refine lv_if_ge (tgt := 76) G.1 G.2.1 d_Mo_classStep_63 (by decide) (fun c63 => ?_) (fun c63 => ?_)
    · skip
      have h := h.1 c63
      refine lv_iload G.1 G.2.1 d_Mo_classStep_76 (lv_at hl 2 rfl) ?_
      refine lv_sipush (v := 1001) G.1 G.2.1 d_Mo_classStep_78 (by decide) ?_
      have J_123 : ∀ (y_j123 : Ly) (s_j123 : St) (d_j123 e_j123 : Nat) (x1j123 : Int32) (x3j123 : Int32) (x4j123 : Int32) (z0j123 : Int32) (H : Heap) (locs : List Loc), wja_Mo_classStep_123 mc ms Post a0 y_j123 s_j123 d_j123 e_j123 x1j123 x3j123 x4j123 z0j123 → va_P D CL (ws g ad y_j123 s_j123) H → va_D A (ws g ad y_j123 s_j123) → va_S A s.heap H locs → ∀ ls, lv_has ls 8 [(0, .ref (ad a0)), (1, .int x1j123), (3, .int x3j123), (4, .int x4j123)] → W p l e (ra_Mo_classStep mc ms) s m args below meth c H locs d_j123 e_j123 Q (F0 m 123 ls [.int z0j123]) := by
        intro y_j123 s_j123 d_j123 e_j123 x1j123 x3j123 x4j123 z0j123 H locs h hP hD hS ls hl
        unfold wja_Mo_classStep_123 at h
        obtain ⟨hd, h⟩ := h
        refine lv_istore (lv' := [(6, .int z0j123), (0, .ref (ad a0)), (1, .int x1j123), (3, .int x3j123), (4, .int x4j123)]) G.1 G.2.1 d_Mo_classStep_123 hl (by decide) rfl (fun ls hl => ?_)
        refine lv_iload_n G.1 G.2.1 d_Mo_classStep_125 rfl (lv_at hl 3 rfl) ?_
        refine lv_bipush (v := 54) G.1 G.2.1 d_Mo_classStep_126 (by decide) ?_
        refine lv_icmp_ne (tgt := 145) G.1 G.2.1 d_Mo_classStep_128 (by decide) (fun c128 => ?_) (fun c128 => ?_)
        · skip
          have h := h.1 c128
          exact J_145 y_j123 s_j123 d_j123 e_j123 x1j123 x3j123 x4j123 z0j123 H locs h hP hD hS ls (lv_sub hl [1, 2, 3, 4, 0] rfl)
        · skip
          have h := h.2 c128
          refine lv_iload G.1 G.2.1 d_Mo_classStep_131 (lv_at hl 0 rfl) ?_
          refine lv_if_ne (tgt := 145) G.1 G.2.1 d_Mo_classStep_133 (by decide) (fun c133 => ?_) (fun c133 => ?_)
          · skip
            have h := h.1 c133
            exact J_145 y_j123 s_j123 d_j123 e_j123 x1j123 x3j123 x4j123 z0j123 H locs h hP hD hS ls (lv_sub hl [1, 2, 3, 4, 0] rfl)
          · skip
            have h := h.2 c133
            refine lv_aload_n G.1 G.2.1 d_Mo_classStep_136 rfl (lv_at hl 1 rfl) ?_
            refine lv_iconst (v := 0) G.1 G.2.1 d_Mo_classStep_137 (by decide) ?_
            refine lv_bipush (v := 6) G.1 G.2.1 d_Mo_classStep_138 (by decide) ?_
            obtain ⟨mc_32, ms_33, hr_34, h⟩ := h
            refine uaVv (As := [.int 0, .int 6]) (rest := []) G hP hD hS (ca_Mo_throwNew l D g ad mc_32 ms_33 y_j123 _ s_j123 a0 0 6 H.size (us H) h_a0 h) w9_Mo_throwNew q3883 ⟨Nat.le_of_ble_eq_true rfl, Nat.le_of_ble_eq_true rfl⟩ rfl rfl h_a0 (q := (RMo, TMo, 131)) rfl rfl hl.1 rfl (Nat.le_of_ble_eq_true rfl) rfl hr_34 d_Mo_classStep_140 (fun y_29 s_28 d_30 e_31 H locs h hP hD hS => ?_)
            have hl := lv_sub (l' := []) hl [] rfl
            obtain ⟨hd, h⟩ := h
            refine lv_iconst (v := 1) G.1 G.2.1 d_Mo_classStep_143 (by decide) ?_
            refine W.eq (g2 := F0 m 144 ls [.int 1]) rfl ?_
            exact hret _ (y_29, s_28, d_j123 + d_30, e_j123 + e_31) _ _ _ _ _ ls h hP hD hS (Nat.le_refl _) (Nat.le_refl _) hd.1 hd.2 d_Mo_classStep_144
      have J_111 : ∀ (y_j111 : Ly) (s_j111 : St) (d_j111 e_j111 : Nat) (x1j111 : Int32) (x3j111 : Int32) (x4j111 : Int32) (x5j111 : Int32) (x7j111 : Int32) (H : Heap) (locs : List Loc), wja_Mo_classStep_111 mc ms Post a0 y_j111 s_j111 d_j111 e_j111 x1j111 x3j111 x4j111 x5j111 x7j111 → va_P D CL (ws g ad y_j111 s_j111) H → va_D A (ws g ad y_j111 s_j111) → va_S A s.heap H locs → ∀ ls, lv_has ls 8 [(0, .ref (ad a0)), (1, .int x1j111), (3, .int x3j111), (4, .int x4j111), (5, .int x5j111), (7, .int x7j111)] → W p l e (ra_Mo_classStep mc ms) s m args below meth c H locs d_j111 e_j111 Q (F0 m 111 ls []) := by
        intro y_j111 s_j111 d_j111 e_j111 x1j111 x3j111 x4j111 x5j111 x7j111 H locs h hP hD hS ls hl
        unfold wja_Mo_classStep_111 at h
        obtain ⟨hd, h⟩ := h
        refine lv_aload_n G.1 G.2.1 d_Mo_classStep_111 rfl (lv_at hl 0 rfl) ?_
        refine lv_aload_n G.1 G.2.1 d_Mo_classStep_112 rfl (lv_at hl 0 rfl) ?_
        refine lv_iload G.1 G.2.1 d_Mo_classStep_113 (lv_at hl 4 rfl) ?_
        refine ucVi (As := [.int x5j111]) (rest := [.ref (ad a0)]) G hP hD hS (cu_Mo_classOfRef l D g ad y_j111 _ s_j111 a0 x5j111 H.size h_a0 h) w9_Mo_classOfRef q3899 ⟨Nat.le_of_ble_eq_true rfl, Nat.le_of_ble_eq_true rfl⟩ rfl rfl h_a0 (q := (RMo, TMo, 131)) rfl rfl hl.1 rfl (Nat.le_of_ble_eq_true rfl) rfl hd d_Mo_classStep_115 (fun r_35 s_36 H locs h hP hD hS => ?_)
        refine lv_iload G.1 G.2.1 d_Mo_classStep_118 (lv_at hl 5 rfl) ?_
        refine ucVi (As := [.int r_35, .int x7j111]) (rest := []) G hP hD hS (cu_Mo_isBelow l D g ad y_j111 _ s_36 a0 r_35 x7j111 H.size h_a0 h) w9_Mo_isBelow q3903 ⟨Nat.le_of_ble_eq_true rfl, Nat.le_of_ble_eq_true rfl⟩ rfl rfl h_a0 (q := (RMo, TMo, 131)) rfl rfl hl.1 rfl (Nat.le_of_ble_eq_true rfl) rfl hd d_Mo_classStep_120 (fun r_37 s_38 H locs h hP hD hS => ?_)
        exact J_123 y_j111 s_38 d_j111 e_j111 x1j111 x3j111 x4j111 r_37 H locs h hP hD hS ls (lv_sub hl [0, 1, 2, 3] rfl)
      refine lv_icmp_ge (tgt := 111) G.1 G.2.1 d_Mo_classStep_81 (by decide) (fun c81 => ?_) (fun c81 => ?_)
      · skip
        have h := h.1 c81
        exact J_111 y s_26 0 0 v1 v3 ((((44 * v1) + 20) + x_6) - 1) x_7 r_25 H locs h hP hD hS ls (lv_sub hl [4, 5, 7, 3, 2, 0] rfl)
      · skip
        have h := h.2 c81
        refine lv_aload_n G.1 G.2.1 d_Mo_classStep_84 rfl (lv_at hl 4 rfl) ?_
        obtain ⟨b_39, e_40, c_41, h⟩ := h
        refine ugf (v := .ref (ad b_39)) G hP h_a0 iMo rfl 45 (by decide) rfl q3109 rfl (by show va_rf ((sO s_26 a0 45).map ad) = _; rw [e_40]; rfl) d_Mo_classStep_85 ?_
        refine ugfN (v := .ref (yP y b_39 45)) G hP c_41 iMw rfl 45 (by decide) rfl q2790 rfl rfl d_Mo_classStep_88 ?_
        refine lv_iload G.1 G.2.1 d_Mo_classStep_91 (lv_at hl 2 rfl) ?_
        refine uiald G hP (kdp c_41 rfl) (typ c_41 rfl) h d_Mo_classStep_93 (fun x_42 h => ?_)
        refine lv_iconst (v := (-1)) G.1 G.2.1 d_Mo_classStep_94 (by decide) ?_
        refine lv_icmp_ne (tgt := 111) G.1 G.2.1 d_Mo_classStep_95 (by decide) (fun c95 => ?_) (fun c95 => ?_)
        · skip
          have h := h.1 c95
          exact J_111 y s_26 0 0 v1 v3 ((((44 * v1) + 20) + x_6) - 1) x_7 r_25 H locs h hP hD hS ls (lv_sub hl [4, 5, 7, 3, 2, 0] rfl)
        · skip
          have h := h.2 c95
          refine W.eq (g2 := F0 m 98 ls []) rfl ?_
          refine lv_iload G.1 G.2.1 d_Mo_classStep_98 (lv_at hl 0 rfl) ?_
          refine lv_if_ne (tgt := 107) G.1 G.2.1 d_Mo_classStep_100 (by decide) (fun c100 => ?_) (fun c100 => ?_)
          · skip
            have h := h.1 c100
            refine lv_iconst (v := 0) G.1 G.2.1 d_Mo_classStep_107 (by decide) ?_
            refine lv_goto (tgt := 123) G.1 G.2.1 d_Mo_classStep_108 (by decide) ?_
            exact J_123 y s_26 0 0 v1 v3 ((((44 * v1) + 20) + x_6) - 1) 0 H locs h hP hD hS ls (lv_sub hl [4, 5, 7, 3] rfl)
          · skip
            have h := h.2 c100
            refine lv_iconst (v := 1) G.1 G.2.1 d_Mo_classStep_103 (by decide) ?_
            refine lv_goto (tgt := 123) G.1 G.2.1 d_Mo_classStep_104 (by decide) ?_
            exact J_123 y s_26 0 0 v1 v3 ((((44 * v1) + 20) + x_6) - 1) 1 H locs h hP hD hS ls (lv_sub hl [4, 5, 7, 3] rfl)
    · skip
      have h := h.2 c63
      refine lv_aload_n G.1 G.2.1 d_Mo_classStep_66 rfl (lv_at hl 4 rfl) ?_
      refine lv_bipush (v := 50) G.1 G.2.1 d_Mo_classStep_67 (by decide) ?_
      refine lv_bipush (v := 11) G.1 G.2.1 d_Mo_classStep_69 (by decide) ?_
      obtain ⟨mc_48, ms_49, hr_50, h⟩ := h
      refine uaVv (As := [.int 50, .int 11]) (rest := []) G hP hD hS (ca_Mo_throwNew l D g ad mc_48 ms_49 y _ s_26 a0 50 11 H.size (us H) h_a0 h) w9_Mo_throwNew q3883 ⟨Nat.le_of_ble_eq_true rfl, Nat.le_of_ble_eq_true rfl⟩ rfl rfl h_a0 (q := (RMo, TMo, 131)) rfl rfl hl.1 rfl (Nat.le_of_ble_eq_true rfl) rfl hr_50 d_Mo_classStep_71 (fun y_45 s_44 d_46 e_47 H locs h hP hD hS => ?_)
      have hl := lv_sub (l' := []) hl [] rfl
      obtain ⟨hd, h⟩ := h
      refine lv_iconst (v := 1) G.1 G.2.1 d_Mo_classStep_74 (by decide) ?_
      exact hret _ (y_45, s_44, 0 + d_46, 0 + e_47) _ _ _ _ _ ls h hP hD hS (Nat.le_refl _) (Nat.le_refl _) hd.1 hd.2 d_Mo_classStep_75
theorem q3987 : Cond.methodLink "ClassWorksModel" 1093 y_Mo_lock ∈ lw_ok := lw_okmem (List.mem_of_getElem? (i := 3987) (by decide +kernel)) rfl
theorem q3990 : Cond.code y_Mo_lock b_Mo_lock 3 (none) ∈ lw_ok := lw_okmem (List.mem_of_getElem? (i := 3990) (by decide +kernel)) rfl
theorem q3989 : Cond.instanceMethod y_Mo_lock ∈ lw_ok := lw_okmem (List.mem_of_getElem? (i := 3989) (by decide +kernel)) rfl
theorem q286 : Cond.selects y_Mo_lock.cls y_Mo_lock y_Mo_lock ∈ lw_ok := lw_okmem (List.mem_of_getElem? (i := 286) (by decide +kernel)) rfl
theorem w9_Mo_lock : CWv y_Mo_lock b_Mo_lock 3 (none) 2 ∧ Cond.instanceMethod y_Mo_lock ∈ lw_ok ∧ Cond.selects y_Mo_lock.cls y_Mo_lock y_Mo_lock ∈ lw_ok := ⟨⟨q3990, q348, by decide +kernel, by decide +kernel, by decide +kernel⟩, q3989, q286⟩
def y_Mo_lockStep : MethodName := ⟨"ClassWorksModel", "lockStep", "(II)I"⟩
abbrev b_Mo_lockStep : ByteArray := prog_14_method_119_code
theorem d_Mo_lockStep_0 : decode b_Mo_lockStep 0 = .ok (.aload_n 0, 1) := by decide +kernel
theorem d_Mo_lockStep_1 : decode b_Mo_lockStep 1 = .ok (.getfield 917, 3) := by decide +kernel
theorem d_Mo_lockStep_4 : decode b_Mo_lockStep 4 = .ok (.getfield 936, 3) := by decide +kernel
theorem d_Mo_lockStep_7 : decode b_Mo_lockStep 7 = .ok (.bipush 44, 2) := by decide +kernel
theorem d_Mo_lockStep_9 : decode b_Mo_lockStep 9 = .ok (.iload_n 1, 1) := by decide +kernel
theorem d_Mo_lockStep_10 : decode b_Mo_lockStep 10 = .ok (.imul, 1) := by decide +kernel
theorem d_Mo_lockStep_11 : decode b_Mo_lockStep 11 = .ok (.bipush 20, 2) := by decide +kernel
theorem d_Mo_lockStep_13 : decode b_Mo_lockStep 13 = .ok (.iadd, 1) := by decide +kernel
theorem d_Mo_lockStep_14 : decode b_Mo_lockStep 14 = .ok (.aload_n 0, 1) := by decide +kernel
theorem d_Mo_lockStep_15 : decode b_Mo_lockStep 15 = .ok (.getfield 917, 3) := by decide +kernel
theorem d_Mo_lockStep_18 : decode b_Mo_lockStep 18 = .ok (.getfield 933, 3) := by decide +kernel
theorem d_Mo_lockStep_21 : decode b_Mo_lockStep 21 = .ok (.iload_n 1, 1) := by decide +kernel
theorem d_Mo_lockStep_22 : decode b_Mo_lockStep 22 = .ok (.iaload, 1) := by decide +kernel
theorem d_Mo_lockStep_23 : decode b_Mo_lockStep 23 = .ok (.iadd, 1) := by decide +kernel
theorem d_Mo_lockStep_24 : decode b_Mo_lockStep 24 = .ok (.iconst 1, 1) := by decide +kernel
theorem d_Mo_lockStep_25 : decode b_Mo_lockStep 25 = .ok (.isub, 1) := by decide +kernel
theorem d_Mo_lockStep_26 : decode b_Mo_lockStep 26 = .ok (.iaload, 1) := by decide +kernel
theorem d_Mo_lockStep_27 : decode b_Mo_lockStep 27 = .ok (.istore_n 3, 1) := by decide +kernel
theorem d_Mo_lockStep_28 : decode b_Mo_lockStep 28 = .ok (.iload_n 3, 1) := by decide +kernel
theorem d_Mo_lockStep_29 : decode b_Mo_lockStep 29 = .ok (.ifCond .eq 27, 3) := by decide +kernel
theorem d_Mo_lockStep_32 : decode b_Mo_lockStep 32 = .ok (.aload_n 0, 1) := by decide +kernel
theorem d_Mo_lockStep_33 : decode b_Mo_lockStep 33 = .ok (.iload_n 3, 1) := by decide +kernel
theorem d_Mo_lockStep_34 : decode b_Mo_lockStep 34 = .ok (.invokevirtual 1087, 3) := by decide +kernel
theorem d_Mo_lockStep_37 : decode b_Mo_lockStep 37 = .ok (.ifCond .le 19, 3) := by decide +kernel
theorem d_Mo_lockStep_40 : decode b_Mo_lockStep 40 = .ok (.aload_n 0, 1) := by decide +kernel
theorem d_Mo_lockStep_41 : decode b_Mo_lockStep 41 = .ok (.iload_n 3, 1) := by decide +kernel
theorem d_Mo_lockStep_42 : decode b_Mo_lockStep 42 = .ok (.invokevirtual 1090, 3) := by decide +kernel
theorem d_Mo_lockStep_45 : decode b_Mo_lockStep 45 = .ok (.aload_n 0, 1) := by decide +kernel
theorem d_Mo_lockStep_46 : decode b_Mo_lockStep 46 = .ok (.getfield 908, 3) := by decide +kernel
theorem d_Mo_lockStep_49 : decode b_Mo_lockStep 49 = .ok (.if_icmp .eq 7, 3) := by decide +kernel
theorem d_Mo_lockStep_52 : decode b_Mo_lockStep 52 = .ok (.iconst 1, 1) := by decide +kernel
theorem d_Mo_lockStep_53 : decode b_Mo_lockStep 53 = .ok (.goto 4, 3) := by decide +kernel
theorem d_Mo_lockStep_56 : decode b_Mo_lockStep 56 = .ok (.iconst 0, 1) := by decide +kernel
theorem d_Mo_lockStep_57 : decode b_Mo_lockStep 57 = .ok (.istore 4, 2) := by decide +kernel
theorem d_Mo_lockStep_59 : decode b_Mo_lockStep 59 = .ok (.iload_n 2, 1) := by decide +kernel
theorem d_Mo_lockStep_60 : decode b_Mo_lockStep 60 = .ok (.bipush 60, 2) := by decide +kernel
theorem d_Mo_lockStep_62 : decode b_Mo_lockStep 62 = .ok (.if_icmp .ne 18, 3) := by decide +kernel
theorem d_Mo_lockStep_65 : decode b_Mo_lockStep 65 = .ok (.iload 4, 2) := by decide +kernel
theorem d_Mo_lockStep_67 : decode b_Mo_lockStep 67 = .ok (.ifCond .eq 13, 3) := by decide +kernel
theorem d_Mo_lockStep_70 : decode b_Mo_lockStep 70 = .ok (.aload_n 0, 1) := by decide +kernel
theorem d_Mo_lockStep_71 : decode b_Mo_lockStep 71 = .ok (.getfield 917, 3) := by decide +kernel
theorem d_Mo_lockStep_74 : decode b_Mo_lockStep 74 = .ok (.iload_n 3, 1) := by decide +kernel
theorem d_Mo_lockStep_75 : decode b_Mo_lockStep 75 = .ok (.putfield 992, 3) := by decide +kernel
theorem d_Mo_lockStep_78 : decode b_Mo_lockStep 78 = .ok (.iconst 2, 1) := by decide +kernel
theorem d_Mo_lockStep_79 : decode b_Mo_lockStep 79 = .ok (.ireturn, 1) := by decide +kernel
theorem d_Mo_lockStep_80 : decode b_Mo_lockStep 80 = .ok (.aload_n 0, 1) := by decide +kernel
theorem d_Mo_lockStep_81 : decode b_Mo_lockStep 81 = .ok (.iload_n 2, 1) := by decide +kernel
theorem d_Mo_lockStep_82 : decode b_Mo_lockStep 82 = .ok (.invokevirtual 1032, 3) := by decide +kernel
theorem d_Mo_lockStep_85 : decode b_Mo_lockStep 85 = .ok (.iload_n 3, 1) := by decide +kernel
theorem d_Mo_lockStep_86 : decode b_Mo_lockStep 86 = .ok (.ifCond .ne 12, 3) := by decide +kernel
theorem d_Mo_lockStep_89 : decode b_Mo_lockStep 89 = .ok (.aload_n 0, 1) := by decide +kernel
theorem d_Mo_lockStep_90 : decode b_Mo_lockStep 90 = .ok (.iconst 0, 1) := by decide +kernel
theorem d_Mo_lockStep_91 : decode b_Mo_lockStep 91 = .ok (.iconst 2, 1) := by decide +kernel
theorem d_Mo_lockStep_92 : decode b_Mo_lockStep 92 = .ok (.invokevirtual 1001, 3) := by decide +kernel
theorem d_Mo_lockStep_95 : decode b_Mo_lockStep 95 = .ok (.goto 73, 3) := by decide +kernel
theorem d_Mo_lockStep_98 : decode b_Mo_lockStep 98 = .ok (.iload_n 2, 1) := by decide +kernel
theorem d_Mo_lockStep_99 : decode b_Mo_lockStep 99 = .ok (.bipush 61, 2) := by decide +kernel
theorem d_Mo_lockStep_101 : decode b_Mo_lockStep 101 = .ok (.if_icmp .ne 26, 3) := by decide +kernel
theorem d_Mo_lockStep_104 : decode b_Mo_lockStep 104 = .ok (.iload 4, 2) := by decide +kernel
theorem d_Mo_lockStep_106 : decode b_Mo_lockStep 106 = .ok (.ifCond .ne 11, 3) := by decide +kernel
theorem d_Mo_lockStep_109 : decode b_Mo_lockStep 109 = .ok (.aload_n 0, 1) := by decide +kernel
theorem d_Mo_lockStep_110 : decode b_Mo_lockStep 110 = .ok (.iload_n 3, 1) := by decide +kernel
theorem d_Mo_lockStep_111 : decode b_Mo_lockStep 111 = .ok (.invokevirtual 1087, 3) := by decide +kernel
theorem d_Mo_lockStep_114 : decode b_Mo_lockStep 114 = .ok (.ifCond .ne 13, 3) := by decide +kernel
theorem d_Mo_lockStep_117 : decode b_Mo_lockStep 117 = .ok (.aload_n 0, 1) := by decide +kernel
theorem d_Mo_lockStep_118 : decode b_Mo_lockStep 118 = .ok (.iconst 0, 1) := by decide +kernel
theorem d_Mo_lockStep_119 : decode b_Mo_lockStep 119 = .ok (.bipush 7, 2) := by decide +kernel
theorem d_Mo_lockStep_121 : decode b_Mo_lockStep 121 = .ok (.invokevirtual 1001, 3) := by decide +kernel
theorem d_Mo_lockStep_124 : decode b_Mo_lockStep 124 = .ok (.goto 44, 3) := by decide +kernel
theorem d_Mo_lockStep_127 : decode b_Mo_lockStep 127 = .ok (.aload_n 0, 1) := by decide +kernel
theorem d_Mo_lockStep_128 : decode b_Mo_lockStep 128 = .ok (.iload_n 3, 1) := by decide +kernel
theorem d_Mo_lockStep_129 : decode b_Mo_lockStep 129 = .ok (.aload_n 0, 1) := by decide +kernel
theorem d_Mo_lockStep_130 : decode b_Mo_lockStep 130 = .ok (.iload_n 3, 1) := by decide +kernel
theorem d_Mo_lockStep_131 : decode b_Mo_lockStep 131 = .ok (.invokevirtual 1087, 3) := by decide +kernel
theorem d_Mo_lockStep_134 : decode b_Mo_lockStep 134 = .ok (.iload_n 2, 1) := by decide +kernel
theorem d_Mo_lockStep_135 : decode b_Mo_lockStep 135 = .ok (.bipush 60, 2) := by decide +kernel
theorem d_Mo_lockStep_137 : decode b_Mo_lockStep 137 = .ok (.if_icmp .ne 7, 3) := by decide +kernel
theorem d_Mo_lockStep_140 : decode b_Mo_lockStep 140 = .ok (.iconst 1, 1) := by decide +kernel
theorem d_Mo_lockStep_141 : decode b_Mo_lockStep 141 = .ok (.goto 4, 3) := by decide +kernel
theorem d_Mo_lockStep_144 : decode b_Mo_lockStep 144 = .ok (.iconst (-1), 1) := by decide +kernel
theorem d_Mo_lockStep_145 : decode b_Mo_lockStep 145 = .ok (.iadd, 1) := by decide +kernel
theorem d_Mo_lockStep_146 : decode b_Mo_lockStep 146 = .ok (.invokevirtual 1093, 3) := by decide +kernel
theorem d_Mo_lockStep_149 : decode b_Mo_lockStep 149 = .ok (.aload_n 0, 1) := by decide +kernel
theorem d_Mo_lockStep_150 : decode b_Mo_lockStep 150 = .ok (.iload_n 1, 1) := by decide +kernel
theorem d_Mo_lockStep_151 : decode b_Mo_lockStep 151 = .ok (.invokevirtual 1057, 3) := by decide +kernel
theorem d_Mo_lockStep_154 : decode b_Mo_lockStep 154 = .ok (.pop, 1) := by decide +kernel
theorem d_Mo_lockStep_155 : decode b_Mo_lockStep 155 = .ok (.aload_n 0, 1) := by decide +kernel
theorem d_Mo_lockStep_156 : decode b_Mo_lockStep 156 = .ok (.getfield 917, 3) := by decide +kernel
theorem d_Mo_lockStep_159 : decode b_Mo_lockStep 159 = .ok (.getfield 930, 3) := by decide +kernel
theorem d_Mo_lockStep_162 : decode b_Mo_lockStep 162 = .ok (.iload_n 1, 1) := by decide +kernel
theorem d_Mo_lockStep_163 : decode b_Mo_lockStep 163 = .ok (.dup2, 1) := by decide +kernel
theorem d_Mo_lockStep_164 : decode b_Mo_lockStep 164 = .ok (.iaload, 1) := by decide +kernel
theorem d_Mo_lockStep_165 : decode b_Mo_lockStep 165 = .ok (.iconst 1, 1) := by decide +kernel
theorem d_Mo_lockStep_166 : decode b_Mo_lockStep 166 = .ok (.iadd, 1) := by decide +kernel
theorem d_Mo_lockStep_167 : decode b_Mo_lockStep 167 = .ok (.iastore, 1) := by decide +kernel
theorem d_Mo_lockStep_168 : decode b_Mo_lockStep 168 = .ok (.iconst 1, 1) := by decide +kernel
theorem d_Mo_lockStep_169 : decode b_Mo_lockStep 169 = .ok (.ireturn, 1) := by decide +kernel
abbrev ra_Mo_lockStep (mc ms : Nat) : Room := { frames := 8, cells := mc, slots := ms, locals := 220 }
def wja_Mo_lockStep_168 (mc ms : Nat) (Post : Ly → St → Int32 → Nat → Nat → Prop) (a0 : Nat) (y_j168 : Ly) (s_j168 : St) (d_j168 e_j168 : Nat) : Prop := (d_j168 ≤ mc ∧ e_j168 ≤ ms) ∧ Post y_j168 s_j168 1 d_j168 e_j168
def wja_Mo_lockStep_145 (mc ms : Nat) (Post : Ly → St → Int32 → Nat → Nat → Prop) (a0 : Nat) (y_j145 : Ly) (s_j145 : St) (d_j145 e_j145 : Nat) (x1j145 : Int32) (z1j145 : Int32) (z2j145 : Int32) (z3j145 : Int32) : Prop := (d_j145 ≤ mc ∧ e_j145 ≤ ms) ∧ wu_Mo_lock y_j145 (fun (s_11 : St) => wu_Mo_pop y_j145 (fun (s_13 : St) (r_12 : Int32) => ∃ b_14 : Nat, sO s_13 a0 46 = some b_14 ∧ cl b_14 = 12 ∧ xA y_j145 s_13 b_14 18 x1j145 (fun x_17 : Int32 => xS y_j145 s_13 b_14 18 x1j145 (x_17 + 1) (fun s_18 : St => wja_Mo_lockStep_168 mc ms Post a0 y_j145 s_18 d_j145 e_j145))) s_11 a0 x1j145) s_j145 a0 z1j145 (z2j145 + z3j145)
def wja_Mo_lockStep_127 (mc ms : Nat) (Post : Ly → St → Int32 → Nat → Nat → Prop) (a0 : Nat) (y_j127 : Ly) (s_j127 : St) (d_j127 e_j127 : Nat) (x1j127 : Int32) (x2j127 : Int32) (x3j127 : Int32) : Prop := (d_j127 ≤ mc ∧ e_j127 ≤ ms) ∧ wu_Mo_locksOf y_j127 (fun (s_9 : St) (r_8 : Int32) => ((¬ x2j127 = 60 → wja_Mo_lockStep_145 mc ms Post a0 y_j127 s_9 d_j127 e_j127 x1j127 x3j127 r_8 (-1)) ∧ (x2j127 = 60 → wja_Mo_lockStep_145 mc ms Post a0 y_j127 s_9 d_j127 e_j127 x1j127 x3j127 r_8 1))) s_j127 a0 x3j127
def wja_Mo_lockStep_117 (mc ms : Nat) (Post : Ly → St → Int32 → Nat → Nat → Prop) (a0 : Nat) (y_j117 : Ly) (s_j117 : St) (d_j117 e_j117 : Nat) : Prop := (d_j117 ≤ mc ∧ e_j117 ≤ ms) ∧ ∃ mc_24 ms_25 : Nat, (d_j117 + mc_24 ≤ mc ∧ e_j117 + ms_25 ≤ ms) ∧ wa_Mo_throwNew mc_24 ms_25 y_j117 (fun (y_21 : Ly) (s_20 : St) (d_22 e_23 : Nat) => (d_j117 + d_22 ≤ mc ∧ e_j117 + e_23 ≤ ms) ∧ wja_Mo_lockStep_168 mc ms Post a0 y_21 s_20 (d_j117 + d_22) (e_j117 + e_23)) s_j117 a0 0 7
def wja_Mo_lockStep_80 (mc ms : Nat) (Post : Ly → St → Int32 → Nat → Nat → Prop) (a0 : Nat) (y_j80 : Ly) (s_j80 : St) (d_j80 e_j80 : Nat) (x1j80 : Int32) (x2j80 : Int32) (x3j80 : Int32) (x4j80 : Int32) : Prop := (d_j80 ≤ mc ∧ e_j80 ≤ ms) ∧ wu_Mo_tally y_j80 (fun (s_7 : St) => ((¬ x3j80 = 0 → ((¬ x2j80 = 61 → wja_Mo_lockStep_127 mc ms Post a0 y_j80 s_7 d_j80 e_j80 x1j80 x2j80 x3j80) ∧ (x2j80 = 61 → ((¬ x4j80 = 0 → wja_Mo_lockStep_117 mc ms Post a0 y_j80 s_7 d_j80 e_j80) ∧ (x4j80 = 0 → wu_Mo_locksOf y_j80 (fun (s_28 : St) (r_27 : Int32) => ((¬ r_27 = 0 → wja_Mo_lockStep_127 mc ms Post a0 y_j80 s_28 d_j80 e_j80 x1j80 x2j80 x3j80) ∧ (r_27 = 0 → wja_Mo_lockStep_117 mc ms Post a0 y_j80 s_28 d_j80 e_j80))) s_7 a0 x3j80))))) ∧ (x3j80 = 0 → ∃ mc_34 ms_35 : Nat, (d_j80 + mc_34 ≤ mc ∧ e_j80 + ms_35 ≤ ms) ∧ wa_Mo_throwNew mc_34 ms_35 y_j80 (fun (y_31 : Ly) (s_30 : St) (d_32 e_33 : Nat) => (d_j80 + d_32 ≤ mc ∧ e_j80 + e_33 ≤ ms) ∧ wja_Mo_lockStep_168 mc ms Post a0 y_31 s_30 (d_j80 + d_32) (e_j80 + e_33)) s_7 a0 0 2))) s_j80 a0 x2j80
def wja_Mo_lockStep_57 (mc ms : Nat) (Post : Ly → St → Int32 → Nat → Nat → Prop) (a0 : Nat) (y_j57 : Ly) (s_j57 : St) (d_j57 e_j57 : Nat) (x1j57 : Int32) (x2j57 : Int32) (x3j57 : Int32) (z0j57 : Int32) : Prop := (d_j57 ≤ mc ∧ e_j57 ≤ ms) ∧ ((¬ x2j57 = 60 → wja_Mo_lockStep_80 mc ms Post a0 y_j57 s_j57 d_j57 e_j57 x1j57 x2j57 x3j57 z0j57) ∧ (x2j57 = 60 → ((z0j57 = 0 → wja_Mo_lockStep_80 mc ms Post a0 y_j57 s_j57 d_j57 e_j57 x1j57 x2j57 x3j57 z0j57) ∧ (¬ (z0j57 = 0) → ∃ b_37 : Nat, sO s_j57 a0 46 = some b_37 ∧ cl b_37 = 12 ∧ xP (uV s_j57 b_37 2 x3j57) (fun s_40 : St => Post y_j57 s_40 2 d_j57 e_j57)))))
def wja_Mo_lockStep_56 (mc ms : Nat) (Post : Ly → St → Int32 → Nat → Nat → Prop) (a0 : Nat) (y_j56 : Ly) (s_j56 : St) (d_j56 e_j56 : Nat) (x1j56 : Int32) (x2j56 : Int32) (x3j56 : Int32) : Prop := (d_j56 ≤ mc ∧ e_j56 ≤ ms) ∧ wja_Mo_lockStep_57 mc ms Post a0 y_j56 s_j56 d_j56 e_j56 x1j56 x2j56 x3j56 0
def wa_Mo_lockStep (mc ms : Nat) (y : Ly) (Post : Ly → St → Int32 → Nat → Nat → Prop) (σ : St) (a0 : Nat) (v1 : Int32) (v2 : Int32) : Prop := ∃ b_1 : Nat, sO σ a0 46 = some b_1 ∧ cl b_1 = 12 ∧ xA y σ b_1 19 v1 (fun x_4 : Int32 => xA y σ b_1 20 ((((44 * v1) + 20) + x_4) - 1) (fun x_5 : Int32 => ((x_5 = 0 → wja_Mo_lockStep_56 mc ms Post a0 y σ 0 0 v1 v2 x_5) ∧ (¬ (x_5 = 0) → wu_Mo_locksOf y (fun (s_42 : St) (r_41 : Int32) => ((r_41 ≤ 0 → wja_Mo_lockStep_56 mc ms Post a0 y s_42 0 0 v1 v2 x_5) ∧ (¬ (r_41 ≤ 0) → wu_Mo_ownerOf y (fun (s_44 : St) (r_43 : Int32) => ((r_43 = (sV s_44 a0 47) → wja_Mo_lockStep_56 mc ms Post a0 y s_44 0 0 v1 v2 x_5) ∧ (¬ (r_43 = (sV s_44 a0 47)) → wja_Mo_lockStep_57 mc ms Post a0 y s_44 0 0 v1 v2 x_5 1))) s_42 a0 x_5))) σ a0 x_5))))
set_option maxHeartbeats 4000000 in
set_option maxRecDepth 100000 in
theorem ca_Mo_lockStep (l : Launch) (D : va_G) (g : Nat → ClassId) (ad : Nat → Nat) (mc ms : Nat) (y : Ly) (Post : Ly → St → Int32 → Nat → Nat → Prop) (σ : St) (a0 : Nat) (v1 : Int32) (v2 : Int32) (sz uz : Nat) (h_a0 : cl a0 = 14) (h : wa_Mo_lockStep mc ms y Post σ a0 v1 v2) : Met l y_Mo_lockStep (mw y_Mo_lockStep b_Mo_lockStep 5 (some .int)) (ra_Mo_lockStep mc ms) (PCu g D [] [.ref (ad a0), .int v1, .int v2] sz uz (ws g ad y σ)) (va_Qi (fun (r : Int32) (u : Ly × St × Nat × Nat) => Post u.1 u.2.1 r u.2.2.1 u.2.2.2) (QU D (va_A (ws g ad y σ) sz) (fun u => ws g ad u.1 u.2.1) sz uz (fun u => u.2.2.1) (fun u => u.2.2.2)) (va_A (ws g ad y σ) sz)) mc ms (va_A (ws g ad y σ) sz) := by
  refine ofIu (by decide +kernel) (Nat.le_of_ble_eq_true rfl) ?_
  intro p e s m args below meth c A Q ls H locs G hsz hP hD hS hl hret
  subst hsz
  have hl : lv_has ls 5 [(0, .ref (ad a0)), (1, .int v1), (2, .int v2)] := hl
  have hd : 0 ≤ mc ∧ 0 ≤ ms := ⟨Nat.zero_le _, Nat.zero_le _⟩
  unfold wa_Mo_lockStep at h
  refine lv_aload_n G.1 G.2.1 d_Mo_lockStep_0 rfl (lv_at hl 0 rfl) ?_
  obtain ⟨b_1, e_2, c_3, h⟩ := h
  refine ugf (v := .ref (ad b_1)) G hP h_a0 iMo rfl 46 (by decide) rfl q3110 rfl (by show va_rf ((sO σ a0 46).map ad) = _; rw [e_2]; rfl) d_Mo_lockStep_1 ?_
  refine ugfN (v := .ref (yP y b_1 20)) G hP c_3 iMr rfl 20 (by decide) rfl q3013 rfl rfl d_Mo_lockStep_4 ?_
  refine lv_bipush (v := 44) G.1 G.2.1 d_Mo_lockStep_7 (by decide) ?_
  refine lv_iload_n G.1 G.2.1 d_Mo_lockStep_9 rfl (lv_at hl 1 rfl) ?_
  refine lv_imul G.1 G.2.1 d_Mo_lockStep_10 ?_
  refine lv_bipush (v := 20) G.1 G.2.1 d_Mo_lockStep_11 (by decide) ?_
  refine lv_iadd G.1 G.2.1 d_Mo_lockStep_13 ?_
  refine lv_aload_n G.1 G.2.1 d_Mo_lockStep_14 rfl (lv_at hl 0 rfl) ?_
  refine ugf (v := .ref (ad b_1)) G hP h_a0 iMo rfl 46 (by decide) rfl q3110 rfl (by show va_rf ((sO σ a0 46).map ad) = _; rw [e_2]; rfl) d_Mo_lockStep_15 ?_
  refine ugfN (v := .ref (yP y b_1 19)) G hP c_3 iMr rfl 19 (by decide) rfl q3011 rfl rfl d_Mo_lockStep_18 ?_
  refine W.eq (g2 := F0 m 21 ls [.ref (yP y b_1 19), .int ((44 * v1) + 20), .ref (yP y b_1 20)]) rfl ?_
  refine lv_iload_n G.1 G.2.1 d_Mo_lockStep_21 rfl (lv_at hl 1 rfl) ?_
  refine uiald G hP (kdp c_3 rfl) (typ c_3 rfl) h d_Mo_lockStep_22 (fun x_4 h => ?_)
  refine lv_iadd G.1 G.2.1 d_Mo_lockStep_23 ?_
  refine lv_iconst (v := 1) G.1 G.2.1 d_Mo_lockStep_24 (by decide) ?_
  refine lv_isub G.1 G.2.1 d_Mo_lockStep_25 ?_
  refine uiald G hP (kdp c_3 rfl) (typ c_3 rfl) h d_Mo_lockStep_26 (fun x_5 h => ?_)
  refine lv_istore_n (lv' := [(3, .int x_5), (0, .ref (ad a0)), (1, .int v1), (2, .int v2)]) G.1 G.2.1 d_Mo_lockStep_27 rfl hl (by decide) rfl (fun ls hl => ?_)
  refine lv_iload_n G.1 G.2.1 d_Mo_lockStep_28 rfl (lv_at hl 0 rfl) ?_
  have J_57 : ∀ (y_j57 : Ly) (s_j57 : St) (d_j57 e_j57 : Nat) (x1j57 : Int32) (x2j57 : Int32) (x3j57 : Int32) (z0j57 : Int32) (H : Heap) (locs : List Loc), wja_Mo_lockStep_57 mc ms Post a0 y_j57 s_j57 d_j57 e_j57 x1j57 x2j57 x3j57 z0j57 → va_P D CL (ws g ad y_j57 s_j57) H → va_D A (ws g ad y_j57 s_j57) → va_S A s.heap H locs → ∀ ls, lv_has ls 5 [(0, .ref (ad a0)), (1, .int x1j57), (2, .int x2j57), (3, .int x3j57)] → W p l e (ra_Mo_lockStep mc ms) s m args below meth c H locs d_j57 e_j57 Q (F0 m 57 ls [.int z0j57]) := by
    intro y_j57 s_j57 d_j57 e_j57 x1j57 x2j57 x3j57 z0j57 H locs h hP hD hS ls hl
    unfold wja_Mo_lockStep_57 at h
    obtain ⟨hd, h⟩ := h
    refine lv_istore (lv' := [(4, .int z0j57), (0, .ref (ad a0)), (1, .int x1j57), (2, .int x2j57), (3, .int x3j57)]) G.1 G.2.1 d_Mo_lockStep_57 hl (by decide) rfl (fun ls hl => ?_)
    refine lv_iload_n G.1 G.2.1 d_Mo_lockStep_59 rfl (lv_at hl 3 rfl) ?_
    refine lv_bipush (v := 60) G.1 G.2.1 d_Mo_lockStep_60 (by decide) ?_
    have J_80 : ∀ (y_j80 : Ly) (s_j80 : St) (d_j80 e_j80 : Nat) (x1j80 : Int32) (x2j80 : Int32) (x3j80 : Int32) (x4j80 : Int32) (H : Heap) (locs : List Loc), wja_Mo_lockStep_80 mc ms Post a0 y_j80 s_j80 d_j80 e_j80 x1j80 x2j80 x3j80 x4j80 → va_P D CL (ws g ad y_j80 s_j80) H → va_D A (ws g ad y_j80 s_j80) → va_S A s.heap H locs → ∀ ls, lv_has ls 5 [(0, .ref (ad a0)), (1, .int x1j80), (2, .int x2j80), (3, .int x3j80), (4, .int x4j80)] → W p l e (ra_Mo_lockStep mc ms) s m args below meth c H locs d_j80 e_j80 Q (F0 m 80 ls []) := by
      intro y_j80 s_j80 d_j80 e_j80 x1j80 x2j80 x3j80 x4j80 H locs h hP hD hS ls hl
      unfold wja_Mo_lockStep_80 at h
      obtain ⟨hd, h⟩ := h
      refine lv_aload_n G.1 G.2.1 d_Mo_lockStep_80 rfl (lv_at hl 0 rfl) ?_
      refine lv_iload_n G.1 G.2.1 d_Mo_lockStep_81 rfl (lv_at hl 2 rfl) ?_
      refine ucVv (As := [.int x2j80]) (rest := []) G hP hD hS (cu_Mo_tally l D g ad y_j80 _ s_j80 a0 x2j80 H.size h_a0 h) w9_Mo_tally q3943 ⟨Nat.le_of_ble_eq_true rfl, Nat.le_of_ble_eq_true rfl⟩ rfl rfl h_a0 (q := (RMo, TMo, 131)) rfl rfl hl.1 rfl (Nat.le_of_ble_eq_true rfl) rfl hd d_Mo_lockStep_82 (fun s_7 H locs h hP hD hS => ?_)
      refine lv_iload_n G.1 G.2.1 d_Mo_lockStep_85 rfl (lv_at hl 3 rfl) ?_
      have J_168 : ∀ (y_j168 : Ly) (s_j168 : St) (d_j168 e_j168 : Nat) (H : Heap) (locs : List Loc), wja_Mo_lockStep_168 mc ms Post a0 y_j168 s_j168 d_j168 e_j168 → va_P D CL (ws g ad y_j168 s_j168) H → va_D A (ws g ad y_j168 s_j168) → va_S A s.heap H locs → ∀ ls, lv_has ls 5 [] → W p l e (ra_Mo_lockStep mc ms) s m args below meth c H locs d_j168 e_j168 Q (F0 m 168 ls []) := by
        intro y_j168 s_j168 d_j168 e_j168 H locs h hP hD hS ls hl
        unfold wja_Mo_lockStep_168 at h
        obtain ⟨hd, h⟩ := h
        refine lv_iconst (v := 1) G.1 G.2.1 d_Mo_lockStep_168 (by decide) ?_
        exact hret _ (y_j168, s_j168, d_j168, e_j168) _ _ _ _ _ ls h hP hD hS (Nat.le_refl _) (Nat.le_refl _) hd.1 hd.2 d_Mo_lockStep_169
      refine lv_if_ne (tgt := 98) G.1 G.2.1 d_Mo_lockStep_86 (by decide) (fun c86 => ?_) (fun c86 => ?_)
      · skip
        have h := h.1 c86
        refine lv_iload_n G.1 G.2.1 d_Mo_lockStep_98 rfl (lv_at hl 2 rfl) ?_
        refine lv_bipush (v := 61) G.1 G.2.1 d_Mo_lockStep_99 (by decide) ?_
        have J_127 : ∀ (y_j127 : Ly) (s_j127 : St) (d_j127 e_j127 : Nat) (x1j127 : Int32) (x2j127 : Int32) (x3j127 : Int32) (H : Heap) (locs : List Loc), wja_Mo_lockStep_127 mc ms Post a0 y_j127 s_j127 d_j127 e_j127 x1j127 x2j127 x3j127 → va_P D CL (ws g ad y_j127 s_j127) H → va_D A (ws g ad y_j127 s_j127) → va_S A s.heap H locs → ∀ ls, lv_has ls 5 [(0, .ref (ad a0)), (1, .int x1j127), (2, .int x2j127), (3, .int x3j127)] → W p l e (ra_Mo_lockStep mc ms) s m args below meth c H locs d_j127 e_j127 Q (F0 m 127 ls []) := by
          intro y_j127 s_j127 d_j127 e_j127 x1j127 x2j127 x3j127 H locs h hP hD hS ls hl
          unfold wja_Mo_lockStep_127 at h
          obtain ⟨hd, h⟩ := h
          refine lv_aload_n G.1 G.2.1 d_Mo_lockStep_127 rfl (lv_at hl 0 rfl) ?_
          refine lv_iload_n G.1 G.2.1 d_Mo_lockStep_128 rfl (lv_at hl 3 rfl) ?_
          refine lv_aload_n G.1 G.2.1 d_Mo_lockStep_129 rfl (lv_at hl 0 rfl) ?_
          refine lv_iload_n G.1 G.2.1 d_Mo_lockStep_130 rfl (lv_at hl 3 rfl) ?_
          refine ucVi (As := [.int x3j127]) (rest := [.int x3j127, .ref (ad a0)]) G hP hD hS (cu_Mo_locksOf l D g ad y_j127 _ s_j127 a0 x3j127 H.size h_a0 h) w9_Mo_locksOf q3839 ⟨Nat.le_of_ble_eq_true rfl, Nat.le_of_ble_eq_true rfl⟩ rfl rfl h_a0 (q := (RMo, TMo, 131)) rfl rfl hl.1 rfl (Nat.le_of_ble_eq_true rfl) rfl hd d_Mo_lockStep_131 (fun r_8 s_9 H locs h hP hD hS => ?_)
          refine lv_iload_n G.1 G.2.1 d_Mo_lockStep_134 rfl (lv_at hl 2 rfl) ?_
          refine lv_bipush (v := 60) G.1 G.2.1 d_Mo_lockStep_135 (by decide) ?_
          have J_145 : ∀ (y_j145 : Ly) (s_j145 : St) (d_j145 e_j145 : Nat) (x1j145 : Int32) (z1j145 : Int32) (z2j145 : Int32) (z3j145 : Int32) (H : Heap) (locs : List Loc), wja_Mo_lockStep_145 mc ms Post a0 y_j145 s_j145 d_j145 e_j145 x1j145 z1j145 z2j145 z3j145 → va_P D CL (ws g ad y_j145 s_j145) H → va_D A (ws g ad y_j145 s_j145) → va_S A s.heap H locs → ∀ ls, lv_has ls 5 [(0, .ref (ad a0)), (1, .int x1j145)] → W p l e (ra_Mo_lockStep mc ms) s m args below meth c H locs d_j145 e_j145 Q (F0 m 145 ls [.int z3j145, .int z2j145, .int z1j145, .ref (ad a0)]) := by
            intro y_j145 s_j145 d_j145 e_j145 x1j145 z1j145 z2j145 z3j145 H locs h hP hD hS ls hl
            unfold wja_Mo_lockStep_145 at h
            obtain ⟨hd, h⟩ := h
            refine lv_iadd G.1 G.2.1 d_Mo_lockStep_145 ?_
            refine ucVv (As := [.int z1j145, .int (z2j145 + z3j145)]) (rest := []) G hP hD hS (cu_Mo_lock l D g ad y_j145 _ s_j145 a0 z1j145 (z2j145 + z3j145) H.size h_a0 h) w9_Mo_lock q3987 ⟨Nat.le_of_ble_eq_true rfl, Nat.le_of_ble_eq_true rfl⟩ rfl rfl h_a0 (q := (RMo, TMo, 131)) rfl rfl hl.1 rfl (Nat.le_of_ble_eq_true rfl) rfl hd d_Mo_lockStep_146 (fun s_11 H locs h hP hD hS => ?_)
            refine lv_aload_n G.1 G.2.1 d_Mo_lockStep_149 rfl (lv_at hl 0 rfl) ?_
            refine lv_iload_n G.1 G.2.1 d_Mo_lockStep_150 rfl (lv_at hl 1 rfl) ?_
            refine ucVi (As := [.int x1j145]) (rest := []) G hP hD hS (cu_Mo_pop l D g ad y_j145 _ s_11 a0 x1j145 H.size h_a0 h) w9_Mo_pop q3947 ⟨Nat.le_of_ble_eq_true rfl, Nat.le_of_ble_eq_true rfl⟩ rfl rfl h_a0 (q := (RMo, TMo, 131)) rfl rfl hl.1 rfl (Nat.le_of_ble_eq_true rfl) rfl hd d_Mo_lockStep_151 (fun r_12 s_13 H locs h hP hD hS => ?_)
            refine lv_pop G.1 G.2.1 d_Mo_lockStep_154 rfl ?_
            refine lv_aload_n G.1 G.2.1 d_Mo_lockStep_155 rfl (lv_at hl 0 rfl) ?_
            obtain ⟨b_14, e_15, c_16, h⟩ := h
            refine ugf (v := .ref (ad b_14)) G hP h_a0 iMo rfl 46 (by decide) rfl q3110 rfl (by show va_rf ((sO s_13 a0 46).map ad) = _; rw [e_15]; rfl) d_Mo_lockStep_156 ?_
            refine ugfN (v := .ref (yP y_j145 b_14 18)) G hP c_16 iMr rfl 18 (by decide) rfl q3009 rfl rfl d_Mo_lockStep_159 ?_
            refine lv_iload_n G.1 G.2.1 d_Mo_lockStep_162 rfl (lv_at hl 1 rfl) ?_
            refine lv_dup2_11 G.1 G.2.1 d_Mo_lockStep_163 rfl rfl ?_
            refine W.eq (g2 := F0 m 164 ls [.int x1j145, .ref (yP y_j145 b_14 18), .int x1j145, .ref (yP y_j145 b_14 18)]) rfl ?_
            refine uiald G hP (kdp c_16 rfl) (typ c_16 rfl) h d_Mo_lockStep_164 (fun x_17 h => ?_)
            refine lv_iconst (v := 1) G.1 G.2.1 d_Mo_lockStep_165 (by decide) ?_
            refine lv_iadd G.1 G.2.1 d_Mo_lockStep_166 ?_
            refine uiast G hP hD hS (kdp c_16 rfl) (typ c_16 rfl) h d_Mo_lockStep_167 (fun s_18 H locs h hP hD hS => ?_)
            exact J_168 y_j145 s_18 d_j145 e_j145 H locs h hP hD hS ls (lv_sub hl [] rfl)
          refine lv_icmp_ne (tgt := 144) G.1 G.2.1 d_Mo_lockStep_137 (by decide) (fun c137 => ?_) (fun c137 => ?_)
          · skip
            have h := h.1 c137
            refine lv_iconst (v := (-1)) G.1 G.2.1 d_Mo_lockStep_144 (by decide) ?_
            exact J_145 y_j127 s_9 d_j127 e_j127 x1j127 x3j127 r_8 (-1) H locs h hP hD hS ls (lv_sub hl [0, 1] rfl)
          · skip
            have h := h.2 c137
            refine lv_iconst (v := 1) G.1 G.2.1 d_Mo_lockStep_140 (by decide) ?_
            refine lv_goto (tgt := 145) G.1 G.2.1 d_Mo_lockStep_141 (by decide) ?_
            exact J_145 y_j127 s_9 d_j127 e_j127 x1j127 x3j127 r_8 1 H locs h hP hD hS ls (lv_sub hl [0, 1] rfl)
        refine lv_icmp_ne (tgt := 127) G.1 G.2.1 d_Mo_lockStep_101 (by decide) (fun c101 => ?_) (fun c101 => ?_)
        · skip
          have h := h.1 c101
          exact J_127 y_j80 s_7 d_j80 e_j80 x1j80 x2j80 x3j80 H locs h hP hD hS ls (lv_sub hl [0, 1, 2, 3] rfl)
        · skip
          have h := h.2 c101
          refine lv_iload G.1 G.2.1 d_Mo_lockStep_104 (lv_at hl 4 rfl) ?_
          have J_117 : ∀ (y_j117 : Ly) (s_j117 : St) (d_j117 e_j117 : Nat) (H : Heap) (locs : List Loc), wja_Mo_lockStep_117 mc ms Post a0 y_j117 s_j117 d_j117 e_j117 → va_P D CL (ws g ad y_j117 s_j117) H → va_D A (ws g ad y_j117 s_j117) → va_S A s.heap H locs → ∀ ls, lv_has ls 5 [(0, .ref (ad a0))] → W p l e (ra_Mo_lockStep mc ms) s m args below meth c H locs d_j117 e_j117 Q (F0 m 117 ls []) := by
            intro y_j117 s_j117 d_j117 e_j117 H locs h hP hD hS ls hl
            unfold wja_Mo_lockStep_117 at h
            obtain ⟨hd, h⟩ := h
            refine lv_aload_n G.1 G.2.1 d_Mo_lockStep_117 rfl (lv_at hl 0 rfl) ?_
            refine lv_iconst (v := 0) G.1 G.2.1 d_Mo_lockStep_118 (by decide) ?_
            refine lv_bipush (v := 7) G.1 G.2.1 d_Mo_lockStep_119 (by decide) ?_
            obtain ⟨mc_24, ms_25, hr_26, h⟩ := h
            refine uaVv (As := [.int 0, .int 7]) (rest := []) G hP hD hS (ca_Mo_throwNew l D g ad mc_24 ms_25 y_j117 _ s_j117 a0 0 7 H.size (us H) h_a0 h) w9_Mo_throwNew q3883 ⟨Nat.le_of_ble_eq_true rfl, Nat.le_of_ble_eq_true rfl⟩ rfl rfl h_a0 (q := (RMo, TMo, 131)) rfl rfl hl.1 rfl (Nat.le_of_ble_eq_true rfl) rfl hr_26 d_Mo_lockStep_121 (fun y_21 s_20 d_22 e_23 H locs h hP hD hS => ?_)
            have hl := lv_sub (l' := []) hl [] rfl
            obtain ⟨hd, h⟩ := h
            refine lv_goto (tgt := 168) G.1 G.2.1 d_Mo_lockStep_124 (by decide) ?_
            exact J_168 y_21 s_20 (d_j117 + d_22) (e_j117 + e_23) H locs h hP hD hS ls (lv_sub hl [] rfl)
          refine lv_if_ne (tgt := 117) G.1 G.2.1 d_Mo_lockStep_106 (by decide) (fun c106 => ?_) (fun c106 => ?_)
          · skip
            have h := h.1 c106
            exact J_117 y_j80 s_7 d_j80 e_j80 H locs h hP hD hS ls (lv_sub hl [0] rfl)
          · skip
            have h := h.2 c106
            refine lv_aload_n G.1 G.2.1 d_Mo_lockStep_109 rfl (lv_at hl 0 rfl) ?_
            refine W.eq (g2 := F0 m 110 ls [.ref (ad a0)]) rfl ?_
            refine lv_iload_n G.1 G.2.1 d_Mo_lockStep_110 rfl (lv_at hl 3 rfl) ?_
            refine ucVi (As := [.int x3j80]) (rest := []) G hP hD hS (cu_Mo_locksOf l D g ad y_j80 _ s_7 a0 x3j80 H.size h_a0 h) w9_Mo_locksOf q3839 ⟨Nat.le_of_ble_eq_true rfl, Nat.le_of_ble_eq_true rfl⟩ rfl rfl h_a0 (q := (RMo, TMo, 131)) rfl rfl hl.1 rfl (Nat.le_of_ble_eq_true rfl) rfl hd d_Mo_lockStep_111 (fun r_27 s_28 H locs h hP hD hS => ?_)
            refine lv_if_ne (tgt := 127) G.1 G.2.1 d_Mo_lockStep_114 (by decide) (fun c114 => ?_) (fun c114 => ?_)
            · skip
              have h := h.1 c114
              exact J_127 y_j80 s_28 d_j80 e_j80 x1j80 x2j80 x3j80 H locs h hP hD hS ls (lv_sub hl [0, 1, 2, 3] rfl)
            · skip
              have h := h.2 c114
              exact J_117 y_j80 s_28 d_j80 e_j80 H locs h hP hD hS ls (lv_sub hl [0] rfl)
      · skip
        have h := h.2 c86
        refine lv_aload_n G.1 G.2.1 d_Mo_lockStep_89 rfl (lv_at hl 0 rfl) ?_
        refine lv_iconst (v := 0) G.1 G.2.1 d_Mo_lockStep_90 (by decide) ?_
        refine lv_iconst (v := 2) G.1 G.2.1 d_Mo_lockStep_91 (by decide) ?_
        obtain ⟨mc_34, ms_35, hr_36, h⟩ := h
        refine uaVv (As := [.int 0, .int 2]) (rest := []) G hP hD hS (ca_Mo_throwNew l D g ad mc_34 ms_35 y_j80 _ s_7 a0 0 2 H.size (us H) h_a0 h) w9_Mo_throwNew q3883 ⟨Nat.le_of_ble_eq_true rfl, Nat.le_of_ble_eq_true rfl⟩ rfl rfl h_a0 (q := (RMo, TMo, 131)) rfl rfl hl.1 rfl (Nat.le_of_ble_eq_true rfl) rfl hr_36 d_Mo_lockStep_92 (fun y_31 s_30 d_32 e_33 H locs h hP hD hS => ?_)
        have hl := lv_sub (l' := []) hl [] rfl
        obtain ⟨hd, h⟩ := h
        refine lv_goto (tgt := 168) G.1 G.2.1 d_Mo_lockStep_95 (by decide) ?_
        exact J_168 y_31 s_30 (d_j80 + d_32) (e_j80 + e_33) H locs h hP hD hS ls (lv_sub hl [] rfl)
    refine lv_icmp_ne (tgt := 80) G.1 G.2.1 d_Mo_lockStep_62 (by decide) (fun c62 => ?_) (fun c62 => ?_)
    · skip
      have h := h.1 c62
      exact J_80 y_j57 s_j57 d_j57 e_j57 x1j57 x2j57 x3j57 z0j57 H locs h hP hD hS ls (lv_sub hl [1, 2, 3, 4, 0] rfl)
    · skip
      have h := h.2 c62
      refine lv_iload G.1 G.2.1 d_Mo_lockStep_65 (lv_at hl 0 rfl) ?_
      refine lv_if_eq (tgt := 80) G.1 G.2.1 d_Mo_lockStep_67 (by decide) (fun c67 => ?_) (fun c67 => ?_)
      · skip
        have h := h.1 c67
        exact J_80 y_j57 s_j57 d_j57 e_j57 x1j57 x2j57 x3j57 z0j57 H locs h hP hD hS ls (lv_sub hl [1, 2, 3, 4, 0] rfl)
      · skip
        have h := h.2 c67
        refine lv_aload_n G.1 G.2.1 d_Mo_lockStep_70 rfl (lv_at hl 1 rfl) ?_
        obtain ⟨b_37, e_38, c_39, h⟩ := h
        refine ugf (v := .ref (ad b_37)) G hP h_a0 iMo rfl 46 (by decide) rfl q3110 rfl (by show va_rf ((sO s_j57 a0 46).map ad) = _; rw [e_38]; rfl) d_Mo_lockStep_71 ?_
        refine lv_iload_n G.1 G.2.1 d_Mo_lockStep_74 rfl (lv_at hl 4 rfl) ?_
        refine upfN G hP hD hS h 2 putV c_39 iMr tMr tMr_ok nMr rfl (by decide) rfl q2989 rfl rfl fV rfl rfl d_Mo_lockStep_75 (fun s_40 H locs h hP hD hS => ?_)
        refine lv_iconst (v := 2) G.1 G.2.1 d_Mo_lockStep_78 (by decide) ?_
        refine W.eq (g2 := F0 m 79 ls [.int 2]) rfl ?_
        exact hret _ (y_j57, s_40, d_j57, e_j57) _ _ _ _ _ ls h hP hD hS (Nat.le_refl _) (Nat.le_refl _) hd.1 hd.2 d_Mo_lockStep_79
  have J_56 : ∀ (y_j56 : Ly) (s_j56 : St) (d_j56 e_j56 : Nat) (x1j56 : Int32) (x2j56 : Int32) (x3j56 : Int32) (H : Heap) (locs : List Loc), wja_Mo_lockStep_56 mc ms Post a0 y_j56 s_j56 d_j56 e_j56 x1j56 x2j56 x3j56 → va_P D CL (ws g ad y_j56 s_j56) H → va_D A (ws g ad y_j56 s_j56) → va_S A s.heap H locs → ∀ ls, lv_has ls 5 [(0, .ref (ad a0)), (1, .int x1j56), (2, .int x2j56), (3, .int x3j56)] → W p l e (ra_Mo_lockStep mc ms) s m args below meth c H locs d_j56 e_j56 Q (F0 m 56 ls []) := by
    intro y_j56 s_j56 d_j56 e_j56 x1j56 x2j56 x3j56 H locs h hP hD hS ls hl
    unfold wja_Mo_lockStep_56 at h
    obtain ⟨hd, h⟩ := h
    refine lv_iconst (v := 0) G.1 G.2.1 d_Mo_lockStep_56 (by decide) ?_
    exact J_57 y_j56 s_j56 d_j56 e_j56 x1j56 x2j56 x3j56 0 H locs h hP hD hS ls (lv_sub hl [0, 1, 2, 3] rfl)
  refine lv_if_eq (tgt := 56) G.1 G.2.1 d_Mo_lockStep_29 (by decide) (fun c29 => ?_) (fun c29 => ?_)
  · skip
    have h := h.1 c29
    exact J_56 y σ 0 0 v1 v2 x_5 H locs h hP hD hS ls (lv_sub hl [1, 2, 3, 0] rfl)
  · skip
    have h := h.2 c29
    refine lv_aload_n G.1 G.2.1 d_Mo_lockStep_32 rfl (lv_at hl 1 rfl) ?_
    refine lv_iload_n G.1 G.2.1 d_Mo_lockStep_33 rfl (lv_at hl 0 rfl) ?_
    refine ucVi (As := [.int x_5]) (rest := []) G hP hD hS (cu_Mo_locksOf l D g ad y _ σ a0 x_5 H.size h_a0 h) w9_Mo_locksOf q3839 ⟨Nat.le_of_ble_eq_true rfl, Nat.le_of_ble_eq_true rfl⟩ rfl rfl h_a0 (q := (RMo, TMo, 131)) rfl rfl hl.1 rfl (Nat.le_of_ble_eq_true rfl) rfl hd d_Mo_lockStep_34 (fun r_41 s_42 H locs h hP hD hS => ?_)
    refine W.eq (g2 := F0 m 37 ls [.int r_41]) rfl ?_
    refine lv_if_le (tgt := 56) G.1 G.2.1 d_Mo_lockStep_37 (by decide) (fun c37 => ?_) (fun c37 => ?_)
    · skip
      have h := h.1 c37
      exact J_56 y s_42 0 0 v1 v2 x_5 H locs h hP hD hS ls (lv_sub hl [1, 2, 3, 0] rfl)
    · skip
      have h := h.2 c37
      refine lv_aload_n G.1 G.2.1 d_Mo_lockStep_40 rfl (lv_at hl 1 rfl) ?_
      refine lv_iload_n G.1 G.2.1 d_Mo_lockStep_41 rfl (lv_at hl 0 rfl) ?_
      refine ucVi (As := [.int x_5]) (rest := []) G hP hD hS (cu_Mo_ownerOf l D g ad y _ s_42 a0 x_5 H.size h_a0 h) w9_Mo_ownerOf q3843 ⟨Nat.le_of_ble_eq_true rfl, Nat.le_of_ble_eq_true rfl⟩ rfl rfl h_a0 (q := (RMo, TMo, 131)) rfl rfl hl.1 rfl (Nat.le_of_ble_eq_true rfl) rfl hd d_Mo_lockStep_42 (fun r_43 s_44 H locs h hP hD hS => ?_)
      refine lv_aload_n G.1 G.2.1 d_Mo_lockStep_45 rfl (lv_at hl 1 rfl) ?_
      refine ugf (v := .int (sV s_44 a0 47)) G hP h_a0 iMo rfl 47 (by decide) rfl q3111 rfl rfl d_Mo_lockStep_46 ?_
      refine lv_icmp_eq (tgt := 56) G.1 G.2.1 d_Mo_lockStep_49 (by decide) (fun c49 => ?_) (fun c49 => ?_)
      · skip
        have h := h.1 c49
        exact J_56 y s_44 0 0 v1 v2 x_5 H locs h hP hD hS ls (lv_sub hl [1, 2, 3, 0] rfl)
      · skip
        have h := h.2 c49
        refine lv_iconst (v := 1) G.1 G.2.1 d_Mo_lockStep_52 (by decide) ?_
        refine lv_goto (tgt := 57) G.1 G.2.1 d_Mo_lockStep_53 (by decide) ?_
        exact J_57 y s_44 0 0 v1 v2 x_5 1 H locs h hP hD hS ls (lv_sub hl [1, 2, 3, 0] rfl)
def y_Mo_reckon : MethodName := ⟨"ClassWorksModel", "reckon", "(II)V"⟩
abbrev b_Mo_reckon : ByteArray := prog_14_method_110_code
theorem d_Mo_reckon_0 : decode b_Mo_reckon 0 = .ok (.aload_n 0, 1) := by decide +kernel
theorem d_Mo_reckon_1 : decode b_Mo_reckon 1 = .ok (.iload_n 1, 1) := by decide +kernel
theorem d_Mo_reckon_2 : decode b_Mo_reckon 2 = .ok (.invokevirtual 1057, 3) := by decide +kernel
theorem d_Mo_reckon_5 : decode b_Mo_reckon 5 = .ok (.istore_n 3, 1) := by decide +kernel
theorem d_Mo_reckon_6 : decode b_Mo_reckon 6 = .ok (.iload_n 2, 1) := by decide +kernel
theorem d_Mo_reckon_7 : decode b_Mo_reckon 7 = .ok (.bipush 13, 2) := by decide +kernel
theorem d_Mo_reckon_9 : decode b_Mo_reckon 9 = .ok (.if_icmp .ne 25, 3) := by decide +kernel
theorem d_Mo_reckon_12 : decode b_Mo_reckon 12 = .ok (.aload_n 0, 1) := by decide +kernel
theorem d_Mo_reckon_13 : decode b_Mo_reckon 13 = .ok (.iload_n 1, 1) := by decide +kernel
theorem d_Mo_reckon_14 : decode b_Mo_reckon 14 = .ok (.iload_n 3, 1) := by decide +kernel
theorem d_Mo_reckon_15 : decode b_Mo_reckon 15 = .ok (.ineg, 1) := by decide +kernel
theorem d_Mo_reckon_16 : decode b_Mo_reckon 16 = .ok (.iconst 0, 1) := by decide +kernel
theorem d_Mo_reckon_17 : decode b_Mo_reckon 17 = .ok (.invokevirtual 970, 3) := by decide +kernel
theorem d_Mo_reckon_20 : decode b_Mo_reckon 20 = .ok (.aload_n 0, 1) := by decide +kernel
theorem d_Mo_reckon_21 : decode b_Mo_reckon 21 = .ok (.getfield 917, 3) := by decide +kernel
theorem d_Mo_reckon_24 : decode b_Mo_reckon 24 = .ok (.getfield 930, 3) := by decide +kernel
theorem d_Mo_reckon_27 : decode b_Mo_reckon 27 = .ok (.iload_n 1, 1) := by decide +kernel
theorem d_Mo_reckon_28 : decode b_Mo_reckon 28 = .ok (.dup2, 1) := by decide +kernel
theorem d_Mo_reckon_29 : decode b_Mo_reckon 29 = .ok (.iaload, 1) := by decide +kernel
theorem d_Mo_reckon_30 : decode b_Mo_reckon 30 = .ok (.iconst 1, 1) := by decide +kernel
theorem d_Mo_reckon_31 : decode b_Mo_reckon 31 = .ok (.iadd, 1) := by decide +kernel
theorem d_Mo_reckon_32 : decode b_Mo_reckon 32 = .ok (.iastore, 1) := by decide +kernel
theorem d_Mo_reckon_33 : decode b_Mo_reckon 33 = .ok (.return_, 1) := by decide +kernel
theorem d_Mo_reckon_34 : decode b_Mo_reckon 34 = .ok (.aload_n 0, 1) := by decide +kernel
theorem d_Mo_reckon_35 : decode b_Mo_reckon 35 = .ok (.iload_n 1, 1) := by decide +kernel
theorem d_Mo_reckon_36 : decode b_Mo_reckon 36 = .ok (.invokevirtual 1057, 3) := by decide +kernel
theorem d_Mo_reckon_39 : decode b_Mo_reckon 39 = .ok (.istore 4, 2) := by decide +kernel
theorem d_Mo_reckon_41 : decode b_Mo_reckon 41 = .ok (.iload_n 2, 1) := by decide +kernel
theorem d_Mo_reckon_42 : decode b_Mo_reckon 42 = .ok (.bipush 11, 2) := by decide +kernel
theorem d_Mo_reckon_44 : decode b_Mo_reckon 44 = .ok (.if_icmp .eq 9, 3) := by decide +kernel
theorem d_Mo_reckon_47 : decode b_Mo_reckon 47 = .ok (.iload_n 2, 1) := by decide +kernel
theorem d_Mo_reckon_48 : decode b_Mo_reckon 48 = .ok (.bipush 12, 2) := by decide +kernel
theorem d_Mo_reckon_50 : decode b_Mo_reckon 50 = .ok (.if_icmp .ne 14, 3) := by decide +kernel
theorem d_Mo_reckon_53 : decode b_Mo_reckon 53 = .ok (.iload_n 3, 1) := by decide +kernel
theorem d_Mo_reckon_54 : decode b_Mo_reckon 54 = .ok (.ifCond .ne 10, 3) := by decide +kernel
theorem d_Mo_reckon_57 : decode b_Mo_reckon 57 = .ok (.aload_n 0, 1) := by decide +kernel
theorem d_Mo_reckon_58 : decode b_Mo_reckon 58 = .ok (.iconst 0, 1) := by decide +kernel
theorem d_Mo_reckon_59 : decode b_Mo_reckon 59 = .ok (.iconst 3, 1) := by decide +kernel
theorem d_Mo_reckon_60 : decode b_Mo_reckon 60 = .ok (.invokevirtual 1001, 3) := by decide +kernel
theorem d_Mo_reckon_63 : decode b_Mo_reckon 63 = .ok (.return_, 1) := by decide +kernel
theorem d_Mo_reckon_64 : decode b_Mo_reckon 64 = .ok (.iload_n 2, 1) := by decide +kernel
theorem d_Mo_reckon_65 : decode b_Mo_reckon 65 = .ok (.tableswitch 139 8 17 #[55, 64, 73, 82, 91, 139, 100, 109, 118, 127], 55) := by decide +kernel
theorem d_Mo_reckon_120 : decode b_Mo_reckon 120 = .ok (.iload 4, 2) := by decide +kernel
theorem d_Mo_reckon_122 : decode b_Mo_reckon 122 = .ok (.iload_n 3, 1) := by decide +kernel
theorem d_Mo_reckon_123 : decode b_Mo_reckon 123 = .ok (.iadd, 1) := by decide +kernel
theorem d_Mo_reckon_124 : decode b_Mo_reckon 124 = .ok (.istore 5, 2) := by decide +kernel
theorem d_Mo_reckon_126 : decode b_Mo_reckon 126 = .ok (.goto 87, 3) := by decide +kernel
theorem d_Mo_reckon_129 : decode b_Mo_reckon 129 = .ok (.iload 4, 2) := by decide +kernel
theorem d_Mo_reckon_131 : decode b_Mo_reckon 131 = .ok (.iload_n 3, 1) := by decide +kernel
theorem d_Mo_reckon_132 : decode b_Mo_reckon 132 = .ok (.isub, 1) := by decide +kernel
theorem d_Mo_reckon_133 : decode b_Mo_reckon 133 = .ok (.istore 5, 2) := by decide +kernel
theorem d_Mo_reckon_135 : decode b_Mo_reckon 135 = .ok (.goto 78, 3) := by decide +kernel
theorem d_Mo_reckon_138 : decode b_Mo_reckon 138 = .ok (.iload 4, 2) := by decide +kernel
theorem d_Mo_reckon_140 : decode b_Mo_reckon 140 = .ok (.iload_n 3, 1) := by decide +kernel
theorem d_Mo_reckon_141 : decode b_Mo_reckon 141 = .ok (.imul, 1) := by decide +kernel
theorem d_Mo_reckon_142 : decode b_Mo_reckon 142 = .ok (.istore 5, 2) := by decide +kernel
theorem d_Mo_reckon_144 : decode b_Mo_reckon 144 = .ok (.goto 69, 3) := by decide +kernel
theorem d_Mo_reckon_147 : decode b_Mo_reckon 147 = .ok (.iload 4, 2) := by decide +kernel
theorem d_Mo_reckon_149 : decode b_Mo_reckon 149 = .ok (.iload_n 3, 1) := by decide +kernel
theorem d_Mo_reckon_150 : decode b_Mo_reckon 150 = .ok (.idiv, 1) := by decide +kernel
theorem d_Mo_reckon_151 : decode b_Mo_reckon 151 = .ok (.istore 5, 2) := by decide +kernel
theorem d_Mo_reckon_153 : decode b_Mo_reckon 153 = .ok (.goto 60, 3) := by decide +kernel
theorem d_Mo_reckon_156 : decode b_Mo_reckon 156 = .ok (.iload 4, 2) := by decide +kernel
theorem d_Mo_reckon_158 : decode b_Mo_reckon 158 = .ok (.iload_n 3, 1) := by decide +kernel
theorem d_Mo_reckon_159 : decode b_Mo_reckon 159 = .ok (.irem, 1) := by decide +kernel
theorem d_Mo_reckon_160 : decode b_Mo_reckon 160 = .ok (.istore 5, 2) := by decide +kernel
theorem d_Mo_reckon_162 : decode b_Mo_reckon 162 = .ok (.goto 51, 3) := by decide +kernel
theorem d_Mo_reckon_165 : decode b_Mo_reckon 165 = .ok (.iload 4, 2) := by decide +kernel
theorem d_Mo_reckon_167 : decode b_Mo_reckon 167 = .ok (.iload_n 3, 1) := by decide +kernel
theorem d_Mo_reckon_168 : decode b_Mo_reckon 168 = .ok (.iand, 1) := by decide +kernel
theorem d_Mo_reckon_169 : decode b_Mo_reckon 169 = .ok (.istore 5, 2) := by decide +kernel
theorem d_Mo_reckon_171 : decode b_Mo_reckon 171 = .ok (.goto 42, 3) := by decide +kernel
theorem d_Mo_reckon_174 : decode b_Mo_reckon 174 = .ok (.iload 4, 2) := by decide +kernel
theorem d_Mo_reckon_176 : decode b_Mo_reckon 176 = .ok (.iload_n 3, 1) := by decide +kernel
theorem d_Mo_reckon_177 : decode b_Mo_reckon 177 = .ok (.ior, 1) := by decide +kernel
theorem d_Mo_reckon_178 : decode b_Mo_reckon 178 = .ok (.istore 5, 2) := by decide +kernel
theorem d_Mo_reckon_180 : decode b_Mo_reckon 180 = .ok (.goto 33, 3) := by decide +kernel
theorem d_Mo_reckon_183 : decode b_Mo_reckon 183 = .ok (.iload 4, 2) := by decide +kernel
theorem d_Mo_reckon_185 : decode b_Mo_reckon 185 = .ok (.iload_n 3, 1) := by decide +kernel
theorem d_Mo_reckon_186 : decode b_Mo_reckon 186 = .ok (.ixor, 1) := by decide +kernel
theorem d_Mo_reckon_187 : decode b_Mo_reckon 187 = .ok (.istore 5, 2) := by decide +kernel
theorem d_Mo_reckon_189 : decode b_Mo_reckon 189 = .ok (.goto 24, 3) := by decide +kernel
theorem d_Mo_reckon_192 : decode b_Mo_reckon 192 = .ok (.iload 4, 2) := by decide +kernel
theorem d_Mo_reckon_194 : decode b_Mo_reckon 194 = .ok (.iload_n 3, 1) := by decide +kernel
theorem d_Mo_reckon_195 : decode b_Mo_reckon 195 = .ok (.bipush 31, 2) := by decide +kernel
theorem d_Mo_reckon_197 : decode b_Mo_reckon 197 = .ok (.iand, 1) := by decide +kernel
theorem d_Mo_reckon_198 : decode b_Mo_reckon 198 = .ok (.ishl, 1) := by decide +kernel
theorem d_Mo_reckon_199 : decode b_Mo_reckon 199 = .ok (.istore 5, 2) := by decide +kernel
theorem d_Mo_reckon_201 : decode b_Mo_reckon 201 = .ok (.goto 12, 3) := by decide +kernel
theorem d_Mo_reckon_204 : decode b_Mo_reckon 204 = .ok (.iload 4, 2) := by decide +kernel
theorem d_Mo_reckon_206 : decode b_Mo_reckon 206 = .ok (.iload_n 3, 1) := by decide +kernel
theorem d_Mo_reckon_207 : decode b_Mo_reckon 207 = .ok (.bipush 31, 2) := by decide +kernel
theorem d_Mo_reckon_209 : decode b_Mo_reckon 209 = .ok (.iand, 1) := by decide +kernel
theorem d_Mo_reckon_210 : decode b_Mo_reckon 210 = .ok (.ishr, 1) := by decide +kernel
theorem d_Mo_reckon_211 : decode b_Mo_reckon 211 = .ok (.istore 5, 2) := by decide +kernel
theorem d_Mo_reckon_213 : decode b_Mo_reckon 213 = .ok (.aload_n 0, 1) := by decide +kernel
theorem d_Mo_reckon_214 : decode b_Mo_reckon 214 = .ok (.iload_n 1, 1) := by decide +kernel
theorem d_Mo_reckon_215 : decode b_Mo_reckon 215 = .ok (.iload 5, 2) := by decide +kernel
theorem d_Mo_reckon_217 : decode b_Mo_reckon 217 = .ok (.iconst 0, 1) := by decide +kernel
theorem d_Mo_reckon_218 : decode b_Mo_reckon 218 = .ok (.invokevirtual 970, 3) := by decide +kernel
theorem d_Mo_reckon_221 : decode b_Mo_reckon 221 = .ok (.aload_n 0, 1) := by decide +kernel
theorem d_Mo_reckon_222 : decode b_Mo_reckon 222 = .ok (.getfield 917, 3) := by decide +kernel
theorem d_Mo_reckon_225 : decode b_Mo_reckon 225 = .ok (.getfield 930, 3) := by decide +kernel
theorem d_Mo_reckon_228 : decode b_Mo_reckon 228 = .ok (.iload_n 1, 1) := by decide +kernel
theorem d_Mo_reckon_229 : decode b_Mo_reckon 229 = .ok (.dup2, 1) := by decide +kernel
theorem d_Mo_reckon_230 : decode b_Mo_reckon 230 = .ok (.iaload, 1) := by decide +kernel
theorem d_Mo_reckon_231 : decode b_Mo_reckon 231 = .ok (.iconst 1, 1) := by decide +kernel
theorem d_Mo_reckon_232 : decode b_Mo_reckon 232 = .ok (.iadd, 1) := by decide +kernel
theorem d_Mo_reckon_233 : decode b_Mo_reckon 233 = .ok (.iastore, 1) := by decide +kernel
theorem d_Mo_reckon_234 : decode b_Mo_reckon 234 = .ok (.return_, 1) := by decide +kernel
abbrev ra_Mo_reckon (mc ms : Nat) : Room := { frames := 8, cells := mc, slots := ms, locals := 220 }
def wja_Mo_reckon_213 (mc ms : Nat) (Post : Ly → St → Nat → Nat → Prop) (a0 : Nat) (y_j213 : Ly) (s_j213 : St) (d_j213 e_j213 : Nat) (x1j213 : Int32) (x5j213 : Int32) : Prop := (d_j213 ≤ mc ∧ e_j213 ≤ ms) ∧ wu_Mo_push y_j213 (fun (s_6 : St) => ∃ b_7 : Nat, sO s_6 a0 46 = some b_7 ∧ cl b_7 = 12 ∧ xA y_j213 s_6 b_7 18 x1j213 (fun x_10 : Int32 => xS y_j213 s_6 b_7 18 x1j213 (x_10 + 1) (fun s_11 : St => Post y_j213 s_11 d_j213 e_j213))) s_j213 a0 x1j213 x5j213 0
def wja_Mo_reckon_64 (mc ms : Nat) (Post : Ly → St → Nat → Nat → Prop) (a0 : Nat) (y_j64 : Ly) (s_j64 : St) (d_j64 e_j64 : Nat) (x1j64 : Int32) (x2j64 : Int32) (x3j64 : Int32) (x4j64 : Int32) : Prop := (d_j64 ≤ mc ∧ e_j64 ≤ ms) ∧ ((x2j64 = 8 → wja_Mo_reckon_213 mc ms Post a0 y_j64 s_j64 d_j64 e_j64 x1j64 (x4j64 + x3j64)) ∧ (¬ (x2j64 = 8) → ((x2j64 = 9 → wja_Mo_reckon_213 mc ms Post a0 y_j64 s_j64 d_j64 e_j64 x1j64 (x4j64 - x3j64)) ∧ (¬ (x2j64 = 9) → ((x2j64 = 10 → wja_Mo_reckon_213 mc ms Post a0 y_j64 s_j64 d_j64 e_j64 x1j64 (x4j64 * x3j64)) ∧ (¬ (x2j64 = 10) → ((x2j64 = 11 → ¬ x3j64 = 0 ∧ wja_Mo_reckon_213 mc ms Post a0 y_j64 s_j64 d_j64 e_j64 x1j64 (x4j64 / x3j64)) ∧ (¬ (x2j64 = 11) → ((x2j64 = 12 → ¬ x3j64 = 0 ∧ wja_Mo_reckon_213 mc ms Post a0 y_j64 s_j64 d_j64 e_j64 x1j64 (x4j64 - x4j64 / x3j64 * x3j64)) ∧ (¬ (x2j64 = 12) → ((x2j64 = 13 → wja_Mo_reckon_213 mc ms Post a0 y_j64 s_j64 d_j64 e_j64 x1j64 (x4j64 >>> ((x3j64 &&& 31) &&& 31))) ∧ (¬ (x2j64 = 13) → ((x2j64 = 14 → wja_Mo_reckon_213 mc ms Post a0 y_j64 s_j64 d_j64 e_j64 x1j64 (x4j64 &&& x3j64)) ∧ (¬ (x2j64 = 14) → ((x2j64 = 15 → wja_Mo_reckon_213 mc ms Post a0 y_j64 s_j64 d_j64 e_j64 x1j64 (x4j64 ||| x3j64)) ∧ (¬ (x2j64 = 15) → ((x2j64 = 16 → wja_Mo_reckon_213 mc ms Post a0 y_j64 s_j64 d_j64 e_j64 x1j64 (x4j64 ^^^ x3j64)) ∧ (¬ (x2j64 = 16) → ((x2j64 = 17 → wja_Mo_reckon_213 mc ms Post a0 y_j64 s_j64 d_j64 e_j64 x1j64 (x4j64 <<< ((x3j64 &&& 31) &&& 31))) ∧ (¬ (x2j64 = 17) → wja_Mo_reckon_213 mc ms Post a0 y_j64 s_j64 d_j64 e_j64 x1j64 (x4j64 >>> ((x3j64 &&& 31) &&& 31))))))))))))))))))))))
def wja_Mo_reckon_53 (mc ms : Nat) (Post : Ly → St → Nat → Nat → Prop) (a0 : Nat) (y_j53 : Ly) (s_j53 : St) (d_j53 e_j53 : Nat) (x1j53 : Int32) (x2j53 : Int32) (x3j53 : Int32) (x4j53 : Int32) : Prop := (d_j53 ≤ mc ∧ e_j53 ≤ ms) ∧ ((¬ x3j53 = 0 → wja_Mo_reckon_64 mc ms Post a0 y_j53 s_j53 d_j53 e_j53 x1j53 x2j53 x3j53 x4j53) ∧ (x3j53 = 0 → ∃ mc_19 ms_20 : Nat, (d_j53 + mc_19 ≤ mc ∧ e_j53 + ms_20 ≤ ms) ∧ wa_Mo_throwNew mc_19 ms_20 y_j53 (fun (y_16 : Ly) (s_15 : St) (d_17 e_18 : Nat) => (d_j53 + d_17 ≤ mc ∧ e_j53 + e_18 ≤ ms) ∧ Post y_16 s_15 (d_j53 + d_17) (e_j53 + e_18)) s_j53 a0 0 3))
def wa_Mo_reckon (mc ms : Nat) (y : Ly) (Post : Ly → St → Nat → Nat → Prop) (σ : St) (a0 : Nat) (v1 : Int32) (v2 : Int32) : Prop := wu_Mo_pop y (fun (s_2 : St) (r_1 : Int32) => ((¬ v2 = 13 → wu_Mo_pop y (fun (s_4 : St) (r_3 : Int32) => ((v2 = 11 → wja_Mo_reckon_53 mc ms Post a0 y s_4 0 0 v1 v2 r_1 r_3) ∧ (¬ (v2 = 11) → ((¬ v2 = 12 → wja_Mo_reckon_64 mc ms Post a0 y s_4 0 0 v1 v2 r_1 r_3) ∧ (v2 = 12 → wja_Mo_reckon_53 mc ms Post a0 y s_4 0 0 v1 v2 r_1 r_3))))) s_2 a0 v1) ∧ (v2 = 13 → wu_Mo_push y (fun (s_23 : St) => ∃ b_24 : Nat, sO s_23 a0 46 = some b_24 ∧ cl b_24 = 12 ∧ xA y s_23 b_24 18 v1 (fun x_27 : Int32 => xS y s_23 b_24 18 v1 (x_27 + 1) (fun s_28 : St => Post y s_28 0 0))) s_2 a0 v1 (-r_1) 0))) σ a0 v1
set_option maxHeartbeats 4000000 in
set_option maxRecDepth 100000 in
theorem ca_Mo_reckon (l : Launch) (D : va_G) (g : Nat → ClassId) (ad : Nat → Nat) (mc ms : Nat) (y : Ly) (Post : Ly → St → Nat → Nat → Prop) (σ : St) (a0 : Nat) (v1 : Int32) (v2 : Int32) (sz uz : Nat) (h_a0 : cl a0 = 14) (h : wa_Mo_reckon mc ms y Post σ a0 v1 v2) : Met l y_Mo_reckon (mw y_Mo_reckon b_Mo_reckon 6 (none)) (ra_Mo_reckon mc ms) (PCu g D [] [.ref (ad a0), .int v1, .int v2] sz uz (ws g ad y σ)) (va_Qv (fun (u : Ly × St × Nat × Nat) => Post u.1 u.2.1 u.2.2.1 u.2.2.2) (QU D (va_A (ws g ad y σ) sz) (fun u => ws g ad u.1 u.2.1) sz uz (fun u => u.2.2.1) (fun u => u.2.2.2)) (va_A (ws g ad y σ) sz)) mc ms (va_A (ws g ad y σ) sz) := by
  refine ofVu (by decide +kernel) (Nat.le_of_ble_eq_true rfl) ?_
  intro p e s m args below meth c A Q ls H locs G hsz hP hD hS hl hret
  subst hsz
  have hl : lv_has ls 6 [(0, .ref (ad a0)), (1, .int v1), (2, .int v2)] := hl
  have hd : 0 ≤ mc ∧ 0 ≤ ms := ⟨Nat.zero_le _, Nat.zero_le _⟩
  unfold wa_Mo_reckon at h
  refine lv_aload_n G.1 G.2.1 d_Mo_reckon_0 rfl (lv_at hl 0 rfl) ?_
  refine lv_iload_n G.1 G.2.1 d_Mo_reckon_1 rfl (lv_at hl 1 rfl) ?_
  refine ucVi (As := [.int v1]) (rest := []) G hP hD hS (cu_Mo_pop l D g ad y _ σ a0 v1 H.size h_a0 h) w9_Mo_pop q3947 ⟨Nat.le_of_ble_eq_true rfl, Nat.le_of_ble_eq_true rfl⟩ rfl rfl h_a0 (q := (RMo, TMo, 131)) rfl rfl hl.1 rfl (Nat.le_of_ble_eq_true rfl) rfl hd d_Mo_reckon_2 (fun r_1 s_2 H locs h hP hD hS => ?_)
  refine lv_istore_n (lv' := [(3, .int r_1), (0, .ref (ad a0)), (1, .int v1), (2, .int v2)]) G.1 G.2.1 d_Mo_reckon_5 rfl hl (by decide) rfl (fun ls hl => ?_)
  refine lv_iload_n G.1 G.2.1 d_Mo_reckon_6 rfl (lv_at hl 3 rfl) ?_
  refine lv_bipush (v := 13) G.1 G.2.1 d_Mo_reckon_7 (by decide) ?_
  refine lv_icmp_ne (tgt := 34) G.1 G.2.1 d_Mo_reckon_9 (by decide) (fun c9 => ?_) (fun c9 => ?_)
  · skip
    have h := h.1 c9
    refine lv_aload_n G.1 G.2.1 d_Mo_reckon_34 rfl (lv_at hl 1 rfl) ?_
    refine lv_iload_n G.1 G.2.1 d_Mo_reckon_35 rfl (lv_at hl 2 rfl) ?_
    refine ucVi (As := [.int v1]) (rest := []) G hP hD hS (cu_Mo_pop l D g ad y _ s_2 a0 v1 H.size h_a0 h) w9_Mo_pop q3947 ⟨Nat.le_of_ble_eq_true rfl, Nat.le_of_ble_eq_true rfl⟩ rfl rfl h_a0 (q := (RMo, TMo, 131)) rfl rfl hl.1 rfl (Nat.le_of_ble_eq_true rfl) rfl hd d_Mo_reckon_36 (fun r_3 s_4 H locs h hP hD hS => ?_)
    refine lv_istore (lv' := [(4, .int r_3), (3, .int r_1), (0, .ref (ad a0)), (1, .int v1), (2, .int v2)]) G.1 G.2.1 d_Mo_reckon_39 hl (by decide) rfl (fun ls hl => ?_)
    refine W.eq (g2 := F0 m 41 ls []) rfl ?_
    refine lv_iload_n G.1 G.2.1 d_Mo_reckon_41 rfl (lv_at hl 4 rfl) ?_
    refine lv_bipush (v := 11) G.1 G.2.1 d_Mo_reckon_42 (by decide) ?_
    have J_64 : ∀ (y_j64 : Ly) (s_j64 : St) (d_j64 e_j64 : Nat) (x1j64 : Int32) (x2j64 : Int32) (x3j64 : Int32) (x4j64 : Int32) (H : Heap) (locs : List Loc), wja_Mo_reckon_64 mc ms Post a0 y_j64 s_j64 d_j64 e_j64 x1j64 x2j64 x3j64 x4j64 → va_P D CL (ws g ad y_j64 s_j64) H → va_D A (ws g ad y_j64 s_j64) → va_S A s.heap H locs → ∀ ls, lv_has ls 6 [(0, .ref (ad a0)), (1, .int x1j64), (2, .int x2j64), (3, .int x3j64), (4, .int x4j64)] → W p l e (ra_Mo_reckon mc ms) s m args below meth c H locs d_j64 e_j64 Q (F0 m 64 ls []) := by
      intro y_j64 s_j64 d_j64 e_j64 x1j64 x2j64 x3j64 x4j64 H locs h hP hD hS ls hl
      unfold wja_Mo_reckon_64 at h
      obtain ⟨hd, h⟩ := h
      refine lv_iload_n G.1 G.2.1 d_Mo_reckon_64 rfl (lv_at hl 2 rfl) ?_
      have J_213 : ∀ (y_j213 : Ly) (s_j213 : St) (d_j213 e_j213 : Nat) (x1j213 : Int32) (x5j213 : Int32) (H : Heap) (locs : List Loc), wja_Mo_reckon_213 mc ms Post a0 y_j213 s_j213 d_j213 e_j213 x1j213 x5j213 → va_P D CL (ws g ad y_j213 s_j213) H → va_D A (ws g ad y_j213 s_j213) → va_S A s.heap H locs → ∀ ls, lv_has ls 6 [(0, .ref (ad a0)), (1, .int x1j213), (5, .int x5j213)] → W p l e (ra_Mo_reckon mc ms) s m args below meth c H locs d_j213 e_j213 Q (F0 m 213 ls []) := by
        intro y_j213 s_j213 d_j213 e_j213 x1j213 x5j213 H locs h hP hD hS ls hl
        unfold wja_Mo_reckon_213 at h
        obtain ⟨hd, h⟩ := h
        refine lv_aload_n G.1 G.2.1 d_Mo_reckon_213 rfl (lv_at hl 0 rfl) ?_
        refine lv_iload_n G.1 G.2.1 d_Mo_reckon_214 rfl (lv_at hl 1 rfl) ?_
        refine lv_iload G.1 G.2.1 d_Mo_reckon_215 (lv_at hl 2 rfl) ?_
        refine lv_iconst (v := 0) G.1 G.2.1 d_Mo_reckon_217 (by decide) ?_
        refine ucVv (As := [.int x1j213, .int x5j213, .int 0]) (rest := []) G hP hD hS (cu_Mo_push l D g ad y_j213 _ s_j213 a0 x1j213 x5j213 0 H.size h_a0 h) w9_Mo_push q3907 ⟨Nat.le_of_ble_eq_true rfl, Nat.le_of_ble_eq_true rfl⟩ rfl rfl h_a0 (q := (RMo, TMo, 131)) rfl rfl hl.1 rfl (Nat.le_of_ble_eq_true rfl) rfl hd d_Mo_reckon_218 (fun s_6 H locs h hP hD hS => ?_)
        refine lv_aload_n G.1 G.2.1 d_Mo_reckon_221 rfl (lv_at hl 0 rfl) ?_
        obtain ⟨b_7, e_8, c_9, h⟩ := h
        refine ugf (v := .ref (ad b_7)) G hP h_a0 iMo rfl 46 (by decide) rfl q3110 rfl (by show va_rf ((sO s_6 a0 46).map ad) = _; rw [e_8]; rfl) d_Mo_reckon_222 ?_
        refine ugfN (v := .ref (yP y_j213 b_7 18)) G hP c_9 iMr rfl 18 (by decide) rfl q3009 rfl rfl d_Mo_reckon_225 ?_
        refine lv_iload_n G.1 G.2.1 d_Mo_reckon_228 rfl (lv_at hl 1 rfl) ?_
        refine lv_dup2_11 G.1 G.2.1 d_Mo_reckon_229 rfl rfl ?_
        refine uiald G hP (kdp c_9 rfl) (typ c_9 rfl) h d_Mo_reckon_230 (fun x_10 h => ?_)
        refine W.eq (g2 := F0 m 231 ls [.int x_10, .int x1j213, .ref (yP y_j213 b_7 18)]) rfl ?_
        refine lv_iconst (v := 1) G.1 G.2.1 d_Mo_reckon_231 (by decide) ?_
        refine lv_iadd G.1 G.2.1 d_Mo_reckon_232 ?_
        refine uiast G hP hD hS (kdp c_9 rfl) (typ c_9 rfl) h d_Mo_reckon_233 (fun s_11 H locs h hP hD hS => ?_)
        exact hret (y_j213, s_11, d_j213, e_j213) _ _ _ _ _ ls h hP hD hS (Nat.le_refl _) (Nat.le_refl _) hd.1 hd.2 d_Mo_reckon_234
      by_cases e65_8 : x2j64 = 8
      · skip
        have h := h.1 e65_8
        refine lv_tableIn (off := 55) (tgt := 120) G.1 G.2.1 d_Mo_reckon_65 (by rw [e65_8]; decide) (by rw [e65_8]; decide) (by rw [e65_8]; rfl) (by decide) ?_
        refine lv_iload G.1 G.2.1 d_Mo_reckon_120 (lv_at hl 4 rfl) ?_
        refine lv_iload_n G.1 G.2.1 d_Mo_reckon_122 rfl (lv_at hl 3 rfl) ?_
        refine lv_iadd G.1 G.2.1 d_Mo_reckon_123 ?_
        refine lv_istore (lv' := [(5, .int (x4j64 + x3j64)), (0, .ref (ad a0)), (1, .int x1j64), (2, .int x2j64), (3, .int x3j64), (4, .int x4j64)]) G.1 G.2.1 d_Mo_reckon_124 hl (by decide) rfl (fun ls hl => ?_)
        refine lv_goto (tgt := 213) G.1 G.2.1 d_Mo_reckon_126 (by decide) ?_
        exact J_213 y_j64 s_j64 d_j64 e_j64 x1j64 (x4j64 + x3j64) H locs h hP hD hS ls (lv_sub hl [1, 2, 0] rfl)
      replace h := h.2 e65_8
      by_cases e65_9 : x2j64 = 9
      · skip
        have h := h.1 e65_9
        refine lv_tableIn (off := 64) (tgt := 129) G.1 G.2.1 d_Mo_reckon_65 (by rw [e65_9]; decide) (by rw [e65_9]; decide) (by rw [e65_9]; rfl) (by decide) ?_
        refine lv_iload G.1 G.2.1 d_Mo_reckon_129 (lv_at hl 4 rfl) ?_
        refine lv_iload_n G.1 G.2.1 d_Mo_reckon_131 rfl (lv_at hl 3 rfl) ?_
        refine lv_isub G.1 G.2.1 d_Mo_reckon_132 ?_
        refine lv_istore (lv' := [(5, .int (x4j64 - x3j64)), (0, .ref (ad a0)), (1, .int x1j64), (2, .int x2j64), (3, .int x3j64), (4, .int x4j64)]) G.1 G.2.1 d_Mo_reckon_133 hl (by decide) rfl (fun ls hl => ?_)
        refine lv_goto (tgt := 213) G.1 G.2.1 d_Mo_reckon_135 (by decide) ?_
        exact J_213 y_j64 s_j64 d_j64 e_j64 x1j64 (x4j64 - x3j64) H locs h hP hD hS ls (lv_sub hl [1, 2, 0] rfl)
      replace h := h.2 e65_9
      by_cases e65_10 : x2j64 = 10
      · skip
        have h := h.1 e65_10
        refine lv_tableIn (off := 73) (tgt := 138) G.1 G.2.1 d_Mo_reckon_65 (by rw [e65_10]; decide) (by rw [e65_10]; decide) (by rw [e65_10]; rfl) (by decide) ?_
        refine lv_iload G.1 G.2.1 d_Mo_reckon_138 (lv_at hl 4 rfl) ?_
        refine lv_iload_n G.1 G.2.1 d_Mo_reckon_140 rfl (lv_at hl 3 rfl) ?_
        refine lv_imul G.1 G.2.1 d_Mo_reckon_141 ?_
        refine lv_istore (lv' := [(5, .int (x4j64 * x3j64)), (0, .ref (ad a0)), (1, .int x1j64), (2, .int x2j64), (3, .int x3j64), (4, .int x4j64)]) G.1 G.2.1 d_Mo_reckon_142 hl (by decide) rfl (fun ls hl => ?_)
        refine lv_goto (tgt := 213) G.1 G.2.1 d_Mo_reckon_144 (by decide) ?_
        exact J_213 y_j64 s_j64 d_j64 e_j64 x1j64 (x4j64 * x3j64) H locs h hP hD hS ls (lv_sub hl [1, 2, 0] rfl)
      replace h := h.2 e65_10
      by_cases e65_11 : x2j64 = 11
      · skip
        have h := h.1 e65_11
        refine lv_tableIn (off := 82) (tgt := 147) G.1 G.2.1 d_Mo_reckon_65 (by rw [e65_11]; decide) (by rw [e65_11]; decide) (by rw [e65_11]; rfl) (by decide) ?_
        refine lv_iload G.1 G.2.1 d_Mo_reckon_147 (lv_at hl 4 rfl) ?_
        refine lv_iload_n G.1 G.2.1 d_Mo_reckon_149 rfl (lv_at hl 3 rfl) ?_
        obtain ⟨n_12, h⟩ := h
        refine lv_idiv G.1 G.2.1 d_Mo_reckon_150 n_12 ?_
        refine lv_istore (lv' := [(5, .int (x4j64 / x3j64)), (0, .ref (ad a0)), (1, .int x1j64), (2, .int x2j64), (3, .int x3j64), (4, .int x4j64)]) G.1 G.2.1 d_Mo_reckon_151 hl (by decide) rfl (fun ls hl => ?_)
        refine lv_goto (tgt := 213) G.1 G.2.1 d_Mo_reckon_153 (by decide) ?_
        exact J_213 y_j64 s_j64 d_j64 e_j64 x1j64 (x4j64 / x3j64) H locs h hP hD hS ls (lv_sub hl [1, 2, 0] rfl)
      replace h := h.2 e65_11
      by_cases e65_12 : x2j64 = 12
      · skip
        have h := h.1 e65_12
        refine lv_tableIn (off := 91) (tgt := 156) G.1 G.2.1 d_Mo_reckon_65 (by rw [e65_12]; decide) (by rw [e65_12]; decide) (by rw [e65_12]; rfl) (by decide) ?_
        refine lv_iload G.1 G.2.1 d_Mo_reckon_156 (lv_at hl 4 rfl) ?_
        refine lv_iload_n G.1 G.2.1 d_Mo_reckon_158 rfl (lv_at hl 3 rfl) ?_
        obtain ⟨n_13, h⟩ := h
        refine lv_irem G.1 G.2.1 d_Mo_reckon_159 n_13 ?_
        refine lv_istore (lv' := [(5, .int (x4j64 - x4j64 / x3j64 * x3j64)), (0, .ref (ad a0)), (1, .int x1j64), (2, .int x2j64), (3, .int x3j64), (4, .int x4j64)]) G.1 G.2.1 d_Mo_reckon_160 hl (by decide) rfl (fun ls hl => ?_)
        refine lv_goto (tgt := 213) G.1 G.2.1 d_Mo_reckon_162 (by decide) ?_
        exact J_213 y_j64 s_j64 d_j64 e_j64 x1j64 (x4j64 - x4j64 / x3j64 * x3j64) H locs h hP hD hS ls (lv_sub hl [1, 2, 0] rfl)
      replace h := h.2 e65_12
      by_cases e65_13 : x2j64 = 13
      · skip
        have h := h.1 e65_13
        refine lv_tableIn (off := 139) (tgt := 204) G.1 G.2.1 d_Mo_reckon_65 (by rw [e65_13]; decide) (by rw [e65_13]; decide) (by rw [e65_13]; rfl) (by decide) ?_
        refine lv_iload G.1 G.2.1 d_Mo_reckon_204 (lv_at hl 4 rfl) ?_
        refine lv_iload_n G.1 G.2.1 d_Mo_reckon_206 rfl (lv_at hl 3 rfl) ?_
        refine lv_bipush (v := 31) G.1 G.2.1 d_Mo_reckon_207 (by decide) ?_
        refine lv_iand G.1 G.2.1 d_Mo_reckon_209 ?_
        refine lv_ishr G.1 G.2.1 d_Mo_reckon_210 ?_
        refine lv_istore (lv' := [(5, .int (x4j64 >>> ((x3j64 &&& 31) &&& 31))), (0, .ref (ad a0)), (1, .int x1j64), (2, .int x2j64), (3, .int x3j64), (4, .int x4j64)]) G.1 G.2.1 d_Mo_reckon_211 hl (by decide) rfl (fun ls hl => ?_)
        exact J_213 y_j64 s_j64 d_j64 e_j64 x1j64 (x4j64 >>> ((x3j64 &&& 31) &&& 31)) H locs h hP hD hS ls (lv_sub hl [1, 2, 0] rfl)
      replace h := h.2 e65_13
      by_cases e65_14 : x2j64 = 14
      · skip
        have h := h.1 e65_14
        refine lv_tableIn (off := 100) (tgt := 165) G.1 G.2.1 d_Mo_reckon_65 (by rw [e65_14]; decide) (by rw [e65_14]; decide) (by rw [e65_14]; rfl) (by decide) ?_
        refine lv_iload G.1 G.2.1 d_Mo_reckon_165 (lv_at hl 4 rfl) ?_
        refine lv_iload_n G.1 G.2.1 d_Mo_reckon_167 rfl (lv_at hl 3 rfl) ?_
        refine lv_iand G.1 G.2.1 d_Mo_reckon_168 ?_
        refine lv_istore (lv' := [(5, .int (x4j64 &&& x3j64)), (0, .ref (ad a0)), (1, .int x1j64), (2, .int x2j64), (3, .int x3j64), (4, .int x4j64)]) G.1 G.2.1 d_Mo_reckon_169 hl (by decide) rfl (fun ls hl => ?_)
        refine lv_goto (tgt := 213) G.1 G.2.1 d_Mo_reckon_171 (by decide) ?_
        exact J_213 y_j64 s_j64 d_j64 e_j64 x1j64 (x4j64 &&& x3j64) H locs h hP hD hS ls (lv_sub hl [1, 2, 0] rfl)
      replace h := h.2 e65_14
      by_cases e65_15 : x2j64 = 15
      · skip
        have h := h.1 e65_15
        refine lv_tableIn (off := 109) (tgt := 174) G.1 G.2.1 d_Mo_reckon_65 (by rw [e65_15]; decide) (by rw [e65_15]; decide) (by rw [e65_15]; rfl) (by decide) ?_
        refine lv_iload G.1 G.2.1 d_Mo_reckon_174 (lv_at hl 4 rfl) ?_
        refine lv_iload_n G.1 G.2.1 d_Mo_reckon_176 rfl (lv_at hl 3 rfl) ?_
        refine lv_ior G.1 G.2.1 d_Mo_reckon_177 ?_
        refine lv_istore (lv' := [(5, .int (x4j64 ||| x3j64)), (0, .ref (ad a0)), (1, .int x1j64), (2, .int x2j64), (3, .int x3j64), (4, .int x4j64)]) G.1 G.2.1 d_Mo_reckon_178 hl (by decide) rfl (fun ls hl => ?_)
        refine lv_goto (tgt := 213) G.1 G.2.1 d_Mo_reckon_180 (by decide) ?_
        exact J_213 y_j64 s_j64 d_j64 e_j64 x1j64 (x4j64 ||| x3j64) H locs h hP hD hS ls (lv_sub hl [1, 2, 0] rfl)
      replace h := h.2 e65_15
      by_cases e65_16 : x2j64 = 16
      · skip
        have h := h.1 e65_16
        refine lv_tableIn (off := 118) (tgt := 183) G.1 G.2.1 d_Mo_reckon_65 (by rw [e65_16]; decide) (by rw [e65_16]; decide) (by rw [e65_16]; rfl) (by decide) ?_
        refine lv_iload G.1 G.2.1 d_Mo_reckon_183 (lv_at hl 4 rfl) ?_
        refine lv_iload_n G.1 G.2.1 d_Mo_reckon_185 rfl (lv_at hl 3 rfl) ?_
        refine lv_ixor G.1 G.2.1 d_Mo_reckon_186 ?_
        refine lv_istore (lv' := [(5, .int (x4j64 ^^^ x3j64)), (0, .ref (ad a0)), (1, .int x1j64), (2, .int x2j64), (3, .int x3j64), (4, .int x4j64)]) G.1 G.2.1 d_Mo_reckon_187 hl (by decide) rfl (fun ls hl => ?_)
        refine lv_goto (tgt := 213) G.1 G.2.1 d_Mo_reckon_189 (by decide) ?_
        exact J_213 y_j64 s_j64 d_j64 e_j64 x1j64 (x4j64 ^^^ x3j64) H locs h hP hD hS ls (lv_sub hl [1, 2, 0] rfl)
      replace h := h.2 e65_16
      by_cases e65_17 : x2j64 = 17
      · skip
        have h := h.1 e65_17
        refine lv_tableIn (off := 127) (tgt := 192) G.1 G.2.1 d_Mo_reckon_65 (by rw [e65_17]; decide) (by rw [e65_17]; decide) (by rw [e65_17]; rfl) (by decide) ?_
        refine lv_iload G.1 G.2.1 d_Mo_reckon_192 (lv_at hl 4 rfl) ?_
        refine lv_iload_n G.1 G.2.1 d_Mo_reckon_194 rfl (lv_at hl 3 rfl) ?_
        refine lv_bipush (v := 31) G.1 G.2.1 d_Mo_reckon_195 (by decide) ?_
        refine lv_iand G.1 G.2.1 d_Mo_reckon_197 ?_
        refine lv_ishl G.1 G.2.1 d_Mo_reckon_198 ?_
        refine lv_istore (lv' := [(5, .int (x4j64 <<< ((x3j64 &&& 31) &&& 31))), (0, .ref (ad a0)), (1, .int x1j64), (2, .int x2j64), (3, .int x3j64), (4, .int x4j64)]) G.1 G.2.1 d_Mo_reckon_199 hl (by decide) rfl (fun ls hl => ?_)
        refine lv_goto (tgt := 213) G.1 G.2.1 d_Mo_reckon_201 (by decide) ?_
        exact J_213 y_j64 s_j64 d_j64 e_j64 x1j64 (x4j64 <<< ((x3j64 &&& 31) &&& 31)) H locs h hP hD hS ls (lv_sub hl [1, 2, 0] rfl)
      replace h := h.2 e65_17
      have te65_8 := lv_neT (a := 8) e65_8 (by decide)
      have te65_9 := lv_neT (a := 9) e65_9 (by decide)
      have te65_10 := lv_neT (a := 10) e65_10 (by decide)
      have te65_11 := lv_neT (a := 11) e65_11 (by decide)
      have te65_12 := lv_neT (a := 12) e65_12 (by decide)
      have te65_13 := lv_neT (a := 13) e65_13 (by decide)
      have te65_14 := lv_neT (a := 14) e65_14 (by decide)
      have te65_15 := lv_neT (a := 15) e65_15 (by decide)
      have te65_16 := lv_neT (a := 16) e65_16 (by decide)
      have te65_17 := lv_neT (a := 17) e65_17 (by decide)
      refine lv_tableOut (tgt := 204) G.1 G.2.1 d_Mo_reckon_65 (by omega) (by decide) ?_
      refine lv_iload G.1 G.2.1 d_Mo_reckon_204 (lv_at hl 4 rfl) ?_
      refine lv_iload_n G.1 G.2.1 d_Mo_reckon_206 rfl (lv_at hl 3 rfl) ?_
      refine lv_bipush (v := 31) G.1 G.2.1 d_Mo_reckon_207 (by decide) ?_
      refine lv_iand G.1 G.2.1 d_Mo_reckon_209 ?_
      refine lv_ishr G.1 G.2.1 d_Mo_reckon_210 ?_
      refine lv_istore (lv' := [(5, .int (x4j64 >>> ((x3j64 &&& 31) &&& 31))), (0, .ref (ad a0)), (1, .int x1j64), (2, .int x2j64), (3, .int x3j64), (4, .int x4j64)]) G.1 G.2.1 d_Mo_reckon_211 hl (by decide) rfl (fun ls hl => ?_)
      exact J_213 y_j64 s_j64 d_j64 e_j64 x1j64 (x4j64 >>> ((x3j64 &&& 31) &&& 31)) H locs h hP hD hS ls (lv_sub hl [1, 2, 0] rfl)
    have J_53 : ∀ (y_j53 : Ly) (s_j53 : St) (d_j53 e_j53 : Nat) (x1j53 : Int32) (x2j53 : Int32) (x3j53 : Int32) (x4j53 : Int32) (H : Heap) (locs : List Loc), wja_Mo_reckon_53 mc ms Post a0 y_j53 s_j53 d_j53 e_j53 x1j53 x2j53 x3j53 x4j53 → va_P D CL (ws g ad y_j53 s_j53) H → va_D A (ws g ad y_j53 s_j53) → va_S A s.heap H locs → ∀ ls, lv_has ls 6 [(0, .ref (ad a0)), (1, .int x1j53), (2, .int x2j53), (3, .int x3j53), (4, .int x4j53)] → W p l e (ra_Mo_reckon mc ms) s m args below meth c H locs d_j53 e_j53 Q (F0 m 53 ls []) := by
      intro y_j53 s_j53 d_j53 e_j53 x1j53 x2j53 x3j53 x4j53 H locs h hP hD hS ls hl
      unfold wja_Mo_reckon_53 at h
      obtain ⟨hd, h⟩ := h
      refine lv_iload_n G.1 G.2.1 d_Mo_reckon_53 rfl (lv_at hl 3 rfl) ?_
      refine lv_if_ne (tgt := 64) G.1 G.2.1 d_Mo_reckon_54 (by decide) (fun c54 => ?_) (fun c54 => ?_)
      · skip
        have h := h.1 c54
        exact J_64 y_j53 s_j53 d_j53 e_j53 x1j53 x2j53 x3j53 x4j53 H locs h hP hD hS ls (lv_sub hl [0, 1, 2, 3, 4] rfl)
      · skip
        have h := h.2 c54
        refine lv_aload_n G.1 G.2.1 d_Mo_reckon_57 rfl (lv_at hl 0 rfl) ?_
        refine lv_iconst (v := 0) G.1 G.2.1 d_Mo_reckon_58 (by decide) ?_
        refine lv_iconst (v := 3) G.1 G.2.1 d_Mo_reckon_59 (by decide) ?_
        obtain ⟨mc_19, ms_20, hr_21, h⟩ := h
        refine uaVv (As := [.int 0, .int 3]) (rest := []) G hP hD hS (ca_Mo_throwNew l D g ad mc_19 ms_20 y_j53 _ s_j53 a0 0 3 H.size (us H) h_a0 h) w9_Mo_throwNew q3883 ⟨Nat.le_of_ble_eq_true rfl, Nat.le_of_ble_eq_true rfl⟩ rfl rfl h_a0 (q := (RMo, TMo, 131)) rfl rfl hl.1 rfl (Nat.le_of_ble_eq_true rfl) rfl hr_21 d_Mo_reckon_60 (fun y_16 s_15 d_17 e_18 H locs h hP hD hS => ?_)
        have hl := lv_sub (l' := []) hl [] rfl
        obtain ⟨hd, h⟩ := h
        exact hret (y_16, s_15, d_j53 + d_17, e_j53 + e_18) _ _ _ _ _ ls h hP hD hS (Nat.le_refl _) (Nat.le_refl _) hd.1 hd.2 d_Mo_reckon_63
    refine lv_icmp_eq (tgt := 53) G.1 G.2.1 d_Mo_reckon_44 (by decide) (fun c44 => ?_) (fun c44 => ?_)
    · skip
      have h := h.1 c44
      exact J_53 y s_4 0 0 v1 v2 r_1 r_3 H locs h hP hD hS ls (lv_sub hl [2, 3, 4, 1, 0] rfl)
    · skip
      have h := h.2 c44
      refine lv_iload_n G.1 G.2.1 d_Mo_reckon_47 rfl (lv_at hl 4 rfl) ?_
      refine lv_bipush (v := 12) G.1 G.2.1 d_Mo_reckon_48 (by decide) ?_
      refine lv_icmp_ne (tgt := 64) G.1 G.2.1 d_Mo_reckon_50 (by decide) (fun c50 => ?_) (fun c50 => ?_)
      · skip
        have h := h.1 c50
        exact J_64 y s_4 0 0 v1 v2 r_1 r_3 H locs h hP hD hS ls (lv_sub hl [2, 3, 4, 1, 0] rfl)
      · skip
        have h := h.2 c50
        exact J_53 y s_4 0 0 v1 v2 r_1 r_3 H locs h hP hD hS ls (lv_sub hl [2, 3, 4, 1, 0] rfl)
  · skip
    have h := h.2 c9
    refine lv_aload_n G.1 G.2.1 d_Mo_reckon_12 rfl (lv_at hl 1 rfl) ?_
    refine lv_iload_n G.1 G.2.1 d_Mo_reckon_13 rfl (lv_at hl 2 rfl) ?_
    refine lv_iload_n G.1 G.2.1 d_Mo_reckon_14 rfl (lv_at hl 0 rfl) ?_
    refine lv_ineg G.1 G.2.1 d_Mo_reckon_15 ?_
    refine W.eq (g2 := F0 m 16 ls [.int (-r_1), .int v1, .ref (ad a0)]) rfl ?_
    refine lv_iconst (v := 0) G.1 G.2.1 d_Mo_reckon_16 (by decide) ?_
    refine ucVv (As := [.int v1, .int (-r_1), .int 0]) (rest := []) G hP hD hS (cu_Mo_push l D g ad y _ s_2 a0 v1 (-r_1) 0 H.size h_a0 h) w9_Mo_push q3907 ⟨Nat.le_of_ble_eq_true rfl, Nat.le_of_ble_eq_true rfl⟩ rfl rfl h_a0 (q := (RMo, TMo, 131)) rfl rfl hl.1 rfl (Nat.le_of_ble_eq_true rfl) rfl hd d_Mo_reckon_17 (fun s_23 H locs h hP hD hS => ?_)
    refine lv_aload_n G.1 G.2.1 d_Mo_reckon_20 rfl (lv_at hl 1 rfl) ?_
    obtain ⟨b_24, e_25, c_26, h⟩ := h
    refine ugf (v := .ref (ad b_24)) G hP h_a0 iMo rfl 46 (by decide) rfl q3110 rfl (by show va_rf ((sO s_23 a0 46).map ad) = _; rw [e_25]; rfl) d_Mo_reckon_21 ?_
    refine ugfN (v := .ref (yP y b_24 18)) G hP c_26 iMr rfl 18 (by decide) rfl q3009 rfl rfl d_Mo_reckon_24 ?_
    refine lv_iload_n G.1 G.2.1 d_Mo_reckon_27 rfl (lv_at hl 2 rfl) ?_
    refine lv_dup2_11 G.1 G.2.1 d_Mo_reckon_28 rfl rfl ?_
    refine uiald G hP (kdp c_26 rfl) (typ c_26 rfl) h d_Mo_reckon_29 (fun x_27 h => ?_)
    refine lv_iconst (v := 1) G.1 G.2.1 d_Mo_reckon_30 (by decide) ?_
    refine lv_iadd G.1 G.2.1 d_Mo_reckon_31 ?_
    refine uiast G hP hD hS (kdp c_26 rfl) (typ c_26 rfl) h d_Mo_reckon_32 (fun s_28 H locs h hP hD hS => ?_)
    exact hret (y, s_28, 0, 0) _ _ _ _ _ ls h hP hD hS (Nat.le_refl _) (Nat.le_refl _) hd.1 hd.2 d_Mo_reckon_33
theorem q3975 : Cond.methodLink "ClassWorksModel" 1072 y_Mo_newThing ∈ lw_ok := lw_okmem (List.mem_of_getElem? (i := 3975) (by decide +kernel)) rfl
theorem q3978 : Cond.code y_Mo_newThing b_Mo_newThing 5 (some .int) ∈ lw_ok := lw_okmem (List.mem_of_getElem? (i := 3978) (by decide +kernel)) rfl
theorem q3977 : Cond.instanceMethod y_Mo_newThing ∈ lw_ok := lw_okmem (List.mem_of_getElem? (i := 3977) (by decide +kernel)) rfl
theorem q283 : Cond.selects y_Mo_newThing.cls y_Mo_newThing y_Mo_newThing ∈ lw_ok := lw_okmem (List.mem_of_getElem? (i := 283) (by decide +kernel)) rfl
theorem w9_Mo_newThing : CWv y_Mo_newThing b_Mo_newThing 5 (some .int) 2 ∧ Cond.instanceMethod y_Mo_newThing ∈ lw_ok ∧ Cond.selects y_Mo_newThing.cls y_Mo_newThing y_Mo_newThing ∈ lw_ok := ⟨⟨q3978, q348, by decide +kernel, by decide +kernel, by decide +kernel⟩, q3977, q283⟩
def y_Mo_rowStep : MethodName := ⟨"ClassWorksModel", "rowStep", "(II)V"⟩
abbrev b_Mo_rowStep : ByteArray := prog_14_method_112_code
theorem d_Mo_rowStep_0 : decode b_Mo_rowStep 0 = .ok (.iload_n 2, 1) := by decide +kernel
theorem d_Mo_rowStep_1 : decode b_Mo_rowStep 1 = .ok (.bipush 44, 2) := by decide +kernel
theorem d_Mo_rowStep_3 : decode b_Mo_rowStep 3 = .ok (.if_icmp .ne 11, 3) := by decide +kernel
theorem d_Mo_rowStep_6 : decode b_Mo_rowStep 6 = .ok (.aload_n 0, 1) := by decide +kernel
theorem d_Mo_rowStep_7 : decode b_Mo_rowStep 7 = .ok (.iload_n 1, 1) := by decide +kernel
theorem d_Mo_rowStep_8 : decode b_Mo_rowStep 8 = .ok (.invokevirtual 1057, 3) := by decide +kernel
theorem d_Mo_rowStep_11 : decode b_Mo_rowStep 11 = .ok (.goto 4, 3) := by decide +kernel
theorem d_Mo_rowStep_14 : decode b_Mo_rowStep 14 = .ok (.iconst 0, 1) := by decide +kernel
theorem d_Mo_rowStep_15 : decode b_Mo_rowStep 15 = .ok (.istore_n 3, 1) := by decide +kernel
theorem d_Mo_rowStep_16 : decode b_Mo_rowStep 16 = .ok (.iload_n 2, 1) := by decide +kernel
theorem d_Mo_rowStep_17 : decode b_Mo_rowStep 17 = .ok (.bipush 45, 2) := by decide +kernel
theorem d_Mo_rowStep_19 : decode b_Mo_rowStep 19 = .ok (.if_icmp .ne 7, 3) := by decide +kernel
theorem d_Mo_rowStep_22 : decode b_Mo_rowStep 22 = .ok (.iconst 0, 1) := by decide +kernel
theorem d_Mo_rowStep_23 : decode b_Mo_rowStep 23 = .ok (.goto 8, 3) := by decide +kernel
theorem d_Mo_rowStep_26 : decode b_Mo_rowStep 26 = .ok (.aload_n 0, 1) := by decide +kernel
theorem d_Mo_rowStep_27 : decode b_Mo_rowStep 27 = .ok (.iload_n 1, 1) := by decide +kernel
theorem d_Mo_rowStep_28 : decode b_Mo_rowStep 28 = .ok (.invokevirtual 1057, 3) := by decide +kernel
theorem d_Mo_rowStep_31 : decode b_Mo_rowStep 31 = .ok (.istore 4, 2) := by decide +kernel
theorem d_Mo_rowStep_33 : decode b_Mo_rowStep 33 = .ok (.iload_n 2, 1) := by decide +kernel
theorem d_Mo_rowStep_34 : decode b_Mo_rowStep 34 = .ok (.bipush 42, 2) := by decide +kernel
theorem d_Mo_rowStep_36 : decode b_Mo_rowStep 36 = .ok (.if_icmp .ne 73, 3) := by decide +kernel
theorem d_Mo_rowStep_39 : decode b_Mo_rowStep 39 = .ok (.iload 4, 2) := by decide +kernel
theorem d_Mo_rowStep_41 : decode b_Mo_rowStep 41 = .ok (.ifCond .lt 11, 3) := by decide +kernel
theorem d_Mo_rowStep_44 : decode b_Mo_rowStep 44 = .ok (.iload 4, 2) := by decide +kernel
theorem d_Mo_rowStep_46 : decode b_Mo_rowStep 46 = .ok (.sipush 300, 3) := by decide +kernel
theorem d_Mo_rowStep_49 : decode b_Mo_rowStep 49 = .ok (.if_icmp .le 7, 3) := by decide +kernel
theorem d_Mo_rowStep_52 : decode b_Mo_rowStep 52 = .ok (.iconst (-1), 1) := by decide +kernel
theorem d_Mo_rowStep_53 : decode b_Mo_rowStep 53 = .ok (.goto 10, 3) := by decide +kernel
theorem d_Mo_rowStep_56 : decode b_Mo_rowStep 56 = .ok (.aload_n 0, 1) := by decide +kernel
theorem d_Mo_rowStep_57 : decode b_Mo_rowStep 57 = .ok (.iconst (-1), 1) := by decide +kernel
theorem d_Mo_rowStep_58 : decode b_Mo_rowStep 58 = .ok (.iload 4, 2) := by decide +kernel
theorem d_Mo_rowStep_60 : decode b_Mo_rowStep 60 = .ok (.invokevirtual 1072, 3) := by decide +kernel
theorem d_Mo_rowStep_63 : decode b_Mo_rowStep 63 = .ok (.istore 5, 2) := by decide +kernel
theorem d_Mo_rowStep_65 : decode b_Mo_rowStep 65 = .ok (.iload 5, 2) := by decide +kernel
theorem d_Mo_rowStep_67 : decode b_Mo_rowStep 67 = .ok (.ifCond .ge 20, 3) := by decide +kernel
theorem d_Mo_rowStep_70 : decode b_Mo_rowStep 70 = .ok (.aload_n 0, 1) := by decide +kernel
theorem d_Mo_rowStep_71 : decode b_Mo_rowStep 71 = .ok (.iconst 0, 1) := by decide +kernel
theorem d_Mo_rowStep_72 : decode b_Mo_rowStep 72 = .ok (.iload 4, 2) := by decide +kernel
theorem d_Mo_rowStep_74 : decode b_Mo_rowStep 74 = .ok (.ifCond .ge 7, 3) := by decide +kernel
theorem d_Mo_rowStep_77 : decode b_Mo_rowStep 77 = .ok (.iconst 5, 1) := by decide +kernel
theorem d_Mo_rowStep_78 : decode b_Mo_rowStep 78 = .ok (.goto 5, 3) := by decide +kernel
theorem d_Mo_rowStep_81 : decode b_Mo_rowStep 81 = .ok (.bipush 9, 2) := by decide +kernel
theorem d_Mo_rowStep_83 : decode b_Mo_rowStep 83 = .ok (.invokevirtual 1001, 3) := by decide +kernel
theorem d_Mo_rowStep_86 : decode b_Mo_rowStep 86 = .ok (.return_, 1) := by decide +kernel
theorem d_Mo_rowStep_87 : decode b_Mo_rowStep 87 = .ok (.aload_n 0, 1) := by decide +kernel
theorem d_Mo_rowStep_88 : decode b_Mo_rowStep 88 = .ok (.iload_n 1, 1) := by decide +kernel
theorem d_Mo_rowStep_89 : decode b_Mo_rowStep 89 = .ok (.iload 5, 2) := by decide +kernel
theorem d_Mo_rowStep_91 : decode b_Mo_rowStep 91 = .ok (.iconst 1, 1) := by decide +kernel
theorem d_Mo_rowStep_92 : decode b_Mo_rowStep 92 = .ok (.invokevirtual 970, 3) := by decide +kernel
theorem d_Mo_rowStep_95 : decode b_Mo_rowStep 95 = .ok (.aload_n 0, 1) := by decide +kernel
theorem d_Mo_rowStep_96 : decode b_Mo_rowStep 96 = .ok (.getfield 917, 3) := by decide +kernel
theorem d_Mo_rowStep_99 : decode b_Mo_rowStep 99 = .ok (.getfield 930, 3) := by decide +kernel
theorem d_Mo_rowStep_102 : decode b_Mo_rowStep 102 = .ok (.iload_n 1, 1) := by decide +kernel
theorem d_Mo_rowStep_103 : decode b_Mo_rowStep 103 = .ok (.dup2, 1) := by decide +kernel
theorem d_Mo_rowStep_104 : decode b_Mo_rowStep 104 = .ok (.iaload, 1) := by decide +kernel
theorem d_Mo_rowStep_105 : decode b_Mo_rowStep 105 = .ok (.iconst 1, 1) := by decide +kernel
theorem d_Mo_rowStep_106 : decode b_Mo_rowStep 106 = .ok (.iadd, 1) := by decide +kernel
theorem d_Mo_rowStep_107 : decode b_Mo_rowStep 107 = .ok (.iastore, 1) := by decide +kernel
theorem d_Mo_rowStep_108 : decode b_Mo_rowStep 108 = .ok (.return_, 1) := by decide +kernel
theorem d_Mo_rowStep_109 : decode b_Mo_rowStep 109 = .ok (.aload_n 0, 1) := by decide +kernel
theorem d_Mo_rowStep_110 : decode b_Mo_rowStep 110 = .ok (.iload_n 1, 1) := by decide +kernel
theorem d_Mo_rowStep_111 : decode b_Mo_rowStep 111 = .ok (.invokevirtual 1057, 3) := by decide +kernel
theorem d_Mo_rowStep_114 : decode b_Mo_rowStep 114 = .ok (.istore 5, 2) := by decide +kernel
theorem d_Mo_rowStep_116 : decode b_Mo_rowStep 116 = .ok (.iload 5, 2) := by decide +kernel
theorem d_Mo_rowStep_118 : decode b_Mo_rowStep 118 = .ok (.ifCond .ne 10, 3) := by decide +kernel
theorem d_Mo_rowStep_121 : decode b_Mo_rowStep 121 = .ok (.aload_n 0, 1) := by decide +kernel
theorem d_Mo_rowStep_122 : decode b_Mo_rowStep 122 = .ok (.iconst 0, 1) := by decide +kernel
theorem d_Mo_rowStep_123 : decode b_Mo_rowStep 123 = .ok (.iconst 2, 1) := by decide +kernel
theorem d_Mo_rowStep_124 : decode b_Mo_rowStep 124 = .ok (.invokevirtual 1001, 3) := by decide +kernel
theorem d_Mo_rowStep_127 : decode b_Mo_rowStep 127 = .ok (.return_, 1) := by decide +kernel
theorem d_Mo_rowStep_128 : decode b_Mo_rowStep 128 = .ok (.aload_n 0, 1) := by decide +kernel
theorem d_Mo_rowStep_129 : decode b_Mo_rowStep 129 = .ok (.getfield 522, 3) := by decide +kernel
theorem d_Mo_rowStep_132 : decode b_Mo_rowStep 132 = .ok (.getfield 887, 3) := by decide +kernel
theorem d_Mo_rowStep_135 : decode b_Mo_rowStep 135 = .ok (.iload 5, 2) := by decide +kernel
theorem d_Mo_rowStep_137 : decode b_Mo_rowStep 137 = .ok (.iaload, 1) := by decide +kernel
theorem d_Mo_rowStep_138 : decode b_Mo_rowStep 138 = .ok (.istore 6, 2) := by decide +kernel
theorem d_Mo_rowStep_140 : decode b_Mo_rowStep 140 = .ok (.iload_n 2, 1) := by decide +kernel
theorem d_Mo_rowStep_141 : decode b_Mo_rowStep 141 = .ok (.bipush 45, 2) := by decide +kernel
theorem d_Mo_rowStep_143 : decode b_Mo_rowStep 143 = .ok (.if_icmp .eq 22, 3) := by decide +kernel
theorem d_Mo_rowStep_146 : decode b_Mo_rowStep 146 = .ok (.iload 4, 2) := by decide +kernel
theorem d_Mo_rowStep_148 : decode b_Mo_rowStep 148 = .ok (.ifCond .lt 10, 3) := by decide +kernel
theorem d_Mo_rowStep_151 : decode b_Mo_rowStep 151 = .ok (.iload 4, 2) := by decide +kernel
theorem d_Mo_rowStep_153 : decode b_Mo_rowStep 153 = .ok (.iload 6, 2) := by decide +kernel
theorem d_Mo_rowStep_155 : decode b_Mo_rowStep 155 = .ok (.if_icmp .lt 10, 3) := by decide +kernel
theorem d_Mo_rowStep_158 : decode b_Mo_rowStep 158 = .ok (.aload_n 0, 1) := by decide +kernel
theorem d_Mo_rowStep_159 : decode b_Mo_rowStep 159 = .ok (.iconst 0, 1) := by decide +kernel
theorem d_Mo_rowStep_160 : decode b_Mo_rowStep 160 = .ok (.iconst 4, 1) := by decide +kernel
theorem d_Mo_rowStep_161 : decode b_Mo_rowStep 161 = .ok (.invokevirtual 1001, 3) := by decide +kernel
theorem d_Mo_rowStep_164 : decode b_Mo_rowStep 164 = .ok (.return_, 1) := by decide +kernel
theorem d_Mo_rowStep_165 : decode b_Mo_rowStep 165 = .ok (.iload_n 2, 1) := by decide +kernel
theorem d_Mo_rowStep_166 : decode b_Mo_rowStep 166 = .ok (.bipush 44, 2) := by decide +kernel
theorem d_Mo_rowStep_168 : decode b_Mo_rowStep 168 = .ok (.if_icmp .ne 28, 3) := by decide +kernel
theorem d_Mo_rowStep_171 : decode b_Mo_rowStep 171 = .ok (.aload_n 0, 1) := by decide +kernel
theorem d_Mo_rowStep_172 : decode b_Mo_rowStep 172 = .ok (.getfield 522, 3) := by decide +kernel
theorem d_Mo_rowStep_175 : decode b_Mo_rowStep 175 = .ok (.getfield 893, 3) := by decide +kernel
theorem d_Mo_rowStep_178 : decode b_Mo_rowStep 178 = .ok (.aload_n 0, 1) := by decide +kernel
theorem d_Mo_rowStep_179 : decode b_Mo_rowStep 179 = .ok (.getfield 522, 3) := by decide +kernel
theorem d_Mo_rowStep_182 : decode b_Mo_rowStep 182 = .ok (.getfield 884, 3) := by decide +kernel
theorem d_Mo_rowStep_185 : decode b_Mo_rowStep 185 = .ok (.iload 5, 2) := by decide +kernel
theorem d_Mo_rowStep_187 : decode b_Mo_rowStep 187 = .ok (.iaload, 1) := by decide +kernel
theorem d_Mo_rowStep_188 : decode b_Mo_rowStep 188 = .ok (.iload 4, 2) := by decide +kernel
theorem d_Mo_rowStep_190 : decode b_Mo_rowStep 190 = .ok (.iadd, 1) := by decide +kernel
theorem d_Mo_rowStep_191 : decode b_Mo_rowStep 191 = .ok (.iload_n 3, 1) := by decide +kernel
theorem d_Mo_rowStep_192 : decode b_Mo_rowStep 192 = .ok (.iastore, 1) := by decide +kernel
theorem d_Mo_rowStep_193 : decode b_Mo_rowStep 193 = .ok (.goto 41, 3) := by decide +kernel
theorem d_Mo_rowStep_196 : decode b_Mo_rowStep 196 = .ok (.aload_n 0, 1) := by decide +kernel
theorem d_Mo_rowStep_197 : decode b_Mo_rowStep 197 = .ok (.iload_n 1, 1) := by decide +kernel
theorem d_Mo_rowStep_198 : decode b_Mo_rowStep 198 = .ok (.iload_n 2, 1) := by decide +kernel
theorem d_Mo_rowStep_199 : decode b_Mo_rowStep 199 = .ok (.bipush 45, 2) := by decide +kernel
theorem d_Mo_rowStep_201 : decode b_Mo_rowStep 201 = .ok (.if_icmp .ne 8, 3) := by decide +kernel
theorem d_Mo_rowStep_204 : decode b_Mo_rowStep 204 = .ok (.iload 6, 2) := by decide +kernel
theorem d_Mo_rowStep_206 : decode b_Mo_rowStep 206 = .ok (.goto 24, 3) := by decide +kernel
theorem d_Mo_rowStep_209 : decode b_Mo_rowStep 209 = .ok (.aload_n 0, 1) := by decide +kernel
theorem d_Mo_rowStep_210 : decode b_Mo_rowStep 210 = .ok (.getfield 522, 3) := by decide +kernel
theorem d_Mo_rowStep_213 : decode b_Mo_rowStep 213 = .ok (.getfield 893, 3) := by decide +kernel
theorem d_Mo_rowStep_216 : decode b_Mo_rowStep 216 = .ok (.aload_n 0, 1) := by decide +kernel
theorem d_Mo_rowStep_217 : decode b_Mo_rowStep 217 = .ok (.getfield 522, 3) := by decide +kernel
theorem d_Mo_rowStep_220 : decode b_Mo_rowStep 220 = .ok (.getfield 884, 3) := by decide +kernel
theorem d_Mo_rowStep_223 : decode b_Mo_rowStep 223 = .ok (.iload 5, 2) := by decide +kernel
theorem d_Mo_rowStep_225 : decode b_Mo_rowStep 225 = .ok (.iaload, 1) := by decide +kernel
theorem d_Mo_rowStep_226 : decode b_Mo_rowStep 226 = .ok (.iload 4, 2) := by decide +kernel
theorem d_Mo_rowStep_228 : decode b_Mo_rowStep 228 = .ok (.iadd, 1) := by decide +kernel
theorem d_Mo_rowStep_229 : decode b_Mo_rowStep 229 = .ok (.iaload, 1) := by decide +kernel
theorem d_Mo_rowStep_230 : decode b_Mo_rowStep 230 = .ok (.iconst 0, 1) := by decide +kernel
theorem d_Mo_rowStep_231 : decode b_Mo_rowStep 231 = .ok (.invokevirtual 970, 3) := by decide +kernel
theorem d_Mo_rowStep_234 : decode b_Mo_rowStep 234 = .ok (.aload_n 0, 1) := by decide +kernel
theorem d_Mo_rowStep_235 : decode b_Mo_rowStep 235 = .ok (.getfield 917, 3) := by decide +kernel
theorem d_Mo_rowStep_238 : decode b_Mo_rowStep 238 = .ok (.getfield 930, 3) := by decide +kernel
theorem d_Mo_rowStep_241 : decode b_Mo_rowStep 241 = .ok (.iload_n 1, 1) := by decide +kernel
theorem d_Mo_rowStep_242 : decode b_Mo_rowStep 242 = .ok (.dup2, 1) := by decide +kernel
theorem d_Mo_rowStep_243 : decode b_Mo_rowStep 243 = .ok (.iaload, 1) := by decide +kernel
theorem d_Mo_rowStep_244 : decode b_Mo_rowStep 244 = .ok (.iconst 1, 1) := by decide +kernel
theorem d_Mo_rowStep_245 : decode b_Mo_rowStep 245 = .ok (.iadd, 1) := by decide +kernel
theorem d_Mo_rowStep_246 : decode b_Mo_rowStep 246 = .ok (.iastore, 1) := by decide +kernel
theorem d_Mo_rowStep_247 : decode b_Mo_rowStep 247 = .ok (.return_, 1) := by decide +kernel
abbrev ra_Mo_rowStep (mc ms : Nat) : Room := { frames := 8, cells := mc, slots := ms, locals := 220 }
def wja_Mo_rowStep_234 (mc ms : Nat) (Post : Ly → St → Nat → Nat → Prop) (a0 : Nat) (y_j234 : Ly) (s_j234 : St) (d_j234 e_j234 : Nat) (x1j234 : Int32) : Prop := (d_j234 ≤ mc ∧ e_j234 ≤ ms) ∧ ∃ b_7 : Nat, sO s_j234 a0 46 = some b_7 ∧ cl b_7 = 12 ∧ xA y_j234 s_j234 b_7 18 x1j234 (fun x_10 : Int32 => xS y_j234 s_j234 b_7 18 x1j234 (x_10 + 1) (fun s_11 : St => Post y_j234 s_11 d_j234 e_j234))
def wja_Mo_rowStep_230 (mc ms : Nat) (Post : Ly → St → Nat → Nat → Prop) (a0 : Nat) (y_j230 : Ly) (s_j230 : St) (d_j230 e_j230 : Nat) (x1j230 : Int32) (z1j230 : Int32) (z2j230 : Int32) : Prop := (d_j230 ≤ mc ∧ e_j230 ≤ ms) ∧ wu_Mo_push y_j230 (fun (s_13 : St) => wja_Mo_rowStep_234 mc ms Post a0 y_j230 s_13 d_j230 e_j230 x1j230) s_j230 a0 z1j230 z2j230 0
def wja_Mo_rowStep_165 (mc ms : Nat) (Post : Ly → St → Nat → Nat → Prop) (a0 : Nat) (y_j165 : Ly) (s_j165 : St) (d_j165 e_j165 : Nat) (x1j165 : Int32) (x2j165 : Int32) (x3j165 : Int32) (x4j165 : Int32) (x5j165 : Int32) (x6j165 : Int32) : Prop := (d_j165 ≤ mc ∧ e_j165 ≤ ms) ∧ ((¬ x2j165 = 44 → ((¬ x2j165 = 45 → ∃ b_14 : Nat, sO s_j165 a0 45 = some b_14 ∧ cl b_14 = 13 ∧ xA y_j165 s_j165 b_14 46 x5j165 (fun x_17 : Int32 => xA y_j165 s_j165 b_14 51 (x_17 + x4j165) (fun x_18 : Int32 => wja_Mo_rowStep_230 mc ms Post a0 y_j165 s_j165 d_j165 e_j165 x1j165 x1j165 x_18))) ∧ (x2j165 = 45 → wja_Mo_rowStep_230 mc ms Post a0 y_j165 s_j165 d_j165 e_j165 x1j165 x1j165 x6j165))) ∧ (x2j165 = 44 → ∃ b_19 : Nat, sO s_j165 a0 45 = some b_19 ∧ cl b_19 = 13 ∧ xA y_j165 s_j165 b_19 46 x5j165 (fun x_22 : Int32 => xS y_j165 s_j165 b_19 51 (x_22 + x4j165) x3j165 (fun s_23 : St => wja_Mo_rowStep_234 mc ms Post a0 y_j165 s_23 d_j165 e_j165 x1j165))))
def wja_Mo_rowStep_158 (mc ms : Nat) (Post : Ly → St → Nat → Nat → Prop) (a0 : Nat) (y_j158 : Ly) (s_j158 : St) (d_j158 e_j158 : Nat) : Prop := (d_j158 ≤ mc ∧ e_j158 ≤ ms) ∧ ∃ mc_29 ms_30 : Nat, (d_j158 + mc_29 ≤ mc ∧ e_j158 + ms_30 ≤ ms) ∧ wa_Mo_throwNew mc_29 ms_30 y_j158 (fun (y_26 : Ly) (s_25 : St) (d_27 e_28 : Nat) => (d_j158 + d_27 ≤ mc ∧ e_j158 + e_28 ≤ ms) ∧ Post y_26 s_25 (d_j158 + d_27) (e_j158 + e_28)) s_j158 a0 0 4
def wja_Mo_rowStep_83 (mc ms : Nat) (Post : Ly → St → Nat → Nat → Prop) (a0 : Nat) (y_j83 : Ly) (s_j83 : St) (d_j83 e_j83 : Nat) (z1j83 : Int32) (z2j83 : Int32) : Prop := (d_j83 ≤ mc ∧ e_j83 ≤ ms) ∧ ∃ mc_52 ms_53 : Nat, (d_j83 + mc_52 ≤ mc ∧ e_j83 + ms_53 ≤ ms) ∧ wa_Mo_throwNew mc_52 ms_53 y_j83 (fun (y_49 : Ly) (s_48 : St) (d_50 e_51 : Nat) => (d_j83 + d_50 ≤ mc ∧ e_j83 + e_51 ≤ ms) ∧ Post y_49 s_48 (d_j83 + d_50) (e_j83 + e_51)) s_j83 a0 z1j83 z2j83
def wja_Mo_rowStep_63 (mc ms : Nat) (Post : Ly → St → Nat → Nat → Prop) (a0 : Nat) (y_j63 : Ly) (s_j63 : St) (d_j63 e_j63 : Nat) (x1j63 : Int32) (x4j63 : Int32) (z0j63 : Int32) : Prop := (d_j63 ≤ mc ∧ e_j63 ≤ ms) ∧ ((0 ≤ z0j63 → wu_Mo_push y_j63 (fun (s_41 : St) => ∃ b_42 : Nat, sO s_41 a0 46 = some b_42 ∧ cl b_42 = 12 ∧ xA y_j63 s_41 b_42 18 x1j63 (fun x_45 : Int32 => xS y_j63 s_41 b_42 18 x1j63 (x_45 + 1) (fun s_46 : St => Post y_j63 s_46 d_j63 e_j63))) s_j63 a0 x1j63 z0j63 1) ∧ (¬ (0 ≤ z0j63) → ((0 ≤ x4j63 → wja_Mo_rowStep_83 mc ms Post a0 y_j63 s_j63 d_j63 e_j63 0 9) ∧ (¬ (0 ≤ x4j63) → wja_Mo_rowStep_83 mc ms Post a0 y_j63 s_j63 d_j63 e_j63 0 5))))
def wja_Mo_rowStep_52 (mc ms : Nat) (Post : Ly → St → Nat → Nat → Prop) (a0 : Nat) (y_j52 : Ly) (s_j52 : St) (d_j52 e_j52 : Nat) (x1j52 : Int32) (x4j52 : Int32) : Prop := (d_j52 ≤ mc ∧ e_j52 ≤ ms) ∧ wja_Mo_rowStep_63 mc ms Post a0 y_j52 s_j52 d_j52 e_j52 x1j52 x4j52 (-1)
def wja_Mo_rowStep_31 (mc ms : Nat) (Post : Ly → St → Nat → Nat → Prop) (a0 : Nat) (y_j31 : Ly) (s_j31 : St) (d_j31 e_j31 : Nat) (x1j31 : Int32) (x2j31 : Int32) (x3j31 : Int32) (z0j31 : Int32) : Prop := (d_j31 ≤ mc ∧ e_j31 ≤ ms) ∧ ((¬ x2j31 = 42 → wu_Mo_pop y_j31 (fun (s_2 : St) (r_1 : Int32) => ((¬ r_1 = 0 → ∃ b_3 : Nat, sO s_2 a0 45 = some b_3 ∧ cl b_3 = 13 ∧ xA y_j31 s_2 b_3 47 r_1 (fun x_6 : Int32 => ((x2j31 = 45 → wja_Mo_rowStep_165 mc ms Post a0 y_j31 s_2 d_j31 e_j31 x1j31 x2j31 x3j31 z0j31 r_1 x_6) ∧ (¬ (x2j31 = 45) → ((z0j31 < 0 → wja_Mo_rowStep_158 mc ms Post a0 y_j31 s_2 d_j31 e_j31) ∧ (¬ (z0j31 < 0) → ((z0j31 < x_6 → wja_Mo_rowStep_165 mc ms Post a0 y_j31 s_2 d_j31 e_j31 x1j31 x2j31 x3j31 z0j31 r_1 x_6) ∧ (¬ (z0j31 < x_6) → wja_Mo_rowStep_158 mc ms Post a0 y_j31 s_2 d_j31 e_j31)))))))) ∧ (r_1 = 0 → ∃ mc_37 ms_38 : Nat, (d_j31 + mc_37 ≤ mc ∧ e_j31 + ms_38 ≤ ms) ∧ wa_Mo_throwNew mc_37 ms_38 y_j31 (fun (y_34 : Ly) (s_33 : St) (d_35 e_36 : Nat) => (d_j31 + d_35 ≤ mc ∧ e_j31 + e_36 ≤ ms) ∧ Post y_34 s_33 (d_j31 + d_35) (e_j31 + e_36)) s_2 a0 0 2))) s_j31 a0 x1j31) ∧ (x2j31 = 42 → ((z0j31 < 0 → wja_Mo_rowStep_52 mc ms Post a0 y_j31 s_j31 d_j31 e_j31 x1j31 z0j31) ∧ (¬ (z0j31 < 0) → ((z0j31 ≤ 300 → wu_Mo_newThing y_j31 (fun (s_56 : St) (r_55 : Int32) => wja_Mo_rowStep_63 mc ms Post a0 y_j31 s_56 d_j31 e_j31 x1j31 z0j31 r_55) s_j31 a0 (-1) z0j31) ∧ (¬ (z0j31 ≤ 300) → wja_Mo_rowStep_52 mc ms Post a0 y_j31 s_j31 d_j31 e_j31 x1j31 z0j31))))))
def wja_Mo_rowStep_15 (mc ms : Nat) (Post : Ly → St → Nat → Nat → Prop) (a0 : Nat) (y_j15 : Ly) (s_j15 : St) (d_j15 e_j15 : Nat) (x1j15 : Int32) (x2j15 : Int32) (z0j15 : Int32) : Prop := (d_j15 ≤ mc ∧ e_j15 ≤ ms) ∧ ((¬ x2j15 = 45 → wu_Mo_pop y_j15 (fun (s_58 : St) (r_57 : Int32) => wja_Mo_rowStep_31 mc ms Post a0 y_j15 s_58 d_j15 e_j15 x1j15 x2j15 z0j15 r_57) s_j15 a0 x1j15) ∧ (x2j15 = 45 → wja_Mo_rowStep_31 mc ms Post a0 y_j15 s_j15 d_j15 e_j15 x1j15 x2j15 z0j15 0))
def wa_Mo_rowStep (mc ms : Nat) (y : Ly) (Post : Ly → St → Nat → Nat → Prop) (σ : St) (a0 : Nat) (v1 : Int32) (v2 : Int32) : Prop := ((¬ v2 = 44 → wja_Mo_rowStep_15 mc ms Post a0 y σ 0 0 v1 v2 0) ∧ (v2 = 44 → wu_Mo_pop y (fun (s_60 : St) (r_59 : Int32) => wja_Mo_rowStep_15 mc ms Post a0 y s_60 0 0 v1 v2 r_59) σ a0 v1))
set_option maxHeartbeats 4000000 in
set_option maxRecDepth 100000 in
theorem ca_Mo_rowStep (l : Launch) (D : va_G) (g : Nat → ClassId) (ad : Nat → Nat) (mc ms : Nat) (y : Ly) (Post : Ly → St → Nat → Nat → Prop) (σ : St) (a0 : Nat) (v1 : Int32) (v2 : Int32) (sz uz : Nat) (h_a0 : cl a0 = 14) (h : wa_Mo_rowStep mc ms y Post σ a0 v1 v2) : Met l y_Mo_rowStep (mw y_Mo_rowStep b_Mo_rowStep 7 (none)) (ra_Mo_rowStep mc ms) (PCu g D [] [.ref (ad a0), .int v1, .int v2] sz uz (ws g ad y σ)) (va_Qv (fun (u : Ly × St × Nat × Nat) => Post u.1 u.2.1 u.2.2.1 u.2.2.2) (QU D (va_A (ws g ad y σ) sz) (fun u => ws g ad u.1 u.2.1) sz uz (fun u => u.2.2.1) (fun u => u.2.2.2)) (va_A (ws g ad y σ) sz)) mc ms (va_A (ws g ad y σ) sz) := by
  refine ofVu (by decide +kernel) (Nat.le_of_ble_eq_true rfl) ?_
  intro p e s m args below meth c A Q ls H locs G hsz hP hD hS hl hret
  subst hsz
  have hl : lv_has ls 7 [(0, .ref (ad a0)), (1, .int v1), (2, .int v2)] := hl
  have hd : 0 ≤ mc ∧ 0 ≤ ms := ⟨Nat.zero_le _, Nat.zero_le _⟩
  unfold wa_Mo_rowStep at h
  refine lv_iload_n G.1 G.2.1 d_Mo_rowStep_0 rfl (lv_at hl 2 rfl) ?_
  refine lv_bipush (v := 44) G.1 G.2.1 d_Mo_rowStep_1 (by decide) ?_
  have J_15 : ∀ (y_j15 : Ly) (s_j15 : St) (d_j15 e_j15 : Nat) (x1j15 : Int32) (x2j15 : Int32) (z0j15 : Int32) (H : Heap) (locs : List Loc), wja_Mo_rowStep_15 mc ms Post a0 y_j15 s_j15 d_j15 e_j15 x1j15 x2j15 z0j15 → va_P D CL (ws g ad y_j15 s_j15) H → va_D A (ws g ad y_j15 s_j15) → va_S A s.heap H locs → ∀ ls, lv_has ls 7 [(0, .ref (ad a0)), (1, .int x1j15), (2, .int x2j15)] → W p l e (ra_Mo_rowStep mc ms) s m args below meth c H locs d_j15 e_j15 Q (F0 m 15 ls [.int z0j15]) := by
    intro y_j15 s_j15 d_j15 e_j15 x1j15 x2j15 z0j15 H locs h hP hD hS ls hl
    unfold wja_Mo_rowStep_15 at h
    obtain ⟨hd, h⟩ := h
    refine lv_istore_n (lv' := [(3, .int z0j15), (0, .ref (ad a0)), (1, .int x1j15), (2, .int x2j15)]) G.1 G.2.1 d_Mo_rowStep_15 rfl hl (by decide) rfl (fun ls hl => ?_)
    refine lv_iload_n G.1 G.2.1 d_Mo_rowStep_16 rfl (lv_at hl 3 rfl) ?_
    refine lv_bipush (v := 45) G.1 G.2.1 d_Mo_rowStep_17 (by decide) ?_
    have J_31 : ∀ (y_j31 : Ly) (s_j31 : St) (d_j31 e_j31 : Nat) (x1j31 : Int32) (x2j31 : Int32) (x3j31 : Int32) (z0j31 : Int32) (H : Heap) (locs : List Loc), wja_Mo_rowStep_31 mc ms Post a0 y_j31 s_j31 d_j31 e_j31 x1j31 x2j31 x3j31 z0j31 → va_P D CL (ws g ad y_j31 s_j31) H → va_D A (ws g ad y_j31 s_j31) → va_S A s.heap H locs → ∀ ls, lv_has ls 7 [(0, .ref (ad a0)), (1, .int x1j31), (2, .int x2j31), (3, .int x3j31)] → W p l e (ra_Mo_rowStep mc ms) s m args below meth c H locs d_j31 e_j31 Q (F0 m 31 ls [.int z0j31]) := by
      intro y_j31 s_j31 d_j31 e_j31 x1j31 x2j31 x3j31 z0j31 H locs h hP hD hS ls hl
      unfold wja_Mo_rowStep_31 at h
      obtain ⟨hd, h⟩ := h
      refine lv_istore (lv' := [(4, .int z0j31), (0, .ref (ad a0)), (1, .int x1j31), (2, .int x2j31), (3, .int x3j31)]) G.1 G.2.1 d_Mo_rowStep_31 hl (by decide) rfl (fun ls hl => ?_)
      refine lv_iload_n G.1 G.2.1 d_Mo_rowStep_33 rfl (lv_at hl 3 rfl) ?_
      refine lv_bipush (v := 42) G.1 G.2.1 d_Mo_rowStep_34 (by decide) ?_
      refine lv_icmp_ne (tgt := 109) G.1 G.2.1 d_Mo_rowStep_36 (by decide) (fun c36 => ?_) (fun c36 => ?_)
      · skip
        have h := h.1 c36
        refine lv_aload_n G.1 G.2.1 d_Mo_rowStep_109 rfl (lv_at hl 1 rfl) ?_
        refine lv_iload_n G.1 G.2.1 d_Mo_rowStep_110 rfl (lv_at hl 2 rfl) ?_
        refine ucVi (As := [.int x1j31]) (rest := []) G hP hD hS (cu_Mo_pop l D g ad y_j31 _ s_j31 a0 x1j31 H.size h_a0 h) w9_Mo_pop q3947 ⟨Nat.le_of_ble_eq_true rfl, Nat.le_of_ble_eq_true rfl⟩ rfl rfl h_a0 (q := (RMo, TMo, 131)) rfl rfl hl.1 rfl (Nat.le_of_ble_eq_true rfl) rfl hd d_Mo_rowStep_111 (fun r_1 s_2 H locs h hP hD hS => ?_)
        refine lv_istore (lv' := [(5, .int r_1), (4, .int z0j31), (0, .ref (ad a0)), (1, .int x1j31), (2, .int x2j31), (3, .int x3j31)]) G.1 G.2.1 d_Mo_rowStep_114 hl (by decide) rfl (fun ls hl => ?_)
        refine lv_iload G.1 G.2.1 d_Mo_rowStep_116 (lv_at hl 0 rfl) ?_
        refine lv_if_ne (tgt := 128) G.1 G.2.1 d_Mo_rowStep_118 (by decide) (fun c118 => ?_) (fun c118 => ?_)
        · skip
          have h := h.1 c118
          refine lv_aload_n G.1 G.2.1 d_Mo_rowStep_128 rfl (lv_at hl 2 rfl) ?_
          refine W.eq (g2 := F0 m 129 ls [.ref (ad a0)]) rfl ?_
          obtain ⟨b_3, e_4, c_5, h⟩ := h
          refine ugf (v := .ref (ad b_3)) G hP h_a0 iMo rfl 45 (by decide) rfl q3109 rfl (by show va_rf ((sO s_2 a0 45).map ad) = _; rw [e_4]; rfl) d_Mo_rowStep_129 ?_
          refine ugfN (v := .ref (yP y_j31 b_3 47)) G hP c_5 iMw rfl 47 (by decide) rfl q2794 rfl rfl d_Mo_rowStep_132 ?_
          refine lv_iload G.1 G.2.1 d_Mo_rowStep_135 (lv_at hl 0 rfl) ?_
          refine uiald G hP (kdp c_5 rfl) (typ c_5 rfl) h d_Mo_rowStep_137 (fun x_6 h => ?_)
          refine lv_istore (lv' := [(6, .int x_6), (5, .int r_1), (4, .int z0j31), (0, .ref (ad a0)), (1, .int x1j31), (2, .int x2j31), (3, .int x3j31)]) G.1 G.2.1 d_Mo_rowStep_138 hl (by decide) rfl (fun ls hl => ?_)
          refine lv_iload_n G.1 G.2.1 d_Mo_rowStep_140 rfl (lv_at hl 5 rfl) ?_
          refine lv_bipush (v := 45) G.1 G.2.1 d_Mo_rowStep_141 (by decide) ?_
          have J_165 : ∀ (y_j165 : Ly) (s_j165 : St) (d_j165 e_j165 : Nat) (x1j165 : Int32) (x2j165 : Int32) (x3j165 : Int32) (x4j165 : Int32) (x5j165 : Int32) (x6j165 : Int32) (H : Heap) (locs : List Loc), wja_Mo_rowStep_165 mc ms Post a0 y_j165 s_j165 d_j165 e_j165 x1j165 x2j165 x3j165 x4j165 x5j165 x6j165 → va_P D CL (ws g ad y_j165 s_j165) H → va_D A (ws g ad y_j165 s_j165) → va_S A s.heap H locs → ∀ ls, lv_has ls 7 [(0, .ref (ad a0)), (1, .int x1j165), (2, .int x2j165), (3, .int x3j165), (4, .int x4j165), (5, .int x5j165), (6, .int x6j165)] → W p l e (ra_Mo_rowStep mc ms) s m args below meth c H locs d_j165 e_j165 Q (F0 m 165 ls []) := by
            intro y_j165 s_j165 d_j165 e_j165 x1j165 x2j165 x3j165 x4j165 x5j165 x6j165 H locs h hP hD hS ls hl
            unfold wja_Mo_rowStep_165 at h
            obtain ⟨hd, h⟩ := h
            refine lv_iload_n G.1 G.2.1 d_Mo_rowStep_165 rfl (lv_at hl 2 rfl) ?_
            refine lv_bipush (v := 44) G.1 G.2.1 d_Mo_rowStep_166 (by decide) ?_
            have J_234 : ∀ (y_j234 : Ly) (s_j234 : St) (d_j234 e_j234 : Nat) (x1j234 : Int32) (H : Heap) (locs : List Loc), wja_Mo_rowStep_234 mc ms Post a0 y_j234 s_j234 d_j234 e_j234 x1j234 → va_P D CL (ws g ad y_j234 s_j234) H → va_D A (ws g ad y_j234 s_j234) → va_S A s.heap H locs → ∀ ls, lv_has ls 7 [(0, .ref (ad a0)), (1, .int x1j234)] → W p l e (ra_Mo_rowStep mc ms) s m args below meth c H locs d_j234 e_j234 Q (F0 m 234 ls []) := by
              intro y_j234 s_j234 d_j234 e_j234 x1j234 H locs h hP hD hS ls hl
              unfold wja_Mo_rowStep_234 at h
              obtain ⟨hd, h⟩ := h
              refine lv_aload_n G.1 G.2.1 d_Mo_rowStep_234 rfl (lv_at hl 0 rfl) ?_
              obtain ⟨b_7, e_8, c_9, h⟩ := h
              refine ugf (v := .ref (ad b_7)) G hP h_a0 iMo rfl 46 (by decide) rfl q3110 rfl (by show va_rf ((sO s_j234 a0 46).map ad) = _; rw [e_8]; rfl) d_Mo_rowStep_235 ?_
              refine ugfN (v := .ref (yP y_j234 b_7 18)) G hP c_9 iMr rfl 18 (by decide) rfl q3009 rfl rfl d_Mo_rowStep_238 ?_
              refine lv_iload_n G.1 G.2.1 d_Mo_rowStep_241 rfl (lv_at hl 1 rfl) ?_
              refine lv_dup2_11 G.1 G.2.1 d_Mo_rowStep_242 rfl rfl ?_
              refine uiald G hP (kdp c_9 rfl) (typ c_9 rfl) h d_Mo_rowStep_243 (fun x_10 h => ?_)
              refine lv_iconst (v := 1) G.1 G.2.1 d_Mo_rowStep_244 (by decide) ?_
              refine lv_iadd G.1 G.2.1 d_Mo_rowStep_245 ?_
              refine uiast G hP hD hS (kdp c_9 rfl) (typ c_9 rfl) h d_Mo_rowStep_246 (fun s_11 H locs h hP hD hS => ?_)
              exact hret (y_j234, s_11, d_j234, e_j234) _ _ _ _ _ ls h hP hD hS (Nat.le_refl _) (Nat.le_refl _) hd.1 hd.2 d_Mo_rowStep_247
            refine lv_icmp_ne (tgt := 196) G.1 G.2.1 d_Mo_rowStep_168 (by decide) (fun c168 => ?_) (fun c168 => ?_)
            · skip
              have h := h.1 c168
              refine lv_aload_n G.1 G.2.1 d_Mo_rowStep_196 rfl (lv_at hl 0 rfl) ?_
              refine lv_iload_n G.1 G.2.1 d_Mo_rowStep_197 rfl (lv_at hl 1 rfl) ?_
              refine lv_iload_n G.1 G.2.1 d_Mo_rowStep_198 rfl (lv_at hl 2 rfl) ?_
              refine lv_bipush (v := 45) G.1 G.2.1 d_Mo_rowStep_199 (by decide) ?_
              have J_230 : ∀ (y_j230 : Ly) (s_j230 : St) (d_j230 e_j230 : Nat) (x1j230 : Int32) (z1j230 : Int32) (z2j230 : Int32) (H : Heap) (locs : List Loc), wja_Mo_rowStep_230 mc ms Post a0 y_j230 s_j230 d_j230 e_j230 x1j230 z1j230 z2j230 → va_P D CL (ws g ad y_j230 s_j230) H → va_D A (ws g ad y_j230 s_j230) → va_S A s.heap H locs → ∀ ls, lv_has ls 7 [(0, .ref (ad a0)), (1, .int x1j230)] → W p l e (ra_Mo_rowStep mc ms) s m args below meth c H locs d_j230 e_j230 Q (F0 m 230 ls [.int z2j230, .int z1j230, .ref (ad a0)]) := by
                intro y_j230 s_j230 d_j230 e_j230 x1j230 z1j230 z2j230 H locs h hP hD hS ls hl
                unfold wja_Mo_rowStep_230 at h
                obtain ⟨hd, h⟩ := h
                refine lv_iconst (v := 0) G.1 G.2.1 d_Mo_rowStep_230 (by decide) ?_
                refine ucVv (As := [.int z1j230, .int z2j230, .int 0]) (rest := []) G hP hD hS (cu_Mo_push l D g ad y_j230 _ s_j230 a0 z1j230 z2j230 0 H.size h_a0 h) w9_Mo_push q3907 ⟨Nat.le_of_ble_eq_true rfl, Nat.le_of_ble_eq_true rfl⟩ rfl rfl h_a0 (q := (RMo, TMo, 131)) rfl rfl hl.1 rfl (Nat.le_of_ble_eq_true rfl) rfl hd d_Mo_rowStep_231 (fun s_13 H locs h hP hD hS => ?_)
                exact J_234 y_j230 s_13 d_j230 e_j230 x1j230 H locs h hP hD hS ls (lv_sub hl [0, 1] rfl)
              refine lv_icmp_ne (tgt := 209) G.1 G.2.1 d_Mo_rowStep_201 (by decide) (fun c201 => ?_) (fun c201 => ?_)
              · skip
                have h := h.1 c201
                refine lv_aload_n G.1 G.2.1 d_Mo_rowStep_209 rfl (lv_at hl 0 rfl) ?_
                obtain ⟨b_14, e_15, c_16, h⟩ := h
                refine ugf (v := .ref (ad b_14)) G hP h_a0 iMo rfl 45 (by decide) rfl q3109 rfl (by show va_rf ((sO s_j165 a0 45).map ad) = _; rw [e_15]; rfl) d_Mo_rowStep_210 ?_
                refine ugfN (v := .ref (yP y_j165 b_14 51)) G hP c_16 iMw rfl 51 (by decide) rfl q2801 rfl rfl d_Mo_rowStep_213 ?_
                refine W.eq (g2 := F0 m 216 ls [.ref (yP y_j165 b_14 51), .int x1j165, .ref (ad a0)]) rfl ?_
                refine lv_aload_n G.1 G.2.1 d_Mo_rowStep_216 rfl (lv_at hl 0 rfl) ?_
                refine ugf (v := .ref (ad b_14)) G hP h_a0 iMo rfl 45 (by decide) rfl q3109 rfl (by show va_rf ((sO s_j165 a0 45).map ad) = _; rw [e_15]; rfl) d_Mo_rowStep_217 ?_
                refine ugfN (v := .ref (yP y_j165 b_14 46)) G hP c_16 iMw rfl 46 (by decide) rfl q2792 rfl rfl d_Mo_rowStep_220 ?_
                refine lv_iload G.1 G.2.1 d_Mo_rowStep_223 (lv_at hl 5 rfl) ?_
                refine uiald G hP (kdp c_16 rfl) (typ c_16 rfl) h d_Mo_rowStep_225 (fun x_17 h => ?_)
                refine lv_iload G.1 G.2.1 d_Mo_rowStep_226 (lv_at hl 4 rfl) ?_
                refine lv_iadd G.1 G.2.1 d_Mo_rowStep_228 ?_
                refine uiald G hP (kdp c_16 rfl) (typ c_16 rfl) h d_Mo_rowStep_229 (fun x_18 h => ?_)
                exact J_230 y_j165 s_j165 d_j165 e_j165 x1j165 x1j165 x_18 H locs h hP hD hS ls (lv_sub hl [0, 1] rfl)
              · skip
                have h := h.2 c201
                refine lv_iload G.1 G.2.1 d_Mo_rowStep_204 (lv_at hl 6 rfl) ?_
                refine lv_goto (tgt := 230) G.1 G.2.1 d_Mo_rowStep_206 (by decide) ?_
                exact J_230 y_j165 s_j165 d_j165 e_j165 x1j165 x1j165 x6j165 H locs h hP hD hS ls (lv_sub hl [0, 1] rfl)
            · skip
              have h := h.2 c168
              refine lv_aload_n G.1 G.2.1 d_Mo_rowStep_171 rfl (lv_at hl 0 rfl) ?_
              obtain ⟨b_19, e_20, c_21, h⟩ := h
              refine ugf (v := .ref (ad b_19)) G hP h_a0 iMo rfl 45 (by decide) rfl q3109 rfl (by show va_rf ((sO s_j165 a0 45).map ad) = _; rw [e_20]; rfl) d_Mo_rowStep_172 ?_
              refine ugfN (v := .ref (yP y_j165 b_19 51)) G hP c_21 iMw rfl 51 (by decide) rfl q2801 rfl rfl d_Mo_rowStep_175 ?_
              refine lv_aload_n G.1 G.2.1 d_Mo_rowStep_178 rfl (lv_at hl 0 rfl) ?_
              refine ugf (v := .ref (ad b_19)) G hP h_a0 iMo rfl 45 (by decide) rfl q3109 rfl (by show va_rf ((sO s_j165 a0 45).map ad) = _; rw [e_20]; rfl) d_Mo_rowStep_179 ?_
              refine ugfN (v := .ref (yP y_j165 b_19 46)) G hP c_21 iMw rfl 46 (by decide) rfl q2792 rfl rfl d_Mo_rowStep_182 ?_
              refine lv_iload G.1 G.2.1 d_Mo_rowStep_185 (lv_at hl 5 rfl) ?_
              refine uiald G hP (kdp c_21 rfl) (typ c_21 rfl) h d_Mo_rowStep_187 (fun x_22 h => ?_)
              refine W.eq (g2 := F0 m 188 ls [.int x_22, .ref (yP y_j165 b_19 51)]) rfl ?_
              refine lv_iload G.1 G.2.1 d_Mo_rowStep_188 (lv_at hl 4 rfl) ?_
              refine lv_iadd G.1 G.2.1 d_Mo_rowStep_190 ?_
              refine lv_iload_n G.1 G.2.1 d_Mo_rowStep_191 rfl (lv_at hl 3 rfl) ?_
              refine uiast G hP hD hS (kdp c_21 rfl) (typ c_21 rfl) h d_Mo_rowStep_192 (fun s_23 H locs h hP hD hS => ?_)
              refine lv_goto (tgt := 234) G.1 G.2.1 d_Mo_rowStep_193 (by decide) ?_
              exact J_234 y_j165 s_23 d_j165 e_j165 x1j165 H locs h hP hD hS ls (lv_sub hl [0, 1] rfl)
          refine lv_icmp_eq (tgt := 165) G.1 G.2.1 d_Mo_rowStep_143 (by decide) (fun c143 => ?_) (fun c143 => ?_)
          · skip
            have h := h.1 c143
            exact J_165 y_j31 s_2 d_j31 e_j31 x1j31 x2j31 x3j31 z0j31 r_1 x_6 H locs h hP hD hS ls (lv_sub hl [3, 4, 5, 6, 2, 1, 0] rfl)
          · skip
            have h := h.2 c143
            refine lv_iload G.1 G.2.1 d_Mo_rowStep_146 (lv_at hl 2 rfl) ?_
            have J_158 : ∀ (y_j158 : Ly) (s_j158 : St) (d_j158 e_j158 : Nat) (H : Heap) (locs : List Loc), wja_Mo_rowStep_158 mc ms Post a0 y_j158 s_j158 d_j158 e_j158 → va_P D CL (ws g ad y_j158 s_j158) H → va_D A (ws g ad y_j158 s_j158) → va_S A s.heap H locs → ∀ ls, lv_has ls 7 [(0, .ref (ad a0))] → W p l e (ra_Mo_rowStep mc ms) s m args below meth c H locs d_j158 e_j158 Q (F0 m 158 ls []) := by
              intro y_j158 s_j158 d_j158 e_j158 H locs h hP hD hS ls hl
              unfold wja_Mo_rowStep_158 at h
              obtain ⟨hd, h⟩ := h
              refine lv_aload_n G.1 G.2.1 d_Mo_rowStep_158 rfl (lv_at hl 0 rfl) ?_
              refine lv_iconst (v := 0) G.1 G.2.1 d_Mo_rowStep_159 (by decide) ?_
              refine lv_iconst (v := 4) G.1 G.2.1 d_Mo_rowStep_160 (by decide) ?_
              obtain ⟨mc_29, ms_30, hr_31, h⟩ := h
              refine uaVv (As := [.int 0, .int 4]) (rest := []) G hP hD hS (ca_Mo_throwNew l D g ad mc_29 ms_30 y_j158 _ s_j158 a0 0 4 H.size (us H) h_a0 h) w9_Mo_throwNew q3883 ⟨Nat.le_of_ble_eq_true rfl, Nat.le_of_ble_eq_true rfl⟩ rfl rfl h_a0 (q := (RMo, TMo, 131)) rfl rfl hl.1 rfl (Nat.le_of_ble_eq_true rfl) rfl hr_31 d_Mo_rowStep_161 (fun y_26 s_25 d_27 e_28 H locs h hP hD hS => ?_)
              have hl := lv_sub (l' := []) hl [] rfl
              obtain ⟨hd, h⟩ := h
              exact hret (y_26, s_25, d_j158 + d_27, e_j158 + e_28) _ _ _ _ _ ls h hP hD hS (Nat.le_refl _) (Nat.le_refl _) hd.1 hd.2 d_Mo_rowStep_164
            refine lv_if_lt (tgt := 158) G.1 G.2.1 d_Mo_rowStep_148 (by decide) (fun c148 => ?_) (fun c148 => ?_)
            · skip
              have h := h.1 c148
              exact J_158 y_j31 s_2 d_j31 e_j31 H locs h hP hD hS ls (lv_sub hl [3] rfl)
            · skip
              have h := h.2 c148
              refine lv_iload G.1 G.2.1 d_Mo_rowStep_151 (lv_at hl 2 rfl) ?_
              refine lv_iload G.1 G.2.1 d_Mo_rowStep_153 (lv_at hl 0 rfl) ?_
              refine W.eq (g2 := F0 m 155 ls [.int x_6, .int z0j31]) rfl ?_
              refine lv_icmp_lt (tgt := 165) G.1 G.2.1 d_Mo_rowStep_155 (by decide) (fun c155 => ?_) (fun c155 => ?_)
              · skip
                have h := h.1 c155
                exact J_165 y_j31 s_2 d_j31 e_j31 x1j31 x2j31 x3j31 z0j31 r_1 x_6 H locs h hP hD hS ls (lv_sub hl [3, 4, 5, 6, 2, 1, 0] rfl)
              · skip
                have h := h.2 c155
                exact J_158 y_j31 s_2 d_j31 e_j31 H locs h hP hD hS ls (lv_sub hl [3] rfl)
        · skip
          have h := h.2 c118
          refine lv_aload_n G.1 G.2.1 d_Mo_rowStep_121 rfl (lv_at hl 2 rfl) ?_
          refine W.eq (g2 := F0 m 122 ls [.ref (ad a0)]) rfl ?_
          refine lv_iconst (v := 0) G.1 G.2.1 d_Mo_rowStep_122 (by decide) ?_
          refine lv_iconst (v := 2) G.1 G.2.1 d_Mo_rowStep_123 (by decide) ?_
          obtain ⟨mc_37, ms_38, hr_39, h⟩ := h
          refine uaVv (As := [.int 0, .int 2]) (rest := []) G hP hD hS (ca_Mo_throwNew l D g ad mc_37 ms_38 y_j31 _ s_2 a0 0 2 H.size (us H) h_a0 h) w9_Mo_throwNew q3883 ⟨Nat.le_of_ble_eq_true rfl, Nat.le_of_ble_eq_true rfl⟩ rfl rfl h_a0 (q := (RMo, TMo, 131)) rfl rfl hl.1 rfl (Nat.le_of_ble_eq_true rfl) rfl hr_39 d_Mo_rowStep_124 (fun y_34 s_33 d_35 e_36 H locs h hP hD hS => ?_)
          have hl := lv_sub (l' := []) hl [] rfl
          obtain ⟨hd, h⟩ := h
          exact hret (y_34, s_33, d_j31 + d_35, e_j31 + e_36) _ _ _ _ _ ls h hP hD hS (Nat.le_refl _) (Nat.le_refl _) hd.1 hd.2 d_Mo_rowStep_127
      · skip
        have h := h.2 c36
        refine lv_iload G.1 G.2.1 d_Mo_rowStep_39 (lv_at hl 0 rfl) ?_
        have J_63 : ∀ (y_j63 : Ly) (s_j63 : St) (d_j63 e_j63 : Nat) (x1j63 : Int32) (x4j63 : Int32) (z0j63 : Int32) (H : Heap) (locs : List Loc), wja_Mo_rowStep_63 mc ms Post a0 y_j63 s_j63 d_j63 e_j63 x1j63 x4j63 z0j63 → va_P D CL (ws g ad y_j63 s_j63) H → va_D A (ws g ad y_j63 s_j63) → va_S A s.heap H locs → ∀ ls, lv_has ls 7 [(0, .ref (ad a0)), (1, .int x1j63), (4, .int x4j63)] → W p l e (ra_Mo_rowStep mc ms) s m args below meth c H locs d_j63 e_j63 Q (F0 m 63 ls [.int z0j63]) := by
          intro y_j63 s_j63 d_j63 e_j63 x1j63 x4j63 z0j63 H locs h hP hD hS ls hl
          unfold wja_Mo_rowStep_63 at h
          obtain ⟨hd, h⟩ := h
          refine lv_istore (lv' := [(5, .int z0j63), (0, .ref (ad a0)), (1, .int x1j63), (4, .int x4j63)]) G.1 G.2.1 d_Mo_rowStep_63 hl (by decide) rfl (fun ls hl => ?_)
          refine lv_iload G.1 G.2.1 d_Mo_rowStep_65 (lv_at hl 0 rfl) ?_
          refine lv_if_ge (tgt := 87) G.1 G.2.1 d_Mo_rowStep_67 (by decide) (fun c67 => ?_) (fun c67 => ?_)
          · skip
            have h := h.1 c67
            refine lv_aload_n G.1 G.2.1 d_Mo_rowStep_87 rfl (lv_at hl 1 rfl) ?_
            refine lv_iload_n G.1 G.2.1 d_Mo_rowStep_88 rfl (lv_at hl 2 rfl) ?_
            refine lv_iload G.1 G.2.1 d_Mo_rowStep_89 (lv_at hl 0 rfl) ?_
            refine lv_iconst (v := 1) G.1 G.2.1 d_Mo_rowStep_91 (by decide) ?_
            refine ucVv (As := [.int x1j63, .int z0j63, .int 1]) (rest := []) G hP hD hS (cu_Mo_push l D g ad y_j63 _ s_j63 a0 x1j63 z0j63 1 H.size h_a0 h) w9_Mo_push q3907 ⟨Nat.le_of_ble_eq_true rfl, Nat.le_of_ble_eq_true rfl⟩ rfl rfl h_a0 (q := (RMo, TMo, 131)) rfl rfl hl.1 rfl (Nat.le_of_ble_eq_true rfl) rfl hd d_Mo_rowStep_92 (fun s_41 H locs h hP hD hS => ?_)
            refine lv_aload_n G.1 G.2.1 d_Mo_rowStep_95 rfl (lv_at hl 1 rfl) ?_
            obtain ⟨b_42, e_43, c_44, h⟩ := h
            refine ugf (v := .ref (ad b_42)) G hP h_a0 iMo rfl 46 (by decide) rfl q3110 rfl (by show va_rf ((sO s_41 a0 46).map ad) = _; rw [e_43]; rfl) d_Mo_rowStep_96 ?_
            refine ugfN (v := .ref (yP y_j63 b_42 18)) G hP c_44 iMr rfl 18 (by decide) rfl q3009 rfl rfl d_Mo_rowStep_99 ?_
            refine W.eq (g2 := F0 m 102 ls [.ref (yP y_j63 b_42 18)]) rfl ?_
            refine lv_iload_n G.1 G.2.1 d_Mo_rowStep_102 rfl (lv_at hl 2 rfl) ?_
            refine lv_dup2_11 G.1 G.2.1 d_Mo_rowStep_103 rfl rfl ?_
            refine uiald G hP (kdp c_44 rfl) (typ c_44 rfl) h d_Mo_rowStep_104 (fun x_45 h => ?_)
            refine lv_iconst (v := 1) G.1 G.2.1 d_Mo_rowStep_105 (by decide) ?_
            refine lv_iadd G.1 G.2.1 d_Mo_rowStep_106 ?_
            refine uiast G hP hD hS (kdp c_44 rfl) (typ c_44 rfl) h d_Mo_rowStep_107 (fun s_46 H locs h hP hD hS => ?_)
            exact hret (y_j63, s_46, d_j63, e_j63) _ _ _ _ _ ls h hP hD hS (Nat.le_refl _) (Nat.le_refl _) hd.1 hd.2 d_Mo_rowStep_108
          · skip
            have h := h.2 c67
            refine lv_aload_n G.1 G.2.1 d_Mo_rowStep_70 rfl (lv_at hl 1 rfl) ?_
            refine lv_iconst (v := 0) G.1 G.2.1 d_Mo_rowStep_71 (by decide) ?_
            refine lv_iload G.1 G.2.1 d_Mo_rowStep_72 (lv_at hl 3 rfl) ?_
            have J_83 : ∀ (y_j83 : Ly) (s_j83 : St) (d_j83 e_j83 : Nat) (z1j83 : Int32) (z2j83 : Int32) (H : Heap) (locs : List Loc), wja_Mo_rowStep_83 mc ms Post a0 y_j83 s_j83 d_j83 e_j83 z1j83 z2j83 → va_P D CL (ws g ad y_j83 s_j83) H → va_D A (ws g ad y_j83 s_j83) → va_S A s.heap H locs → ∀ ls, lv_has ls 7 [] → W p l e (ra_Mo_rowStep mc ms) s m args below meth c H locs d_j83 e_j83 Q (F0 m 83 ls [.int z2j83, .int z1j83, .ref (ad a0)]) := by
              intro y_j83 s_j83 d_j83 e_j83 z1j83 z2j83 H locs h hP hD hS ls hl
              unfold wja_Mo_rowStep_83 at h
              obtain ⟨hd, h⟩ := h
              obtain ⟨mc_52, ms_53, hr_54, h⟩ := h
              refine uaVv (As := [.int z1j83, .int z2j83]) (rest := []) G hP hD hS (ca_Mo_throwNew l D g ad mc_52 ms_53 y_j83 _ s_j83 a0 z1j83 z2j83 H.size (us H) h_a0 h) w9_Mo_throwNew q3883 ⟨Nat.le_of_ble_eq_true rfl, Nat.le_of_ble_eq_true rfl⟩ rfl rfl h_a0 (q := (RMo, TMo, 131)) rfl rfl hl.1 rfl (Nat.le_of_ble_eq_true rfl) rfl hr_54 d_Mo_rowStep_83 (fun y_49 s_48 d_50 e_51 H locs h hP hD hS => ?_)
              obtain ⟨hd, h⟩ := h
              exact hret (y_49, s_48, d_j83 + d_50, e_j83 + e_51) _ _ _ _ _ ls h hP hD hS (Nat.le_refl _) (Nat.le_refl _) hd.1 hd.2 d_Mo_rowStep_86
            refine lv_if_ge (tgt := 81) G.1 G.2.1 d_Mo_rowStep_74 (by decide) (fun c74 => ?_) (fun c74 => ?_)
            · skip
              have h := h.1 c74
              refine lv_bipush (v := 9) G.1 G.2.1 d_Mo_rowStep_81 (by decide) ?_
              exact J_83 y_j63 s_j63 d_j63 e_j63 0 9 H locs h hP hD hS ls (lv_sub hl [] rfl)
            · skip
              have h := h.2 c74
              refine lv_iconst (v := 5) G.1 G.2.1 d_Mo_rowStep_77 (by decide) ?_
              refine lv_goto (tgt := 83) G.1 G.2.1 d_Mo_rowStep_78 (by decide) ?_
              exact J_83 y_j63 s_j63 d_j63 e_j63 0 5 H locs h hP hD hS ls (lv_sub hl [] rfl)
        have J_52 : ∀ (y_j52 : Ly) (s_j52 : St) (d_j52 e_j52 : Nat) (x1j52 : Int32) (x4j52 : Int32) (H : Heap) (locs : List Loc), wja_Mo_rowStep_52 mc ms Post a0 y_j52 s_j52 d_j52 e_j52 x1j52 x4j52 → va_P D CL (ws g ad y_j52 s_j52) H → va_D A (ws g ad y_j52 s_j52) → va_S A s.heap H locs → ∀ ls, lv_has ls 7 [(0, .ref (ad a0)), (1, .int x1j52), (4, .int x4j52)] → W p l e (ra_Mo_rowStep mc ms) s m args below meth c H locs d_j52 e_j52 Q (F0 m 52 ls []) := by
          intro y_j52 s_j52 d_j52 e_j52 x1j52 x4j52 H locs h hP hD hS ls hl
          unfold wja_Mo_rowStep_52 at h
          obtain ⟨hd, h⟩ := h
          refine lv_iconst (v := (-1)) G.1 G.2.1 d_Mo_rowStep_52 (by decide) ?_
          refine lv_goto (tgt := 63) G.1 G.2.1 d_Mo_rowStep_53 (by decide) ?_
          exact J_63 y_j52 s_j52 d_j52 e_j52 x1j52 x4j52 (-1) H locs h hP hD hS ls (lv_sub hl [0, 1, 2] rfl)
        refine lv_if_lt (tgt := 52) G.1 G.2.1 d_Mo_rowStep_41 (by decide) (fun c41 => ?_) (fun c41 => ?_)
        · skip
          have h := h.1 c41
          exact J_52 y_j31 s_j31 d_j31 e_j31 x1j31 z0j31 H locs h hP hD hS ls (lv_sub hl [1, 2, 0] rfl)
        · skip
          have h := h.2 c41
          refine lv_iload G.1 G.2.1 d_Mo_rowStep_44 (lv_at hl 0 rfl) ?_
          refine lv_sipush (v := 300) G.1 G.2.1 d_Mo_rowStep_46 (by decide) ?_
          refine lv_icmp_le (tgt := 56) G.1 G.2.1 d_Mo_rowStep_49 (by decide) (fun c49 => ?_) (fun c49 => ?_)
          · skip
            have h := h.1 c49
            refine lv_aload_n G.1 G.2.1 d_Mo_rowStep_56 rfl (lv_at hl 1 rfl) ?_
            refine lv_iconst (v := (-1)) G.1 G.2.1 d_Mo_rowStep_57 (by decide) ?_
            refine W.eq (g2 := F0 m 58 ls [.int (-1), .ref (ad a0)]) rfl ?_
            refine lv_iload G.1 G.2.1 d_Mo_rowStep_58 (lv_at hl 0 rfl) ?_
            refine ucVi (As := [.int (-1), .int z0j31]) (rest := []) G hP hD hS (cu_Mo_newThing l D g ad y_j31 _ s_j31 a0 (-1) z0j31 H.size h_a0 h) w9_Mo_newThing q3975 ⟨Nat.le_of_ble_eq_true rfl, Nat.le_of_ble_eq_true rfl⟩ rfl rfl h_a0 (q := (RMo, TMo, 131)) rfl rfl hl.1 rfl (Nat.le_of_ble_eq_true rfl) rfl hd d_Mo_rowStep_60 (fun r_55 s_56 H locs h hP hD hS => ?_)
            exact J_63 y_j31 s_56 d_j31 e_j31 x1j31 z0j31 r_55 H locs h hP hD hS ls (lv_sub hl [1, 2, 0] rfl)
          · skip
            have h := h.2 c49
            exact J_52 y_j31 s_j31 d_j31 e_j31 x1j31 z0j31 H locs h hP hD hS ls (lv_sub hl [1, 2, 0] rfl)
    refine lv_icmp_ne (tgt := 26) G.1 G.2.1 d_Mo_rowStep_19 (by decide) (fun c19 => ?_) (fun c19 => ?_)
    · skip
      have h := h.1 c19
      refine lv_aload_n G.1 G.2.1 d_Mo_rowStep_26 rfl (lv_at hl 1 rfl) ?_
      refine lv_iload_n G.1 G.2.1 d_Mo_rowStep_27 rfl (lv_at hl 2 rfl) ?_
      refine ucVi (As := [.int x1j15]) (rest := []) G hP hD hS (cu_Mo_pop l D g ad y_j15 _ s_j15 a0 x1j15 H.size h_a0 h) w9_Mo_pop q3947 ⟨Nat.le_of_ble_eq_true rfl, Nat.le_of_ble_eq_true rfl⟩ rfl rfl h_a0 (q := (RMo, TMo, 131)) rfl rfl hl.1 rfl (Nat.le_of_ble_eq_true rfl) rfl hd d_Mo_rowStep_28 (fun r_57 s_58 H locs h hP hD hS => ?_)
      exact J_31 y_j15 s_58 d_j15 e_j15 x1j15 x2j15 z0j15 r_57 H locs h hP hD hS ls (lv_sub hl [1, 2, 3, 0] rfl)
    · skip
      have h := h.2 c19
      refine lv_iconst (v := 0) G.1 G.2.1 d_Mo_rowStep_22 (by decide) ?_
      refine lv_goto (tgt := 31) G.1 G.2.1 d_Mo_rowStep_23 (by decide) ?_
      exact J_31 y_j15 s_j15 d_j15 e_j15 x1j15 x2j15 z0j15 0 H locs h hP hD hS ls (lv_sub hl [1, 2, 3, 0] rfl)
  refine lv_icmp_ne (tgt := 14) G.1 G.2.1 d_Mo_rowStep_3 (by decide) (fun c3 => ?_) (fun c3 => ?_)
  · skip
    have h := h.1 c3
    refine lv_iconst (v := 0) G.1 G.2.1 d_Mo_rowStep_14 (by decide) ?_
    exact J_15 y σ 0 0 v1 v2 0 H locs h hP hD hS ls (lv_sub hl [0, 1, 2] rfl)
  · skip
    have h := h.2 c3
    refine lv_aload_n G.1 G.2.1 d_Mo_rowStep_6 rfl (lv_at hl 0 rfl) ?_
    refine lv_iload_n G.1 G.2.1 d_Mo_rowStep_7 rfl (lv_at hl 1 rfl) ?_
    refine ucVi (As := [.int v1]) (rest := []) G hP hD hS (cu_Mo_pop l D g ad y _ σ a0 v1 H.size h_a0 h) w9_Mo_pop q3947 ⟨Nat.le_of_ble_eq_true rfl, Nat.le_of_ble_eq_true rfl⟩ rfl rfl h_a0 (q := (RMo, TMo, 131)) rfl rfl hl.1 rfl (Nat.le_of_ble_eq_true rfl) rfl hd d_Mo_rowStep_8 (fun r_59 s_60 H locs h hP hD hS => ?_)
    refine lv_goto (tgt := 15) G.1 G.2.1 d_Mo_rowStep_11 (by decide) ?_
    exact J_15 y s_60 0 0 v1 v2 r_59 H locs h hP hD hS ls (lv_sub hl [0, 1, 2] rfl)
