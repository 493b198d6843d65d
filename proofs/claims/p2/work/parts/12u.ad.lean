theorem q2633 : Cond.classLink "ClassWorksModel" 267 "java/lang/IllegalStateException" ∈ lw_ok := lw_okmem (List.mem_of_getElem? (i := 2633) (by decide +kernel)) rfl
theorem q3494 : Cond.methodLink "ClassWorksModel" 569 y_Mo_cutLine ∈ lw_ok := lw_okmem (List.mem_of_getElem? (i := 3494) (by decide +kernel)) rfl
theorem q3497 : Cond.code y_Mo_cutLine b_Mo_cutLine 8 (some (.boolean)) ∈ lw_ok := lw_okmem (List.mem_of_getElem? (i := 3497) (by decide +kernel)) rfl
theorem q3496 : Cond.instanceMethod y_Mo_cutLine ∈ lw_ok := lw_okmem (List.mem_of_getElem? (i := 3496) (by decide +kernel)) rfl
theorem q179 : Cond.selects y_Mo_cutLine.cls y_Mo_cutLine y_Mo_cutLine ∈ lw_ok := lw_okmem (List.mem_of_getElem? (i := 179) (by decide +kernel)) rfl
theorem w9_Mo_cutLine : CWv y_Mo_cutLine b_Mo_cutLine 8 (some (.boolean)) 3 ∧ Cond.instanceMethod y_Mo_cutLine ∈ lw_ok ∧ Cond.selects y_Mo_cutLine.cls y_Mo_cutLine y_Mo_cutLine ∈ lw_ok := ⟨⟨q3497, q348, by decide +kernel, by decide +kernel, by decide +kernel⟩, q3496, q179⟩
theorem q3518 : Cond.methodLink "ClassWorksModel" 573 y_Mo_takeLine ∈ lw_ok := lw_okmem (List.mem_of_getElem? (i := 3518) (by decide +kernel)) rfl
theorem q3521 : Cond.code y_Mo_takeLine b_Mo_takeLine 1 (none) ∈ lw_ok := lw_okmem (List.mem_of_getElem? (i := 3521) (by decide +kernel)) rfl
theorem q3520 : Cond.instanceMethod y_Mo_takeLine ∈ lw_ok := lw_okmem (List.mem_of_getElem? (i := 3520) (by decide +kernel)) rfl
theorem q183 : Cond.selects y_Mo_takeLine.cls y_Mo_takeLine y_Mo_takeLine ∈ lw_ok := lw_okmem (List.mem_of_getElem? (i := 183) (by decide +kernel)) rfl
theorem w9_Mo_takeLine : CWv y_Mo_takeLine b_Mo_takeLine 1 (none) 0 ∧ Cond.instanceMethod y_Mo_takeLine ∈ lw_ok ∧ Cond.selects y_Mo_takeLine.cls y_Mo_takeLine y_Mo_takeLine ∈ lw_ok := ⟨⟨q3521, q348, by decide +kernel, by decide +kernel, by decide +kernel⟩, q3520, q183⟩
def y_Mo_take : MethodName := ⟨"ClassWorksModel", "take", "([BI)I"⟩
abbrev b_Mo_take : ByteArray := prog_14_method_33_code
theorem d_Mo_take_0 : decode b_Mo_take 0 = .ok (.aload_n 0, 1) := by decide +kernel
theorem d_Mo_take_1 : decode b_Mo_take 1 = .ok (.getfield 522, 3) := by decide +kernel
theorem d_Mo_take_4 : decode b_Mo_take 4 = .ok (.getfield 420, 3) := by decide +kernel
theorem d_Mo_take_7 : decode b_Mo_take 7 = .ok (.istore_n 3, 1) := by decide +kernel
theorem d_Mo_take_8 : decode b_Mo_take 8 = .ok (.aload_n 0, 1) := by decide +kernel
theorem d_Mo_take_9 : decode b_Mo_take 9 = .ok (.getfield 522, 3) := by decide +kernel
theorem d_Mo_take_12 : decode b_Mo_take 12 = .ok (.getfield 471, 3) := by decide +kernel
theorem d_Mo_take_15 : decode b_Mo_take 15 = .ok (.istore 4, 2) := by decide +kernel
theorem d_Mo_take_17 : decode b_Mo_take 17 = .ok (.aload_n 0, 1) := by decide +kernel
theorem d_Mo_take_18 : decode b_Mo_take 18 = .ok (.getfield 522, 3) := by decide +kernel
theorem d_Mo_take_21 : decode b_Mo_take 21 = .ok (.getfield 474, 3) := by decide +kernel
theorem d_Mo_take_24 : decode b_Mo_take 24 = .ok (.istore 5, 2) := by decide +kernel
theorem d_Mo_take_26 : decode b_Mo_take 26 = .ok (.aload_n 0, 1) := by decide +kernel
theorem d_Mo_take_27 : decode b_Mo_take 27 = .ok (.getfield 522, 3) := by decide +kernel
theorem d_Mo_take_30 : decode b_Mo_take 30 = .ok (.getfield 477, 3) := by decide +kernel
theorem d_Mo_take_33 : decode b_Mo_take 33 = .ok (.istore 6, 2) := by decide +kernel
theorem d_Mo_take_35 : decode b_Mo_take 35 = .ok (.aload_n 0, 1) := by decide +kernel
theorem d_Mo_take_36 : decode b_Mo_take 36 = .ok (.getfield 522, 3) := by decide +kernel
theorem d_Mo_take_39 : decode b_Mo_take 39 = .ok (.getfield 480, 3) := by decide +kernel
theorem d_Mo_take_42 : decode b_Mo_take 42 = .ok (.istore 7, 2) := by decide +kernel
theorem d_Mo_take_44 : decode b_Mo_take 44 = .ok (.aload_n 0, 1) := by decide +kernel
theorem d_Mo_take_45 : decode b_Mo_take 45 = .ok (.iconst 0, 1) := by decide +kernel
theorem d_Mo_take_46 : decode b_Mo_take 46 = .ok (.putfield 526, 3) := by decide +kernel
theorem d_Mo_take_49 : decode b_Mo_take 49 = .ok (.aload_n 0, 1) := by decide +kernel
theorem d_Mo_take_50 : decode b_Mo_take 50 = .ok (.bipush (-2), 2) := by decide +kernel
theorem d_Mo_take_52 : decode b_Mo_take 52 = .ok (.putfield 529, 3) := by decide +kernel
theorem d_Mo_take_55 : decode b_Mo_take 55 = .ok (.aload_n 0, 1) := by decide +kernel
theorem d_Mo_take_56 : decode b_Mo_take 56 = .ok (.iconst 0, 1) := by decide +kernel
theorem d_Mo_take_57 : decode b_Mo_take 57 = .ok (.putfield 566, 3) := by decide +kernel
theorem d_Mo_take_60 : decode b_Mo_take 60 = .ok (.iconst 0, 1) := by decide +kernel
theorem d_Mo_take_61 : decode b_Mo_take 61 = .ok (.istore 8, 2) := by decide +kernel
theorem d_Mo_take_63 : decode b_Mo_take 63 = .ok (.iload 8, 2) := by decide +kernel
theorem d_Mo_take_65 : decode b_Mo_take 65 = .ok (.iload_n 2, 1) := by decide +kernel
theorem d_Mo_take_66 : decode b_Mo_take 66 = .ok (.if_icmp .gt 53, 3) := by decide +kernel
theorem d_Mo_take_69 : decode b_Mo_take 69 = .ok (.iload 8, 2) := by decide +kernel
theorem d_Mo_take_71 : decode b_Mo_take 71 = .ok (.istore 9, 2) := by decide +kernel
theorem d_Mo_take_73 : decode b_Mo_take 73 = .ok (.iload 9, 2) := by decide +kernel
theorem d_Mo_take_75 : decode b_Mo_take 75 = .ok (.iload_n 2, 1) := by decide +kernel
theorem d_Mo_take_76 : decode b_Mo_take 76 = .ok (.if_icmp .ge 18, 3) := by decide +kernel
theorem d_Mo_take_79 : decode b_Mo_take 79 = .ok (.aload_n 1, 1) := by decide +kernel
theorem d_Mo_take_80 : decode b_Mo_take 80 = .ok (.iload 9, 2) := by decide +kernel
theorem d_Mo_take_82 : decode b_Mo_take 82 = .ok (.baload, 1) := by decide +kernel
theorem d_Mo_take_83 : decode b_Mo_take 83 = .ok (.bipush 10, 2) := by decide +kernel
theorem d_Mo_take_85 : decode b_Mo_take 85 = .ok (.if_icmp .eq 9, 3) := by decide +kernel
theorem d_Mo_take_88 : decode b_Mo_take 88 = .ok (.iinc 9 1, 3) := by decide +kernel
theorem d_Mo_take_91 : decode b_Mo_take 91 = .ok (.goto (-18), 3) := by decide +kernel
theorem d_Mo_take_94 : decode b_Mo_take 94 = .ok (.aload_n 0, 1) := by decide +kernel
theorem d_Mo_take_95 : decode b_Mo_take 95 = .ok (.aload_n 1, 1) := by decide +kernel
theorem d_Mo_take_96 : decode b_Mo_take 96 = .ok (.iload 8, 2) := by decide +kernel
theorem d_Mo_take_98 : decode b_Mo_take 98 = .ok (.iload 9, 2) := by decide +kernel
theorem d_Mo_take_100 : decode b_Mo_take 100 = .ok (.invokevirtual 569, 3) := by decide +kernel
theorem d_Mo_take_103 : decode b_Mo_take 103 = .ok (.ifCond .eq 7, 3) := by decide +kernel
theorem d_Mo_take_106 : decode b_Mo_take 106 = .ok (.aload_n 0, 1) := by decide +kernel
theorem d_Mo_take_107 : decode b_Mo_take 107 = .ok (.invokevirtual 573, 3) := by decide +kernel
theorem d_Mo_take_110 : decode b_Mo_take 110 = .ok (.iload 9, 2) := by decide +kernel
theorem d_Mo_take_112 : decode b_Mo_take 112 = .ok (.iconst 1, 1) := by decide +kernel
theorem d_Mo_take_113 : decode b_Mo_take 113 = .ok (.iadd, 1) := by decide +kernel
theorem d_Mo_take_114 : decode b_Mo_take 114 = .ok (.istore 8, 2) := by decide +kernel
theorem d_Mo_take_116 : decode b_Mo_take 116 = .ok (.goto (-53), 3) := by decide +kernel
theorem d_Mo_take_119 : decode b_Mo_take 119 = .ok (.aload_n 0, 1) := by decide +kernel
theorem d_Mo_take_120 : decode b_Mo_take 120 = .ok (.getfield 566, 3) := by decide +kernel
theorem d_Mo_take_123 : decode b_Mo_take 123 = .ok (.ifCond .eq 9, 3) := by decide +kernel
theorem d_Mo_take_126 : decode b_Mo_take 126 = .ok (.aload_n 0, 1) := by decide +kernel
theorem d_Mo_take_127 : decode b_Mo_take 127 = .ok (.iconst 1, 1) := by decide +kernel
theorem d_Mo_take_128 : decode b_Mo_take 128 = .ok (.iload_n 2, 1) := by decide +kernel
theorem d_Mo_take_129 : decode b_Mo_take 129 = .ok (.invokevirtual 576, 3) := by decide +kernel
theorem d_Mo_take_132 : decode b_Mo_take 132 = .ok (.goto 57, 3) := by decide +kernel
theorem d_Mo_take_135 : decode b_Mo_take 135 = .ok (.astore 8, 2) := by decide +kernel
theorem d_Mo_take_137 : decode b_Mo_take 137 = .ok (.aload_n 0, 1) := by decide +kernel
theorem d_Mo_take_138 : decode b_Mo_take 138 = .ok (.getfield 522, 3) := by decide +kernel
theorem d_Mo_take_141 : decode b_Mo_take 141 = .ok (.iload_n 3, 1) := by decide +kernel
theorem d_Mo_take_142 : decode b_Mo_take 142 = .ok (.putfield 420, 3) := by decide +kernel
theorem d_Mo_take_145 : decode b_Mo_take 145 = .ok (.aload_n 0, 1) := by decide +kernel
theorem d_Mo_take_146 : decode b_Mo_take 146 = .ok (.getfield 522, 3) := by decide +kernel
theorem d_Mo_take_149 : decode b_Mo_take 149 = .ok (.iload 4, 2) := by decide +kernel
theorem d_Mo_take_151 : decode b_Mo_take 151 = .ok (.putfield 471, 3) := by decide +kernel
theorem d_Mo_take_154 : decode b_Mo_take 154 = .ok (.aload_n 0, 1) := by decide +kernel
theorem d_Mo_take_155 : decode b_Mo_take 155 = .ok (.getfield 522, 3) := by decide +kernel
theorem d_Mo_take_158 : decode b_Mo_take 158 = .ok (.iload 5, 2) := by decide +kernel
theorem d_Mo_take_160 : decode b_Mo_take 160 = .ok (.putfield 474, 3) := by decide +kernel
theorem d_Mo_take_163 : decode b_Mo_take 163 = .ok (.aload_n 0, 1) := by decide +kernel
theorem d_Mo_take_164 : decode b_Mo_take 164 = .ok (.getfield 522, 3) := by decide +kernel
theorem d_Mo_take_167 : decode b_Mo_take 167 = .ok (.iload 6, 2) := by decide +kernel
theorem d_Mo_take_169 : decode b_Mo_take 169 = .ok (.putfield 477, 3) := by decide +kernel
theorem d_Mo_take_172 : decode b_Mo_take 172 = .ok (.aload_n 0, 1) := by decide +kernel
theorem d_Mo_take_173 : decode b_Mo_take 173 = .ok (.getfield 522, 3) := by decide +kernel
theorem d_Mo_take_176 : decode b_Mo_take 176 = .ok (.iload 7, 2) := by decide +kernel
theorem d_Mo_take_178 : decode b_Mo_take 178 = .ok (.putfield 480, 3) := by decide +kernel
theorem d_Mo_take_181 : decode b_Mo_take 181 = .ok (.bipush (-10), 2) := by decide +kernel
theorem d_Mo_take_183 : decode b_Mo_take 183 = .ok (.aload_n 0, 1) := by decide +kernel
theorem d_Mo_take_184 : decode b_Mo_take 184 = .ok (.getfield 526, 3) := by decide +kernel
theorem d_Mo_take_187 : decode b_Mo_take 187 = .ok (.isub, 1) := by decide +kernel
theorem d_Mo_take_188 : decode b_Mo_take 188 = .ok (.ireturn, 1) := by decide +kernel
theorem d_Mo_take_189 : decode b_Mo_take 189 = .ok (.aload_n 0, 1) := by decide +kernel
theorem d_Mo_take_190 : decode b_Mo_take 190 = .ok (.getfield 522, 3) := by decide +kernel
theorem d_Mo_take_193 : decode b_Mo_take 193 = .ok (.getfield 420, 3) := by decide +kernel
theorem d_Mo_take_196 : decode b_Mo_take 196 = .ok (.iload_n 3, 1) := by decide +kernel
theorem d_Mo_take_197 : decode b_Mo_take 197 = .ok (.isub, 1) := by decide +kernel
theorem d_Mo_take_198 : decode b_Mo_take 198 = .ok (.ireturn, 1) := by decide +kernel
abbrev ra_Mo_take (mc ms : Nat) : Room := { frames := 9, cells := mc, slots := ms, locals := 266 }
abbrev hh_Mo_take : List (Nat × Nat × Nat × Nat) := [(60, 132, 135, 267)]
def wja_Mo_take_135 (mc ms : Nat) (Post : Ly → St → Int32 → Nat → Nat → Prop) (a0 : Nat) (a1 : Nat) (k1 : Nat) (y_j135 : Ly) (s_j135 : St) (d_j135 e_j135 : Nat) (x3j135 : Int32) (x4j135 : Int32) (x5j135 : Int32) (x6j135 : Int32) (x7j135 : Int32) (z0j135 : Nat) : Prop := (d_j135 ≤ mc ∧ e_j135 ≤ ms) ∧ ∃ b_7 : Nat, sO s_j135 a0 45 = some b_7 ∧ cl b_7 = 13 ∧ xP (uV s_j135 b_7 2 x3j135) (fun s_10 : St => ∃ b_11 : Nat, sO s_10 a0 45 = some b_11 ∧ cl b_11 = 13 ∧ xP (uV s_10 b_11 35 x4j135) (fun s_14 : St => ∃ b_15 : Nat, sO s_14 a0 45 = some b_15 ∧ cl b_15 = 13 ∧ xP (uV s_14 b_15 37 x5j135) (fun s_18 : St => ∃ b_19 : Nat, sO s_18 a0 45 = some b_19 ∧ cl b_19 = 13 ∧ xP (uV s_18 b_19 41 x6j135) (fun s_22 : St => ∃ b_23 : Nat, sO s_22 a0 45 = some b_23 ∧ cl b_23 = 13 ∧ xP (uV s_22 b_23 43 x7j135) (fun s_26 : St => Post y_j135 s_26 ((-10) - (sV s_26 a0 49)) d_j135 e_j135)))))
def wja_Mo_take_132 (mc ms : Nat) (Post : Ly → St → Int32 → Nat → Nat → Prop) (a0 : Nat) (a1 : Nat) (k1 : Nat) (y_j132 : Ly) (s_j132 : St) (d_j132 e_j132 : Nat) (x3j132 : Int32) : Prop := (d_j132 ≤ mc ∧ e_j132 ≤ ms) ∧ ∃ b_27 : Nat, sO s_j132 a0 45 = some b_27 ∧ cl b_27 = 13 ∧ Post y_j132 s_j132 ((sV s_j132 b_27 2) - x3j132) d_j132 e_j132
def wja_Mo_take_110 (mc ms : Nat) (Post : Ly → St → Int32 → Nat → Nat → Prop) (K_63 : Ly → St → Nat → Nat → Int32 → Int32 → Int32 → Int32 → Int32 → Int32 → Int32 → Prop) (a0 : Nat) (a1 : Nat) (k1 : Nat) (y_j110 : Ly) (s_j110 : St) (d_j110 e_j110 : Nat) (x2j110 : Int32) (x3j110 : Int32) (x4j110 : Int32) (x5j110 : Int32) (x6j110 : Int32) (x7j110 : Int32) (x9j110 : Int32) : Prop := (d_j110 ≤ mc ∧ e_j110 ≤ ms) ∧ K_63 y_j110 s_j110 d_j110 e_j110 x2j110 x3j110 x4j110 x5j110 x6j110 x7j110 (x9j110 + 1)
def wja_Mo_take_94 (mc ms : Nat) (Post : Ly → St → Int32 → Nat → Nat → Prop) (K_63 : Ly → St → Nat → Nat → Int32 → Int32 → Int32 → Int32 → Int32 → Int32 → Int32 → Prop) (a0 : Nat) (a1 : Nat) (k1 : Nat) (y_j94 : Ly) (s_j94 : St) (d_j94 e_j94 : Nat) (x2j94 : Int32) (x3j94 : Int32) (x4j94 : Int32) (x5j94 : Int32) (x6j94 : Int32) (x7j94 : Int32) (x8j94 : Int32) (x9j94 : Int32) : Prop := (d_j94 ≤ mc ∧ e_j94 ≤ ms) ∧ ∃ mc_43 ms_44 : Nat, (d_j94 + mc_43 ≤ mc ∧ e_j94 + ms_44 ≤ ms) ∧ wa_Mo_cutLine mc_43 ms_44 y_j94 (fun (y_40 : Ly) (s_39 : St) (r_38 : Int32) (d_41 e_42 : Nat) => (d_j94 + d_41 ≤ mc ∧ e_j94 + e_42 ≤ ms) ∧ yP y_j94 a1 k1 = yP y_40 a1 k1 ∧ ((r_38 = 0 → wja_Mo_take_110 mc ms Post K_63 a0 a1 k1 y_40 s_39 (d_j94 + d_41) (e_j94 + e_42) x2j94 x3j94 x4j94 x5j94 x6j94 x7j94 x9j94) ∧ (¬ (r_38 = 0) → ∃ mc_52 ms_53 : Nat, (d_j94 + d_41 + mc_52 ≤ mc ∧ e_j94 + e_42 + ms_53 ≤ ms) ∧ wx_Mo_takeLine mc_52 ms_53 y_40 (fun (y_49 : Ly) (s_48 : St) (d_50 e_51 : Nat) => (d_j94 + d_41 + d_50 ≤ mc ∧ e_j94 + e_42 + e_51 ≤ ms) ∧ yP y_40 a1 k1 = yP y_49 a1 k1 ∧ wja_Mo_take_110 mc ms Post K_63 a0 a1 k1 y_49 s_48 (d_j94 + d_41 + d_50) (e_j94 + e_42 + e_51) x2j94 x3j94 x4j94 x5j94 x6j94 x7j94 x9j94) (fun (y_49 : Ly) (s_48 : St) (d_50 e_51 : Nat) => ∀ q9 : Nat, wja_Mo_take_135 mc ms Post a0 a1 k1 y_49 s_48 (d_j94 + d_41 + d_50) (e_j94 + e_42 + e_51) x3j94 x4j94 x5j94 x6j94 x7j94 q9) s_39 a0))) s_j94 a0 a1 k1 x8j94 x9j94
def wba_Mo_take_73 (mc ms : Nat) (Post : Ly → St → Int32 → Nat → Nat → Prop) (K_63 : Ly → St → Nat → Nat → Int32 → Int32 → Int32 → Int32 → Int32 → Int32 → Int32 → Prop) (K_73 : Ly → St → Nat → Nat → Int32 → Int32 → Int32 → Int32 → Int32 → Int32 → Int32 → Int32 → Prop) (a0 : Nat) (a1 : Nat) (k1 : Nat) (y_h73 : Ly) (s_h73 : St) (d_h73 e_h73 : Nat) (x2h73 : Int32) (x3h73 : Int32) (x4h73 : Int32) (x5h73 : Int32) (x6h73 : Int32) (x7h73 : Int32) (x8h73 : Int32) (x9h73 : Int32) : Prop := (d_h73 ≤ mc ∧ e_h73 ≤ ms) ∧ ((x2h73 ≤ x9h73 → wja_Mo_take_94 mc ms Post K_63 a0 a1 k1 y_h73 s_h73 d_h73 e_h73 x2h73 x3h73 x4h73 x5h73 x6h73 x7h73 x8h73 x9h73) ∧ (¬ (x2h73 ≤ x9h73) → xA y_h73 s_h73 a1 k1 x9h73 (fun x_56 : Int32 => ((x_56 = 10 → wja_Mo_take_94 mc ms Post K_63 a0 a1 k1 y_h73 s_h73 d_h73 e_h73 x2h73 x3h73 x4h73 x5h73 x6h73 x7h73 x8h73 x9h73) ∧ (¬ (x_56 = 10) → K_73 y_h73 s_h73 d_h73 e_h73 x2h73 x3h73 x4h73 x5h73 x6h73 x7h73 x8h73 (x9h73 + 1))))))
def wla_Mo_take_73 (mc ms : Nat) (Post : Ly → St → Int32 → Nat → Nat → Prop) (K_63 : Ly → St → Nat → Nat → Int32 → Int32 → Int32 → Int32 → Int32 → Int32 → Int32 → Prop) (a0 : Nat) (a1 : Nat) (k1 : Nat) (y_h73 : Ly) (s_h73 : St) (d_h73 e_h73 : Nat) (x2h73 : Int32) (x3h73 : Int32) (x4h73 : Int32) (x5h73 : Int32) (x6h73 : Int32) (x7h73 : Int32) (x8h73 : Int32) (x9h73 : Int32) : Prop := ∃ (I : Ly → St → Nat → Nat → Int32 → Int32 → Int32 → Int32 → Int32 → Int32 → Int32 → Int32 → Prop) (μ : Ly → St → Nat → Nat → Int32 → Int32 → Int32 → Int32 → Int32 → Int32 → Int32 → Int32 → Nat), I y_h73 s_h73 d_h73 e_h73 x2h73 x3h73 x4h73 x5h73 x6h73 x7h73 x8h73 x9h73 ∧ ∀ (u1 : Ly) (u2 : St) (u3 u4 : Nat) (t0 : Int32) (t1 : Int32) (t2 : Int32) (t3 : Int32) (t4 : Int32) (t5 : Int32) (t6 : Int32) (t7 : Int32), I u1 u2 u3 u4 t0 t1 t2 t3 t4 t5 t6 t7 → wba_Mo_take_73 mc ms Post K_63 (fun z1 z2 z3 z4 t0q t1q t2q t3q t4q t5q t6q t7q => I z1 z2 z3 z4 t0q t1q t2q t3q t4q t5q t6q t7q ∧ μ z1 z2 z3 z4 t0q t1q t2q t3q t4q t5q t6q t7q < μ u1 u2 u3 u4 t0 t1 t2 t3 t4 t5 t6 t7) a0 a1 k1 u1 u2 u3 u4 t0 t1 t2 t3 t4 t5 t6 t7
def wba_Mo_take_63 (mc ms : Nat) (Post : Ly → St → Int32 → Nat → Nat → Prop) (K_63 : Ly → St → Nat → Nat → Int32 → Int32 → Int32 → Int32 → Int32 → Int32 → Int32 → Prop) (a0 : Nat) (a1 : Nat) (k1 : Nat) (y_h63 : Ly) (s_h63 : St) (d_h63 e_h63 : Nat) (x2h63 : Int32) (x3h63 : Int32) (x4h63 : Int32) (x5h63 : Int32) (x6h63 : Int32) (x7h63 : Int32) (x8h63 : Int32) : Prop := (d_h63 ≤ mc ∧ e_h63 ≤ ms) ∧ ((x2h63 < x8h63 → (((sV s_h63 a0 52) = 0 → wja_Mo_take_132 mc ms Post a0 a1 k1 y_h63 s_h63 d_h63 e_h63 x3h63) ∧ (¬ ((sV s_h63 a0 52) = 0) → ∃ mc_35 ms_36 : Nat, (d_h63 + mc_35 ≤ mc ∧ e_h63 + ms_36 ≤ ms) ∧ wx_Mo_refuse mc_35 ms_36 y_h63 (fun (y_32 : Ly) (s_31 : St) (d_33 e_34 : Nat) => (d_h63 + d_33 ≤ mc ∧ e_h63 + e_34 ≤ ms) ∧ wja_Mo_take_132 mc ms Post a0 a1 k1 y_32 s_31 (d_h63 + d_33) (e_h63 + e_34) x3h63) (fun (y_32 : Ly) (s_31 : St) (d_33 e_34 : Nat) => ∀ q9 : Nat, wja_Mo_take_135 mc ms Post a0 a1 k1 y_32 s_31 (d_h63 + d_33) (e_h63 + e_34) x3h63 x4h63 x5h63 x6h63 x7h63 q9) s_h63 a0 1 x2h63))) ∧ (¬ (x2h63 < x8h63) → wla_Mo_take_73 mc ms Post K_63 a0 a1 k1 y_h63 s_h63 d_h63 e_h63 x2h63 x3h63 x4h63 x5h63 x6h63 x7h63 x8h63 x8h63))
def wla_Mo_take_63 (mc ms : Nat) (Post : Ly → St → Int32 → Nat → Nat → Prop) (a0 : Nat) (a1 : Nat) (k1 : Nat) (y_h63 : Ly) (s_h63 : St) (d_h63 e_h63 : Nat) (x2h63 : Int32) (x3h63 : Int32) (x4h63 : Int32) (x5h63 : Int32) (x6h63 : Int32) (x7h63 : Int32) (x8h63 : Int32) : Prop := ∃ (I : Ly → St → Nat → Nat → Int32 → Int32 → Int32 → Int32 → Int32 → Int32 → Int32 → Prop) (μ : Ly → St → Nat → Nat → Int32 → Int32 → Int32 → Int32 → Int32 → Int32 → Int32 → Nat), I y_h63 s_h63 d_h63 e_h63 x2h63 x3h63 x4h63 x5h63 x6h63 x7h63 x8h63 ∧ ∀ (u1 : Ly) (u2 : St) (u3 u4 : Nat) (t0 : Int32) (t1 : Int32) (t2 : Int32) (t3 : Int32) (t4 : Int32) (t5 : Int32) (t6 : Int32), I u1 u2 u3 u4 t0 t1 t2 t3 t4 t5 t6 → wba_Mo_take_63 mc ms Post (fun z1 z2 z3 z4 t0q t1q t2q t3q t4q t5q t6q => I z1 z2 z3 z4 t0q t1q t2q t3q t4q t5q t6q ∧ μ z1 z2 z3 z4 t0q t1q t2q t3q t4q t5q t6q < μ u1 u2 u3 u4 t0 t1 t2 t3 t4 t5 t6) a0 a1 k1 u1 u2 u3 u4 t0 t1 t2 t3 t4 t5 t6
def wa_Mo_take (mc ms : Nat) (y : Ly) (Post : Ly → St → Int32 → Nat → Nat → Prop) (σ : St) (a0 : Nat) (a1 : Nat) (k1 : Nat) (v2 : Int32) : Prop := ∃ b_1 : Nat, sO σ a0 45 = some b_1 ∧ cl b_1 = 13 ∧ xP (uV σ a0 49 0) (fun s_4 : St => xP (uV s_4 a0 50 (-2)) (fun s_5 : St => xP (uV s_5 a0 52 0) (fun s_6 : St => wla_Mo_take_63 mc ms Post a0 a1 k1 y s_6 0 0 v2 (sV σ b_1 2) (sV σ b_1 35) (sV σ b_1 37) (sV σ b_1 41) (sV σ b_1 43) 0)))
set_option maxHeartbeats 4000000 in
set_option maxRecDepth 100000 in
theorem ca_Mo_take (l : Launch) (D : va_G) (g : Nat → ClassId) (ad : Nat → Nat) (mc ms : Nat) (y : Ly) (Post : Ly → St → Int32 → Nat → Nat → Prop) (σ : St) (a0 : Nat) (a1 : Nat) (k1 : Nat) (v2 : Int32) (sz uz : Nat) (h_a0 : cl a0 = 14) (h_a1 : kd (cl a1) k1 = 2 ∧ tyx (cl a1) k1 = 1) (h : wa_Mo_take mc ms y Post σ a0 a1 k1 v2) : Met l y_Mo_take (mww y_Mo_take b_Mo_take 10 (some .int) hh_Mo_take) (ra_Mo_take mc ms) (PCu g D [] [.ref (ad a0), .ref (yP y a1 k1), .int v2] sz uz (ws g ad y σ)) (va_Qi (fun (r : Int32) (u : Ly × St × Nat × Nat) => Post u.1 u.2.1 r u.2.2.1 u.2.2.2) (QU D (va_A (ws g ad y σ) sz) (fun u => ws g ad u.1 u.2.1) sz uz (fun u => u.2.2.1) (fun u => u.2.2.2)) (va_A (ws g ad y σ) sz)) mc ms (va_A (ws g ad y σ) sz) := by
  refine ofIuW (by decide +kernel) (Nat.le_of_ble_eq_true rfl) ?_
  intro p e s m args below meth c A Q ls H locs G htab hsz hP hD hS hl hret
  subst hsz
  have hl : lv_has ls 10 [(0, .ref (ad a0)), (1, .ref (yP y a1 k1)), (2, .int v2)] := hl
  have hd : 0 ≤ mc ∧ 0 ≤ ms := ⟨Nat.zero_le _, Nat.zero_le _⟩
  unfold wa_Mo_take at h
  refine lv_aload_n G.1 G.2.1 d_Mo_take_0 rfl (lv_at hl 0 rfl) ?_
  obtain ⟨b_1, e_2, c_3, h⟩ := h
  refine ugf (v := .ref (ad b_1)) G hP h_a0 iMo rfl 45 (by decide) rfl q3109 rfl (by show va_rf ((sO σ a0 45).map ad) = _; rw [e_2]; rfl) d_Mo_take_1 ?_
  refine ugfN (v := .int (sV σ b_1 2)) G hP c_3 iMw rfl 2 (by decide) rfl q2708 rfl rfl d_Mo_take_4 ?_
  refine lv_istore_n (lv' := [(3, .int (sV σ b_1 2)), (0, .ref (ad a0)), (1, .ref (yP y a1 k1)), (2, .int v2)]) G.1 G.2.1 d_Mo_take_7 rfl hl (by decide) rfl (fun ls hl => ?_)
  refine lv_aload_n G.1 G.2.1 d_Mo_take_8 rfl (lv_at hl 1 rfl) ?_
  refine ugf (v := .ref (ad b_1)) G hP h_a0 iMo rfl 45 (by decide) rfl q3109 rfl (by show va_rf ((sO σ a0 45).map ad) = _; rw [e_2]; rfl) d_Mo_take_9 ?_
  refine ugfN (v := .int (sV σ b_1 35)) G hP c_3 iMw rfl 35 (by decide) rfl q2773 rfl rfl d_Mo_take_12 ?_
  refine lv_istore (lv' := [(4, .int (sV σ b_1 35)), (3, .int (sV σ b_1 2)), (0, .ref (ad a0)), (1, .ref (yP y a1 k1)), (2, .int v2)]) G.1 G.2.1 d_Mo_take_15 hl (by decide) rfl (fun ls hl => ?_)
  refine lv_aload_n G.1 G.2.1 d_Mo_take_17 rfl (lv_at hl 2 rfl) ?_
  refine ugf (v := .ref (ad b_1)) G hP h_a0 iMo rfl 45 (by decide) rfl q3109 rfl (by show va_rf ((sO σ a0 45).map ad) = _; rw [e_2]; rfl) d_Mo_take_18 ?_
  refine ugfN (v := .int (sV σ b_1 37)) G hP c_3 iMw rfl 37 (by decide) rfl q2776 rfl rfl d_Mo_take_21 ?_
  refine W.eq (g2 := F0 m 24 ls [.int (sV σ b_1 37)]) rfl ?_
  refine lv_istore (lv' := [(5, .int (sV σ b_1 37)), (4, .int (sV σ b_1 35)), (3, .int (sV σ b_1 2)), (0, .ref (ad a0)), (1, .ref (yP y a1 k1)), (2, .int v2)]) G.1 G.2.1 d_Mo_take_24 hl (by decide) rfl (fun ls hl => ?_)
  refine lv_aload_n G.1 G.2.1 d_Mo_take_26 rfl (lv_at hl 3 rfl) ?_
  refine ugf (v := .ref (ad b_1)) G hP h_a0 iMo rfl 45 (by decide) rfl q3109 rfl (by show va_rf ((sO σ a0 45).map ad) = _; rw [e_2]; rfl) d_Mo_take_27 ?_
  refine ugfN (v := .int (sV σ b_1 41)) G hP c_3 iMw rfl 41 (by decide) rfl q2783 rfl rfl d_Mo_take_30 ?_
  refine lv_istore (lv' := [(6, .int (sV σ b_1 41)), (5, .int (sV σ b_1 37)), (4, .int (sV σ b_1 35)), (3, .int (sV σ b_1 2)), (0, .ref (ad a0)), (1, .ref (yP y a1 k1)), (2, .int v2)]) G.1 G.2.1 d_Mo_take_33 hl (by decide) rfl (fun ls hl => ?_)
  refine lv_aload_n G.1 G.2.1 d_Mo_take_35 rfl (lv_at hl 4 rfl) ?_
  refine ugf (v := .ref (ad b_1)) G hP h_a0 iMo rfl 45 (by decide) rfl q3109 rfl (by show va_rf ((sO σ a0 45).map ad) = _; rw [e_2]; rfl) d_Mo_take_36 ?_
  refine ugfN (v := .int (sV σ b_1 43)) G hP c_3 iMw rfl 43 (by decide) rfl q2786 rfl rfl d_Mo_take_39 ?_
  refine lv_istore (lv' := [(7, .int (sV σ b_1 43)), (6, .int (sV σ b_1 41)), (5, .int (sV σ b_1 37)), (4, .int (sV σ b_1 35)), (3, .int (sV σ b_1 2)), (0, .ref (ad a0)), (1, .ref (yP y a1 k1)), (2, .int v2)]) G.1 G.2.1 d_Mo_take_42 hl (by decide) rfl (fun ls hl => ?_)
  refine lv_aload_n G.1 G.2.1 d_Mo_take_44 rfl (lv_at hl 5 rfl) ?_
  refine lv_iconst (v := 0) G.1 G.2.1 d_Mo_take_45 (by decide) ?_
  refine upf G hP hD hS h 49 putV h_a0 iMo tMo tMo_ok nMo rfl (by decide) rfl q3113 rfl rfl fV rfl rfl d_Mo_take_46 (fun s_4 H locs h hP hD hS => ?_)
  refine W.eq (g2 := F0 m 49 ls []) rfl ?_
  refine lv_aload_n G.1 G.2.1 d_Mo_take_49 rfl (lv_at hl 5 rfl) ?_
  refine lv_bipush (v := (-2)) G.1 G.2.1 d_Mo_take_50 (by decide) ?_
  refine upf G hP hD hS h 50 putV h_a0 iMo tMo tMo_ok nMo rfl (by decide) rfl q3114 rfl rfl fV rfl rfl d_Mo_take_52 (fun s_5 H locs h hP hD hS => ?_)
  refine lv_aload_n G.1 G.2.1 d_Mo_take_55 rfl (lv_at hl 5 rfl) ?_
  refine lv_iconst (v := 0) G.1 G.2.1 d_Mo_take_56 (by decide) ?_
  refine upf G hP hD hS h 52 putV h_a0 iMo tMo tMo_ok nMo rfl (by decide) rfl q3116 rfl rfl fV rfl rfl d_Mo_take_57 (fun s_6 H locs h hP hD hS => ?_)
  refine lv_iconst (v := 0) G.1 G.2.1 d_Mo_take_60 (by decide) ?_
  refine lv_istore (lv' := [(8, .int 0), (7, .int (sV σ b_1 43)), (6, .int (sV σ b_1 41)), (5, .int (sV σ b_1 37)), (4, .int (sV σ b_1 35)), (3, .int (sV σ b_1 2)), (0, .ref (ad a0)), (1, .ref (yP y a1 k1)), (2, .int v2)]) G.1 G.2.1 d_Mo_take_61 hl (by decide) rfl (fun ls hl => ?_)
  unfold wla_Mo_take_63 at h
  obtain ⟨I_63, μ_63, hI_63, hB_63⟩ := h
  have L_63 : ∀ (n_63 : Nat) (y_h63 : Ly) (s_h63 : St) (d_h63 e_h63 : Nat) (x2h63 : Int32) (x3h63 : Int32) (x4h63 : Int32) (x5h63 : Int32) (x6h63 : Int32) (x7h63 : Int32) (x8h63 : Int32), μ_63 y_h63 s_h63 d_h63 e_h63 x2h63 x3h63 x4h63 x5h63 x6h63 x7h63 x8h63 < n_63 → I_63 y_h63 s_h63 d_h63 e_h63 x2h63 x3h63 x4h63 x5h63 x6h63 x7h63 x8h63 → ∀ (H : Heap) (locs : List Loc), va_P D CL (ws g ad y_h63 s_h63) H → va_D A (ws g ad y_h63 s_h63) → va_S A s.heap H locs → ∀ ls, lv_has ls 10 [(0, .ref (ad a0)), (1, .ref (yP y_h63 a1 k1)), (2, .int x2h63), (3, .int x3h63), (4, .int x4h63), (5, .int x5h63), (6, .int x6h63), (7, .int x7h63), (8, .int x8h63)] → W p l e (ra_Mo_take mc ms) s m args below meth c H locs d_h63 e_h63 Q (F0 m 63 ls []) := by
    intro n_63
    induction n_63 with
    | zero => intro y_h63 s_h63 d_h63 e_h63 x2h63 x3h63 x4h63 x5h63 x6h63 x7h63 x8h63 hμ; exact absurd hμ (Nat.not_lt_zero _)
    | succ n_63 ih_63 =>
      intro y_h63 s_h63 d_h63 e_h63 x2h63 x3h63 x4h63 x5h63 x6h63 x7h63 x8h63 hμ_63 hJ H locs hP hD hS ls hl
      obtain ⟨K_63, hK_63, h⟩ : ∃ K : Ly → St → Nat → Nat → Int32 → Int32 → Int32 → Int32 → Int32 → Int32 → Int32 → Prop, (∀ z1 z2 z3 z4 (t0 : Int32) (t1 : Int32) (t2 : Int32) (t3 : Int32) (t4 : Int32) (t5 : Int32) (t6 : Int32), K z1 z2 z3 z4 t0 t1 t2 t3 t4 t5 t6 → I_63 z1 z2 z3 z4 t0 t1 t2 t3 t4 t5 t6 ∧ μ_63 z1 z2 z3 z4 t0 t1 t2 t3 t4 t5 t6 < μ_63 y_h63 s_h63 d_h63 e_h63 x2h63 x3h63 x4h63 x5h63 x6h63 x7h63 x8h63) ∧ wba_Mo_take_63 mc ms Post K a0 a1 k1 y_h63 s_h63 d_h63 e_h63 x2h63 x3h63 x4h63 x5h63 x6h63 x7h63 x8h63 := ⟨_, fun _ _ _ _ _ _ _ _ _ _ _ h => h, hB_63 y_h63 s_h63 d_h63 e_h63 x2h63 x3h63 x4h63 x5h63 x6h63 x7h63 x8h63 hJ⟩
      unfold wba_Mo_take_63 at h
      obtain ⟨hd, h⟩ := h
      refine lv_iload G.1 G.2.1 d_Mo_take_63 (lv_at hl 8 rfl) ?_
      refine lv_iload_n G.1 G.2.1 d_Mo_take_65 rfl (lv_at hl 2 rfl) ?_
      have J_135 : ∀ (y_j135 : Ly) (s_j135 : St) (d_j135 e_j135 : Nat) (x3j135 : Int32) (x4j135 : Int32) (x5j135 : Int32) (x6j135 : Int32) (x7j135 : Int32) (z0j135 : Nat) (H : Heap) (locs : List Loc), wja_Mo_take_135 mc ms Post a0 a1 k1 y_j135 s_j135 d_j135 e_j135 x3j135 x4j135 x5j135 x6j135 x7j135 z0j135 → va_P D CL (ws g ad y_j135 s_j135) H → va_D A (ws g ad y_j135 s_j135) → va_S A s.heap H locs → ∀ ls, lv_has ls 10 [(0, .ref (ad a0)), (3, .int x3j135), (4, .int x4j135), (5, .int x5j135), (6, .int x6j135), (7, .int x7j135)] → W p l e (ra_Mo_take mc ms) s m args below meth c H locs d_j135 e_j135 Q (F0 m 135 ls [.ref z0j135]) := by
        intro y_j135 s_j135 d_j135 e_j135 x3j135 x4j135 x5j135 x6j135 x7j135 z0j135 H locs h hP hD hS ls hl
        unfold wja_Mo_take_135 at h
        obtain ⟨hd, h⟩ := h
        refine lv_astore (lv' := [(8, .ref z0j135), (0, .ref (ad a0)), (3, .int x3j135), (4, .int x4j135), (5, .int x5j135), (6, .int x6j135), (7, .int x7j135)]) G.1 G.2.1 d_Mo_take_135 hl (by decide) rfl (fun ls hl => ?_)
        refine lv_aload_n G.1 G.2.1 d_Mo_take_137 rfl (lv_at hl 1 rfl) ?_
        obtain ⟨b_7, e_8, c_9, h⟩ := h
        refine ugf (v := .ref (ad b_7)) G hP h_a0 iMo rfl 45 (by decide) rfl q3109 rfl (by show va_rf ((sO s_j135 a0 45).map ad) = _; rw [e_8]; rfl) d_Mo_take_138 ?_
        refine lv_iload_n G.1 G.2.1 d_Mo_take_141 rfl (lv_at hl 2 rfl) ?_
        refine upfN G hP hD hS h 2 putV c_9 iMw tMw tMw_ok nMw rfl (by decide) rfl q2708 rfl rfl fV rfl rfl d_Mo_take_142 (fun s_10 H locs h hP hD hS => ?_)
        refine lv_aload_n G.1 G.2.1 d_Mo_take_145 rfl (lv_at hl 1 rfl) ?_
        obtain ⟨b_11, e_12, c_13, h⟩ := h
        refine ugf (v := .ref (ad b_11)) G hP h_a0 iMo rfl 45 (by decide) rfl q3109 rfl (by show va_rf ((sO s_10 a0 45).map ad) = _; rw [e_12]; rfl) d_Mo_take_146 ?_
        refine lv_iload G.1 G.2.1 d_Mo_take_149 (lv_at hl 3 rfl) ?_
        refine upfN G hP hD hS h 35 putV c_13 iMw tMw tMw_ok nMw rfl (by decide) rfl q2773 rfl rfl fV rfl rfl d_Mo_take_151 (fun s_14 H locs h hP hD hS => ?_)
        refine lv_aload_n G.1 G.2.1 d_Mo_take_154 rfl (lv_at hl 1 rfl) ?_
        obtain ⟨b_15, e_16, c_17, h⟩ := h
        refine ugf (v := .ref (ad b_15)) G hP h_a0 iMo rfl 45 (by decide) rfl q3109 rfl (by show va_rf ((sO s_14 a0 45).map ad) = _; rw [e_16]; rfl) d_Mo_take_155 ?_
        refine W.eq (g2 := F0 m 158 ls [.ref (ad b_15)]) rfl ?_
        refine lv_iload G.1 G.2.1 d_Mo_take_158 (lv_at hl 4 rfl) ?_
        refine upfN G hP hD hS h 37 putV c_17 iMw tMw tMw_ok nMw rfl (by decide) rfl q2776 rfl rfl fV rfl rfl d_Mo_take_160 (fun s_18 H locs h hP hD hS => ?_)
        refine lv_aload_n G.1 G.2.1 d_Mo_take_163 rfl (lv_at hl 1 rfl) ?_
        obtain ⟨b_19, e_20, c_21, h⟩ := h
        refine ugf (v := .ref (ad b_19)) G hP h_a0 iMo rfl 45 (by decide) rfl q3109 rfl (by show va_rf ((sO s_18 a0 45).map ad) = _; rw [e_20]; rfl) d_Mo_take_164 ?_
        refine lv_iload G.1 G.2.1 d_Mo_take_167 (lv_at hl 5 rfl) ?_
        refine upfN G hP hD hS h 41 putV c_21 iMw tMw tMw_ok nMw rfl (by decide) rfl q2783 rfl rfl fV rfl rfl d_Mo_take_169 (fun s_22 H locs h hP hD hS => ?_)
        refine lv_aload_n G.1 G.2.1 d_Mo_take_172 rfl (lv_at hl 1 rfl) ?_
        obtain ⟨b_23, e_24, c_25, h⟩ := h
        refine ugf (v := .ref (ad b_23)) G hP h_a0 iMo rfl 45 (by decide) rfl q3109 rfl (by show va_rf ((sO s_22 a0 45).map ad) = _; rw [e_24]; rfl) d_Mo_take_173 ?_
        refine lv_iload G.1 G.2.1 d_Mo_take_176 (lv_at hl 6 rfl) ?_
        refine upfN G hP hD hS h 43 putV c_25 iMw tMw tMw_ok nMw rfl (by decide) rfl q2786 rfl rfl fV rfl rfl d_Mo_take_178 (fun s_26 H locs h hP hD hS => ?_)
        refine lv_bipush (v := (-10)) G.1 G.2.1 d_Mo_take_181 (by decide) ?_
        refine lv_aload_n G.1 G.2.1 d_Mo_take_183 rfl (lv_at hl 1 rfl) ?_
        refine W.eq (g2 := F0 m 184 ls [.ref (ad a0), .int (-10)]) rfl ?_
        refine ugf (v := .int (sV s_26 a0 49)) G hP h_a0 iMo rfl 49 (by decide) rfl q3113 rfl rfl d_Mo_take_184 ?_
        refine lv_isub G.1 G.2.1 d_Mo_take_187 ?_
        exact hret _ (y_j135, s_26, d_j135, e_j135) _ _ _ _ _ ls h hP hD hS (Nat.le_refl _) (Nat.le_refl _) hd.1 hd.2 d_Mo_take_188
      refine lv_icmp_gt (tgt := 119) G.1 G.2.1 d_Mo_take_66 (by decide) (fun c66 => ?_) (fun c66 => ?_)
      · skip
        have h := h.1 c66
        refine lv_aload_n G.1 G.2.1 d_Mo_take_119 rfl (lv_at hl 0 rfl) ?_
        refine ugf (v := .int (sV s_h63 a0 52)) G hP h_a0 iMo rfl 52 (by decide) rfl q3116 rfl rfl d_Mo_take_120 ?_
        have J_132 : ∀ (y_j132 : Ly) (s_j132 : St) (d_j132 e_j132 : Nat) (x3j132 : Int32) (H : Heap) (locs : List Loc), wja_Mo_take_132 mc ms Post a0 a1 k1 y_j132 s_j132 d_j132 e_j132 x3j132 → va_P D CL (ws g ad y_j132 s_j132) H → va_D A (ws g ad y_j132 s_j132) → va_S A s.heap H locs → ∀ ls, lv_has ls 10 [(0, .ref (ad a0)), (3, .int x3j132)] → W p l e (ra_Mo_take mc ms) s m args below meth c H locs d_j132 e_j132 Q (F0 m 132 ls []) := by
          intro y_j132 s_j132 d_j132 e_j132 x3j132 H locs h hP hD hS ls hl
          unfold wja_Mo_take_132 at h
          obtain ⟨hd, h⟩ := h
          refine lv_goto (tgt := 189) G.1 G.2.1 d_Mo_take_132 (by decide) ?_
          refine lv_aload_n G.1 G.2.1 d_Mo_take_189 rfl (lv_at hl 0 rfl) ?_
          obtain ⟨b_27, e_28, c_29, h⟩ := h
          refine ugf (v := .ref (ad b_27)) G hP h_a0 iMo rfl 45 (by decide) rfl q3109 rfl (by show va_rf ((sO s_j132 a0 45).map ad) = _; rw [e_28]; rfl) d_Mo_take_190 ?_
          refine ugfN (v := .int (sV s_j132 b_27 2)) G hP c_29 iMw rfl 2 (by decide) rfl q2708 rfl rfl d_Mo_take_193 ?_
          refine lv_iload_n G.1 G.2.1 d_Mo_take_196 rfl (lv_at hl 1 rfl) ?_
          refine lv_isub G.1 G.2.1 d_Mo_take_197 ?_
          exact hret _ (y_j132, s_j132, d_j132, e_j132) _ _ _ _ _ ls h hP hD hS (Nat.le_refl _) (Nat.le_refl _) hd.1 hd.2 d_Mo_take_198
        refine lv_if_eq (tgt := 132) G.1 G.2.1 d_Mo_take_123 (by decide) (fun c123 => ?_) (fun c123 => ?_)
        · skip
          have h := h.1 c123
          exact J_132 y_h63 s_h63 d_h63 e_h63 x3h63 H locs h hP hD hS ls (lv_sub hl [0, 3] rfl)
        · skip
          have h := h.2 c123
          refine lv_aload_n G.1 G.2.1 d_Mo_take_126 rfl (lv_at hl 0 rfl) ?_
          refine lv_iconst (v := 1) G.1 G.2.1 d_Mo_take_127 (by decide) ?_
          refine lv_iload_n G.1 G.2.1 d_Mo_take_128 rfl (lv_at hl 2 rfl) ?_
          obtain ⟨mc_35, ms_36, hr_37, h⟩ := h
          refine uxVv (As := [.int 1, .int x2h63]) (rest := []) G hP hD hS (cx_Mo_refuse l D g ad mc_35 ms_36 y_h63 _ _ s_h63 a0 1 x2h63 H.size (us H) h_a0 h) (fun _ h => absurd h List.not_mem_nil) w9_Mo_refuse q3535 ⟨Nat.le_of_ble_eq_true rfl, Nat.le_of_ble_eq_true rfl⟩ rfl rfl h_a0 (q := (RMo, TMo, 131)) rfl rfl hl.1 rfl (Nat.le_of_ble_eq_true rfl) rfl hr_37 d_Mo_take_129 (fun y_32 s_31 d_33 e_34 H locs q9 ce h hP hD hS hce hcv hcl => ?_) (fun y_32 s_31 d_33 e_34 H locs h hP hD hS => ?_)
          · skip
            refine vx_catch (own := "ClassWorksModel") (name := "java/lang/IllegalStateException") (E := "java/lang/IllegalStateException") G.2.2.2.2.2.2.1 [] ⟨60, 132, 135, 267⟩ [] htab (fun z hz => absurd hz List.not_mem_nil) (by decide) (by decide) (G.2.2.2.2.2.1 _ q2633) (G.2.2.2.2.2.2.2.2.2.1.use (w := Cond.castable "java/lang/IllegalStateException" "java/lang/IllegalStateException") (lw_nestmem (List.mem_of_getElem? (i := 2635) (by decide +kernel)) rfl) rfl) hce hcv hcl ?_
            refine W.eq (g2 := F0 m 135 ls [.ref q9]) rfl ?_
            have h := h q9
            exact J_135 y_32 s_31 (d_h63 + d_33) (e_h63 + e_34) x3h63 x4h63 x5h63 x6h63 x7h63 q9 H locs h hP hD hS ls (lv_sub hl [0, 3, 4, 5, 6, 7] rfl)
          have hl := lv_sub (l' := [(0, .ref (ad a0)), (3, .int x3h63)]) hl [0, 3] rfl
          obtain ⟨hd, h⟩ := h
          exact J_132 y_32 s_31 (d_h63 + d_33) (e_h63 + e_34) x3h63 H locs h hP hD hS ls (lv_sub hl [0, 1] rfl)
      · skip
        have h := h.2 c66
        refine lv_iload G.1 G.2.1 d_Mo_take_69 (lv_at hl 8 rfl) ?_
        refine lv_istore (lv' := [(9, .int x8h63), (0, .ref (ad a0)), (1, .ref (yP y_h63 a1 k1)), (2, .int x2h63), (3, .int x3h63), (4, .int x4h63), (5, .int x5h63), (6, .int x6h63), (7, .int x7h63), (8, .int x8h63)]) G.1 G.2.1 d_Mo_take_71 hl (by decide) rfl (fun ls hl => ?_)
        unfold wla_Mo_take_73 at h
        obtain ⟨I_73, μ_73, hI_73, hB_73⟩ := h
        have L_73 : ∀ (n_73 : Nat) (y_h73 : Ly) (s_h73 : St) (d_h73 e_h73 : Nat) (x2h73 : Int32) (x3h73 : Int32) (x4h73 : Int32) (x5h73 : Int32) (x6h73 : Int32) (x7h73 : Int32) (x8h73 : Int32) (x9h73 : Int32), μ_73 y_h73 s_h73 d_h73 e_h73 x2h73 x3h73 x4h73 x5h73 x6h73 x7h73 x8h73 x9h73 < n_73 → I_73 y_h73 s_h73 d_h73 e_h73 x2h73 x3h73 x4h73 x5h73 x6h73 x7h73 x8h73 x9h73 → ∀ (H : Heap) (locs : List Loc), va_P D CL (ws g ad y_h73 s_h73) H → va_D A (ws g ad y_h73 s_h73) → va_S A s.heap H locs → ∀ ls, lv_has ls 10 [(0, .ref (ad a0)), (1, .ref (yP y_h73 a1 k1)), (2, .int x2h73), (3, .int x3h73), (4, .int x4h73), (5, .int x5h73), (6, .int x6h73), (7, .int x7h73), (8, .int x8h73), (9, .int x9h73)] → W p l e (ra_Mo_take mc ms) s m args below meth c H locs d_h73 e_h73 Q (F0 m 73 ls []) := by
          intro n_73
          induction n_73 with
          | zero => intro y_h73 s_h73 d_h73 e_h73 x2h73 x3h73 x4h73 x5h73 x6h73 x7h73 x8h73 x9h73 hμ; exact absurd hμ (Nat.not_lt_zero _)
          | succ n_73 ih_73 =>
            intro y_h73 s_h73 d_h73 e_h73 x2h73 x3h73 x4h73 x5h73 x6h73 x7h73 x8h73 x9h73 hμ_73 hJ H locs hP hD hS ls hl
            obtain ⟨K_73, hK_73, h⟩ : ∃ K : Ly → St → Nat → Nat → Int32 → Int32 → Int32 → Int32 → Int32 → Int32 → Int32 → Int32 → Prop, (∀ z1 z2 z3 z4 (t0 : Int32) (t1 : Int32) (t2 : Int32) (t3 : Int32) (t4 : Int32) (t5 : Int32) (t6 : Int32) (t7 : Int32), K z1 z2 z3 z4 t0 t1 t2 t3 t4 t5 t6 t7 → I_73 z1 z2 z3 z4 t0 t1 t2 t3 t4 t5 t6 t7 ∧ μ_73 z1 z2 z3 z4 t0 t1 t2 t3 t4 t5 t6 t7 < μ_73 y_h73 s_h73 d_h73 e_h73 x2h73 x3h73 x4h73 x5h73 x6h73 x7h73 x8h73 x9h73) ∧ wba_Mo_take_73 mc ms Post K_63 K a0 a1 k1 y_h73 s_h73 d_h73 e_h73 x2h73 x3h73 x4h73 x5h73 x6h73 x7h73 x8h73 x9h73 := ⟨_, fun _ _ _ _ _ _ _ _ _ _ _ _ h => h, hB_73 y_h73 s_h73 d_h73 e_h73 x2h73 x3h73 x4h73 x5h73 x6h73 x7h73 x8h73 x9h73 hJ⟩
            unfold wba_Mo_take_73 at h
            obtain ⟨hd, h⟩ := h
            refine lv_iload G.1 G.2.1 d_Mo_take_73 (lv_at hl 9 rfl) ?_
            refine lv_iload_n G.1 G.2.1 d_Mo_take_75 rfl (lv_at hl 2 rfl) ?_
            have J_94 : ∀ (y_j94 : Ly) (s_j94 : St) (d_j94 e_j94 : Nat) (x2j94 : Int32) (x3j94 : Int32) (x4j94 : Int32) (x5j94 : Int32) (x6j94 : Int32) (x7j94 : Int32) (x8j94 : Int32) (x9j94 : Int32) (H : Heap) (locs : List Loc), wja_Mo_take_94 mc ms Post K_63 a0 a1 k1 y_j94 s_j94 d_j94 e_j94 x2j94 x3j94 x4j94 x5j94 x6j94 x7j94 x8j94 x9j94 → va_P D CL (ws g ad y_j94 s_j94) H → va_D A (ws g ad y_j94 s_j94) → va_S A s.heap H locs → ∀ ls, lv_has ls 10 [(0, .ref (ad a0)), (1, .ref (yP y_j94 a1 k1)), (2, .int x2j94), (3, .int x3j94), (4, .int x4j94), (5, .int x5j94), (6, .int x6j94), (7, .int x7j94), (8, .int x8j94), (9, .int x9j94)] → W p l e (ra_Mo_take mc ms) s m args below meth c H locs d_j94 e_j94 Q (F0 m 94 ls []) := by
              intro y_j94 s_j94 d_j94 e_j94 x2j94 x3j94 x4j94 x5j94 x6j94 x7j94 x8j94 x9j94 H locs h hP hD hS ls hl
              unfold wja_Mo_take_94 at h
              obtain ⟨hd, h⟩ := h
              refine lv_aload_n G.1 G.2.1 d_Mo_take_94 rfl (lv_at hl 0 rfl) ?_
              refine lv_aload_n G.1 G.2.1 d_Mo_take_95 rfl (lv_at hl 1 rfl) ?_
              refine lv_iload G.1 G.2.1 d_Mo_take_96 (lv_at hl 8 rfl) ?_
              refine lv_iload G.1 G.2.1 d_Mo_take_98 (lv_at hl 9 rfl) ?_
              obtain ⟨mc_43, ms_44, hr_45, h⟩ := h
              refine uaVi (As := [.ref (yP y_j94 a1 k1), .int x8j94, .int x9j94]) (rest := []) G hP hD hS (ca_Mo_cutLine l D g ad mc_43 ms_44 y_j94 _ s_j94 a0 a1 k1 x8j94 x9j94 H.size (us H) h_a0 ⟨h_a1.1, h_a1.2⟩ h) w9_Mo_cutLine q3494 ⟨Nat.le_of_ble_eq_true rfl, Nat.le_of_ble_eq_true rfl⟩ rfl rfl h_a0 (q := (RMo, TMo, 131)) rfl rfl hl.1 rfl (Nat.le_of_ble_eq_true rfl) rfl hr_45 d_Mo_take_100 (fun r_38 y_40 s_39 d_41 e_42 H locs h hP hD hS => ?_)
              have hl := lv_sub (l' := [(0, .ref (ad a0)), (1, .ref (yP y_j94 a1 k1)), (2, .int x2j94), (3, .int x3j94), (4, .int x4j94), (5, .int x5j94), (6, .int x6j94), (7, .int x7j94), (9, .int x9j94)]) hl [0, 1, 2, 3, 4, 5, 6, 7, 9] rfl
              obtain ⟨hd, h⟩ := h
              obtain ⟨n_46, h⟩ := h
              rw [n_46] at hl
              have J_110 : ∀ (y_j110 : Ly) (s_j110 : St) (d_j110 e_j110 : Nat) (x2j110 : Int32) (x3j110 : Int32) (x4j110 : Int32) (x5j110 : Int32) (x6j110 : Int32) (x7j110 : Int32) (x9j110 : Int32) (H : Heap) (locs : List Loc), wja_Mo_take_110 mc ms Post K_63 a0 a1 k1 y_j110 s_j110 d_j110 e_j110 x2j110 x3j110 x4j110 x5j110 x6j110 x7j110 x9j110 → va_P D CL (ws g ad y_j110 s_j110) H → va_D A (ws g ad y_j110 s_j110) → va_S A s.heap H locs → ∀ ls, lv_has ls 10 [(0, .ref (ad a0)), (1, .ref (yP y_j110 a1 k1)), (2, .int x2j110), (3, .int x3j110), (4, .int x4j110), (5, .int x5j110), (6, .int x6j110), (7, .int x7j110), (9, .int x9j110)] → W p l e (ra_Mo_take mc ms) s m args below meth c H locs d_j110 e_j110 Q (F0 m 110 ls []) := by
                intro y_j110 s_j110 d_j110 e_j110 x2j110 x3j110 x4j110 x5j110 x6j110 x7j110 x9j110 H locs h hP hD hS ls hl
                unfold wja_Mo_take_110 at h
                obtain ⟨hd, h⟩ := h
                refine lv_iload G.1 G.2.1 d_Mo_take_110 (lv_at hl 8 rfl) ?_
                refine lv_iconst (v := 1) G.1 G.2.1 d_Mo_take_112 (by decide) ?_
                refine lv_iadd G.1 G.2.1 d_Mo_take_113 ?_
                refine lv_istore (lv' := [(8, .int (x9j110 + 1)), (0, .ref (ad a0)), (1, .ref (yP y_j110 a1 k1)), (2, .int x2j110), (3, .int x3j110), (4, .int x4j110), (5, .int x5j110), (6, .int x6j110), (7, .int x7j110), (9, .int x9j110)]) G.1 G.2.1 d_Mo_take_114 hl (by decide) rfl (fun ls hl => ?_)
                refine lv_goto (tgt := 63) G.1 G.2.1 d_Mo_take_116 (by decide) ?_
                have h := hK_63 y_j110 s_j110 d_j110 e_j110 x2j110 x3j110 x4j110 x5j110 x6j110 x7j110 (x9j110 + 1) h
                exact ih_63 y_j110 s_j110 d_j110 e_j110 x2j110 x3j110 x4j110 x5j110 x6j110 x7j110 (x9j110 + 1) (Nat.lt_of_lt_of_le h.2 (Nat.le_of_lt_succ hμ_63)) h.1 H locs hP hD hS ls (lv_sub hl [1, 2, 3, 4, 5, 6, 7, 8, 0] rfl)
              refine lv_if_eq (tgt := 110) G.1 G.2.1 d_Mo_take_103 (by decide) (fun c103 => ?_) (fun c103 => ?_)
              · skip
                have h := h.1 c103
                exact J_110 y_40 s_39 (d_j94 + d_41) (e_j94 + e_42) x2j94 x3j94 x4j94 x5j94 x6j94 x7j94 x9j94 H locs h hP hD hS ls (lv_sub hl [0, 1, 2, 3, 4, 5, 6, 7, 8] rfl)
              · skip
                have h := h.2 c103
                refine lv_aload_n G.1 G.2.1 d_Mo_take_106 rfl (lv_at hl 0 rfl) ?_
                obtain ⟨mc_52, ms_53, hr_54, h⟩ := h
                refine uxVv (As := []) (rest := []) G hP hD hS (cx_Mo_takeLine l D g ad mc_52 ms_53 y_40 _ _ s_39 a0 H.size (us H) h_a0 h) (fun _ h => absurd h List.not_mem_nil) w9_Mo_takeLine q3518 ⟨Nat.le_of_ble_eq_true rfl, Nat.le_of_ble_eq_true rfl⟩ rfl rfl h_a0 (q := (RMo, TMo, 131)) rfl rfl hl.1 rfl (Nat.le_of_ble_eq_true rfl) rfl hr_54 d_Mo_take_107 (fun y_49 s_48 d_50 e_51 H locs q9 ce h hP hD hS hce hcv hcl => ?_) (fun y_49 s_48 d_50 e_51 H locs h hP hD hS => ?_)
                · skip
                  refine vx_catch (own := "ClassWorksModel") (name := "java/lang/IllegalStateException") (E := "java/lang/IllegalStateException") G.2.2.2.2.2.2.1 [] ⟨60, 132, 135, 267⟩ [] htab (fun z hz => absurd hz List.not_mem_nil) (by decide) (by decide) (G.2.2.2.2.2.1 _ q2633) (G.2.2.2.2.2.2.2.2.2.1.use (w := Cond.castable "java/lang/IllegalStateException" "java/lang/IllegalStateException") (lw_nestmem (List.mem_of_getElem? (i := 2635) (by decide +kernel)) rfl) rfl) hce hcv hcl ?_
                  refine W.eq (g2 := F0 m 135 ls [.ref q9]) rfl ?_
                  have h := h q9
                  exact J_135 y_49 s_48 (d_j94 + d_41 + d_50) (e_j94 + e_42 + e_51) x3j94 x4j94 x5j94 x6j94 x7j94 q9 H locs h hP hD hS ls (lv_sub hl [0, 3, 4, 5, 6, 7] rfl)
                obtain ⟨hd, h⟩ := h
                obtain ⟨n_55, h⟩ := h
                rw [n_55] at hl
                exact J_110 y_49 s_48 (d_j94 + d_41 + d_50) (e_j94 + e_42 + e_51) x2j94 x3j94 x4j94 x5j94 x6j94 x7j94 x9j94 H locs h hP hD hS ls (lv_sub hl [0, 1, 2, 3, 4, 5, 6, 7, 8] rfl)
            refine lv_icmp_ge (tgt := 94) G.1 G.2.1 d_Mo_take_76 (by decide) (fun c76 => ?_) (fun c76 => ?_)
            · skip
              have h := h.1 c76
              exact J_94 y_h73 s_h73 d_h73 e_h73 x2h73 x3h73 x4h73 x5h73 x6h73 x7h73 x8h73 x9h73 H locs h hP hD hS ls (lv_sub hl [0, 1, 2, 3, 4, 5, 6, 7, 8, 9] rfl)
            · skip
              have h := h.2 c76
              refine lv_aload_n G.1 G.2.1 d_Mo_take_79 rfl (lv_at hl 1 rfl) ?_
              refine lv_iload G.1 G.2.1 d_Mo_take_80 (lv_at hl 9 rfl) ?_
              refine ubald G hP h_a1.1 h_a1.2 h d_Mo_take_82 (fun x_56 h => ?_)
              refine lv_bipush (v := 10) G.1 G.2.1 d_Mo_take_83 (by decide) ?_
              refine lv_icmp_eq (tgt := 94) G.1 G.2.1 d_Mo_take_85 (by decide) (fun c85 => ?_) (fun c85 => ?_)
              · skip
                have h := h.1 c85
                exact J_94 y_h73 s_h73 d_h73 e_h73 x2h73 x3h73 x4h73 x5h73 x6h73 x7h73 x8h73 x9h73 H locs h hP hD hS ls (lv_sub hl [0, 1, 2, 3, 4, 5, 6, 7, 8, 9] rfl)
              · skip
                have h := h.2 c85
                refine lv_iinc (v := x9h73 + 1) (lv' := [(9, .int (x9h73 + 1)), (0, .ref (ad a0)), (1, .ref (yP y_h73 a1 k1)), (2, .int x2h73), (3, .int x3h73), (4, .int x4h73), (5, .int x5h73), (6, .int x6h73), (7, .int x7h73), (8, .int x8h73)]) G.1 G.2.1 d_Mo_take_88 hl (k := 9) rfl rfl (by decide) rfl (fun ls hl => ?_)
                refine lv_goto (tgt := 73) G.1 G.2.1 d_Mo_take_91 (by decide) ?_
                have h := hK_73 y_h73 s_h73 d_h73 e_h73 x2h73 x3h73 x4h73 x5h73 x6h73 x7h73 x8h73 (x9h73 + 1) h
                exact ih_73 y_h73 s_h73 d_h73 e_h73 x2h73 x3h73 x4h73 x5h73 x6h73 x7h73 x8h73 (x9h73 + 1) (Nat.lt_of_lt_of_le h.2 (Nat.le_of_lt_succ hμ_73)) h.1 H locs hP hD hS ls (lv_sub hl [1, 2, 3, 4, 5, 6, 7, 8, 9, 0] rfl)
        exact L_73 _ y_h63 s_h63 d_h63 e_h63 x2h63 x3h63 x4h63 x5h63 x6h63 x7h63 x8h63 x8h63 (Nat.lt_succ_self _) hI_73 H locs hP hD hS ls (lv_sub hl [1, 2, 3, 4, 5, 6, 7, 8, 9, 0] rfl)
  exact L_63 _ y s_6 0 0 v2 (sV σ b_1 2) (sV σ b_1 35) (sV σ b_1 37) (sV σ b_1 41) (sV σ b_1 43) 0 (Nat.lt_succ_self _) hI_63 H locs hP hD hS ls (lv_sub hl [6, 7, 8, 5, 4, 3, 2, 1, 0] rfl)
theorem q3490 : Cond.methodLink "ClassWorksModel" 1125 y_Mo_take ∈ lw_ok := lw_okmem (List.mem_of_getElem? (i := 3490) (by decide +kernel)) rfl
theorem q3493 : Cond.codeWith y_Mo_take b_Mo_take 10 (some .int) hh_Mo_take ∈ lw_ok := lw_okmem (List.mem_of_getElem? (i := 3493) (by decide +kernel)) rfl
theorem q3492 : Cond.instanceMethod y_Mo_take ∈ lw_ok := lw_okmem (List.mem_of_getElem? (i := 3492) (by decide +kernel)) rfl
theorem q178 : Cond.selects y_Mo_take.cls y_Mo_take y_Mo_take ∈ lw_ok := lw_okmem (List.mem_of_getElem? (i := 178) (by decide +kernel)) rfl
theorem w9_Mo_take : (Cond.codeWith y_Mo_take b_Mo_take 10 (some .int) hh_Mo_take ∈ lw_ok ∧ Cond.initialized y_Mo_take.cls ∈ lw_ok ∧ y_Mo_take.cls ≠ "java/lang/invoke/MethodHandle" ∧ y_Mo_take.cls ≠ "java/lang/invoke/VarHandle" ∧ (parseMethodDescriptor y_Mo_take.desc).map (fun d => d.parameters.length) = some 2) ∧ Cond.instanceMethod y_Mo_take ∈ lw_ok ∧ Cond.selects y_Mo_take.cls y_Mo_take y_Mo_take ∈ lw_ok := ⟨⟨q3493, q348, by decide +kernel, by decide +kernel, by decide +kernel⟩, q3492, q178⟩
def y_Mo_define : MethodName := ⟨"ClassWorksModel", "define", "(I)I"⟩
abbrev b_Mo_define : ByteArray := prog_14_method_131_code
theorem d_Mo_define_0 : decode b_Mo_define 0 = .ok (.aload_n 0, 1) := by decide +kernel
theorem d_Mo_define_1 : decode b_Mo_define 1 = .ok (.iload_n 1, 1) := by decide +kernel
theorem d_Mo_define_2 : decode b_Mo_define 2 = .ok (.invokevirtual 1118, 3) := by decide +kernel
theorem d_Mo_define_5 : decode b_Mo_define 5 = .ok (.ifCond .ne 5, 3) := by decide +kernel
theorem d_Mo_define_8 : decode b_Mo_define 8 = .ok (.iconst (-1), 1) := by decide +kernel
theorem d_Mo_define_9 : decode b_Mo_define 9 = .ok (.ireturn, 1) := by decide +kernel
theorem d_Mo_define_10 : decode b_Mo_define 10 = .ok (.aload_n 0, 1) := by decide +kernel
theorem d_Mo_define_11 : decode b_Mo_define 11 = .ok (.aload_n 0, 1) := by decide +kernel
theorem d_Mo_define_12 : decode b_Mo_define 12 = .ok (.getfield 263, 3) := by decide +kernel
theorem d_Mo_define_15 : decode b_Mo_define 15 = .ok (.iload_n 1, 1) := by decide +kernel
theorem d_Mo_define_16 : decode b_Mo_define 16 = .ok (.aaload, 1) := by decide +kernel
theorem d_Mo_define_17 : decode b_Mo_define 17 = .ok (.putfield 522, 3) := by decide +kernel
theorem d_Mo_define_20 : decode b_Mo_define 20 = .ok (.aload_n 0, 1) := by decide +kernel
theorem d_Mo_define_21 : decode b_Mo_define 21 = .ok (.aload_n 0, 1) := by decide +kernel
theorem d_Mo_define_22 : decode b_Mo_define 22 = .ok (.getfield 314, 3) := by decide +kernel
theorem d_Mo_define_25 : decode b_Mo_define 25 = .ok (.aload_n 0, 1) := by decide +kernel
theorem d_Mo_define_26 : decode b_Mo_define 26 = .ok (.getfield 1112, 3) := by decide +kernel
theorem d_Mo_define_29 : decode b_Mo_define 29 = .ok (.invokevirtual 1125, 3) := by decide +kernel
theorem d_Mo_define_32 : decode b_Mo_define 32 = .ok (.istore_n 2, 1) := by decide +kernel
theorem d_Mo_define_33 : decode b_Mo_define 33 = .ok (.aload_n 0, 1) := by decide +kernel
theorem d_Mo_define_34 : decode b_Mo_define 34 = .ok (.iconst 0, 1) := by decide +kernel
theorem d_Mo_define_35 : decode b_Mo_define 35 = .ok (.putfield 1112, 3) := by decide +kernel
theorem d_Mo_define_38 : decode b_Mo_define 38 = .ok (.aload_n 0, 1) := by decide +kernel
theorem d_Mo_define_39 : decode b_Mo_define 39 = .ok (.aload_n 0, 1) := by decide +kernel
theorem d_Mo_define_40 : decode b_Mo_define 40 = .ok (.getfield 529, 3) := by decide +kernel
theorem d_Mo_define_43 : decode b_Mo_define 43 = .ok (.putfield 317, 3) := by decide +kernel
theorem d_Mo_define_46 : decode b_Mo_define 46 = .ok (.iload_n 2, 1) := by decide +kernel
theorem d_Mo_define_47 : decode b_Mo_define 47 = .ok (.ireturn, 1) := by decide +kernel
abbrev ra_Mo_define (mc ms : Nat) : Room := { frames := 10, cells := mc, slots := ms, locals := 295 }
def wa_Mo_define (mc ms : Nat) (y : Ly) (Post : Ly → St → Int32 → Nat → Nat → Prop) (σ : St) (a0 : Nat) (v1 : Int32) : Prop := wu_Mo_isWorld y (fun (s_2 : St) (r_1 : Int32) => ((¬ r_1 = 0 → xQ y a0 44 v1 (fun b_3 : Nat => xP (uO s_2 a0 45 (some b_3)) (fun s_5 : St => ∃ mc_11 ms_12 : Nat, (0 + mc_11 ≤ mc ∧ 0 + ms_12 ≤ ms) ∧ wa_Mo_take mc_11 ms_12 y (fun (y_8 : Ly) (s_7 : St) (r_6 : Int32) (d_9 e_10 : Nat) => (0 + d_9 ≤ mc ∧ 0 + e_10 ≤ ms) ∧ xP (uV s_7 a0 85 0) (fun s_14 : St => xP (uV s_14 a0 86 (sV s_14 a0 50)) (fun s_15 : St => Post y_8 s_15 r_6 (0 + d_9) (0 + e_10)))) s_5 a0 a0 84 (sV s_5 a0 85)))) ∧ (r_1 = 0 → Post y s_2 (-1) 0 0))) σ a0 v1
set_option maxHeartbeats 4000000 in
set_option maxRecDepth 100000 in
theorem ca_Mo_define (l : Launch) (D : va_G) (g : Nat → ClassId) (ad : Nat → Nat) (mc ms : Nat) (y : Ly) (Post : Ly → St → Int32 → Nat → Nat → Prop) (σ : St) (a0 : Nat) (v1 : Int32) (sz uz : Nat) (h_a0 : cl a0 = 14) (h : wa_Mo_define mc ms y Post σ a0 v1) : Met l y_Mo_define (mw y_Mo_define b_Mo_define 3 (some .int)) (ra_Mo_define mc ms) (PCu g D [] [.ref (ad a0), .int v1] sz uz (ws g ad y σ)) (va_Qi (fun (r : Int32) (u : Ly × St × Nat × Nat) => Post u.1 u.2.1 r u.2.2.1 u.2.2.2) (QU D (va_A (ws g ad y σ) sz) (fun u => ws g ad u.1 u.2.1) sz uz (fun u => u.2.2.1) (fun u => u.2.2.2)) (va_A (ws g ad y σ) sz)) mc ms (va_A (ws g ad y σ) sz) := by
  refine ofIu (by decide +kernel) (Nat.le_of_ble_eq_true rfl) ?_
  intro p e s m args below meth c A Q ls H locs G hsz hP hD hS hl hret
  subst hsz
  have hl : lv_has ls 3 [(0, .ref (ad a0)), (1, .int v1)] := hl
  have hd : 0 ≤ mc ∧ 0 ≤ ms := ⟨Nat.zero_le _, Nat.zero_le _⟩
  unfold wa_Mo_define at h
  refine lv_aload_n G.1 G.2.1 d_Mo_define_0 rfl (lv_at hl 0 rfl) ?_
  refine lv_iload_n G.1 G.2.1 d_Mo_define_1 rfl (lv_at hl 1 rfl) ?_
  refine ucVi (As := [.int v1]) (rest := []) G hP hD hS (cu_Mo_isWorld l D g ad y _ σ a0 v1 H.size h_a0 h) w9_Mo_isWorld q3482 ⟨Nat.le_of_ble_eq_true rfl, Nat.le_of_ble_eq_true rfl⟩ rfl rfl h_a0 (q := (RMo, TMo, 131)) rfl rfl hl.1 rfl (Nat.le_of_ble_eq_true rfl) rfl hd d_Mo_define_2 (fun r_1 s_2 H locs h hP hD hS => ?_)
  refine lv_if_ne (tgt := 10) G.1 G.2.1 d_Mo_define_5 (by decide) (fun c5 => ?_) (fun c5 => ?_)
  · skip
    have h := h.1 c5
    refine lv_aload_n G.1 G.2.1 d_Mo_define_10 rfl (lv_at hl 0 rfl) ?_
    refine lv_aload_n G.1 G.2.1 d_Mo_define_11 rfl (lv_at hl 0 rfl) ?_
    refine ugf (v := .ref (yP y a0 44)) G hP h_a0 iMo rfl 44 (by decide) rfl q3108 rfl rfl d_Mo_define_12 ?_
    refine lv_iload_n G.1 G.2.1 d_Mo_define_15 rfl (lv_at hl 1 rfl) ?_
    refine uqald G hP (kdp h_a0 rfl) (typ h_a0 rfl) rfl h d_Mo_define_16 (fun b_3 n_4 h => ?_)
    refine upf G hP hD hS h 45 putO h_a0 iMo tMo tMo_ok nMo rfl (by decide) rfl q3109 rfl rfl fO rfl rfl d_Mo_define_17 (fun s_5 H locs h hP hD hS => ?_)
    refine lv_aload_n G.1 G.2.1 d_Mo_define_20 rfl (lv_at hl 0 rfl) ?_
    refine W.eq (g2 := F0 m 21 ls [.ref (ad a0)]) rfl ?_
    refine lv_aload_n G.1 G.2.1 d_Mo_define_21 rfl (lv_at hl 0 rfl) ?_
    refine ugf (v := .ref (yP y a0 84)) G hP h_a0 iMo rfl 84 (by decide) rfl q3148 rfl rfl d_Mo_define_22 ?_
    refine lv_aload_n G.1 G.2.1 d_Mo_define_25 rfl (lv_at hl 0 rfl) ?_
    refine ugf (v := .int (sV s_5 a0 85)) G hP h_a0 iMo rfl 85 (by decide) rfl q3149 rfl rfl d_Mo_define_26 ?_
    obtain ⟨mc_11, ms_12, hr_13, h⟩ := h
    refine uwVi (As := [.ref (yP y a0 84), .int (sV s_5 a0 85)]) (rest := []) G hP hD hS (ca_Mo_take l D g ad mc_11 ms_12 y _ s_5 a0 a0 84 (sV s_5 a0 85) H.size (us H) h_a0 ⟨(kdp h_a0 rfl), (typ h_a0 rfl)⟩ h) (fun _ h => absurd h List.not_mem_nil) w9_Mo_take q3490 ⟨Nat.le_of_ble_eq_true rfl, Nat.le_of_ble_eq_true rfl⟩ rfl rfl h_a0 (q := (RMo, TMo, 131)) rfl rfl hl.1 rfl (Nat.le_of_ble_eq_true rfl) rfl hr_13 d_Mo_define_29 (fun r_6 y_8 s_7 d_9 e_10 H locs h hP hD hS => ?_)
    have hl := lv_sub (l' := [(0, .ref (ad a0))]) hl [0] rfl
    obtain ⟨hd, h⟩ := h
    refine lv_istore_n (lv' := [(2, .int r_6), (0, .ref (ad a0))]) G.1 G.2.1 d_Mo_define_32 rfl hl (by decide) rfl (fun ls hl => ?_)
    refine lv_aload_n G.1 G.2.1 d_Mo_define_33 rfl (lv_at hl 1 rfl) ?_
    refine lv_iconst (v := 0) G.1 G.2.1 d_Mo_define_34 (by decide) ?_
    refine upf G hP hD hS h 85 putV h_a0 iMo tMo tMo_ok nMo rfl (by decide) rfl q3149 rfl rfl fV rfl rfl d_Mo_define_35 (fun s_14 H locs h hP hD hS => ?_)
    refine lv_aload_n G.1 G.2.1 d_Mo_define_38 rfl (lv_at hl 1 rfl) ?_
    refine lv_aload_n G.1 G.2.1 d_Mo_define_39 rfl (lv_at hl 1 rfl) ?_
    refine ugf (v := .int (sV s_14 a0 50)) G hP h_a0 iMo rfl 50 (by decide) rfl q3114 rfl rfl d_Mo_define_40 ?_
    refine W.eq (g2 := F0 m 43 ls [.int (sV s_14 a0 50), .ref (ad a0)]) rfl ?_
    refine upf G hP hD hS h 86 putV h_a0 iMo tMo tMo_ok nMo rfl (by decide) rfl q3150 rfl rfl fV rfl rfl d_Mo_define_43 (fun s_15 H locs h hP hD hS => ?_)
    refine lv_iload_n G.1 G.2.1 d_Mo_define_46 rfl (lv_at hl 0 rfl) ?_
    exact hret _ (y_8, s_15, 0 + d_9, 0 + e_10) _ _ _ _ _ ls h hP hD hS (Nat.le_refl _) (Nat.le_refl _) hd.1 hd.2 d_Mo_define_47
  · skip
    have h := h.2 c5
    refine lv_iconst (v := (-1)) G.1 G.2.1 d_Mo_define_8 (by decide) ?_
    exact hret _ (y, s_2, 0, 0) _ _ _ _ _ ls h hP hD hS (Nat.le_refl _) (Nat.le_refl _) hd.1 hd.2 d_Mo_define_9
def y_Mo_isLinked : MethodName := ⟨"ClassWorksModel", "isLinked", "(I)Z"⟩
abbrev b_Mo_isLinked : ByteArray := prog_14_method_57_code
theorem q3677 : Cond.methodLink "ClassWorksModel" 749 y_Mo_isLinked ∈ lw_ok := lw_okmem (List.mem_of_getElem? (i := 3677) (by decide +kernel)) rfl
theorem q3680 : Cond.code y_Mo_isLinked b_Mo_isLinked 3 (some (.boolean)) ∈ lw_ok := lw_okmem (List.mem_of_getElem? (i := 3680) (by decide +kernel)) rfl
theorem q3679 : Cond.instanceMethod y_Mo_isLinked ∈ lw_ok := lw_okmem (List.mem_of_getElem? (i := 3679) (by decide +kernel)) rfl
theorem q216 : Cond.selects y_Mo_isLinked.cls y_Mo_isLinked y_Mo_isLinked ∈ lw_ok := lw_okmem (List.mem_of_getElem? (i := 216) (by decide +kernel)) rfl
theorem w9_Mo_isLinked : CWv y_Mo_isLinked b_Mo_isLinked 3 (some (.boolean)) 1 ∧ Cond.instanceMethod y_Mo_isLinked ∈ lw_ok ∧ Cond.selects y_Mo_isLinked.cls y_Mo_isLinked y_Mo_isLinked ∈ lw_ok := ⟨⟨q3680, q348, by decide +kernel, by decide +kernel, by decide +kernel⟩, q3679, q216⟩
def y_Mo_linkCode : MethodName := ⟨"ClassWorksModel", "linkCode", "(I)I"⟩
abbrev b_Mo_linkCode : ByteArray := prog_14_method_58_code
theorem d_Mo_linkCode_0 : decode b_Mo_linkCode 0 = .ok (.aload_n 0, 1) := by decide +kernel
theorem d_Mo_linkCode_1 : decode b_Mo_linkCode 1 = .ok (.aload_n 0, 1) := by decide +kernel
theorem d_Mo_linkCode_2 : decode b_Mo_linkCode 2 = .ok (.iload_n 1, 1) := by decide +kernel
theorem d_Mo_linkCode_3 : decode b_Mo_linkCode 3 = .ok (.iconst 1, 1) := by decide +kernel
theorem d_Mo_linkCode_4 : decode b_Mo_linkCode 4 = .ok (.invokevirtual 728, 3) := by decide +kernel
theorem d_Mo_linkCode_7 : decode b_Mo_linkCode 7 = .ok (.iconst 1, 1) := by decide +kernel
theorem d_Mo_linkCode_8 : decode b_Mo_linkCode 8 = .ok (.invokevirtual 732, 3) := by decide +kernel
theorem d_Mo_linkCode_11 : decode b_Mo_linkCode 11 = .ok (.iload_n 1, 1) := by decide +kernel
theorem d_Mo_linkCode_12 : decode b_Mo_linkCode 12 = .ok (.lshr, 1) := by decide +kernel
theorem d_Mo_linkCode_13 : decode b_Mo_linkCode 13 = .ok (.lconst 1, 1) := by decide +kernel
theorem d_Mo_linkCode_14 : decode b_Mo_linkCode 14 = .ok (.land, 1) := by decide +kernel
theorem d_Mo_linkCode_15 : decode b_Mo_linkCode 15 = .ok (.lconst 1, 1) := by decide +kernel
theorem d_Mo_linkCode_16 : decode b_Mo_linkCode 16 = .ok (.lcmp, 1) := by decide +kernel
theorem d_Mo_linkCode_17 : decode b_Mo_linkCode 17 = .ok (.ifCond .ne 7, 3) := by decide +kernel
theorem d_Mo_linkCode_20 : decode b_Mo_linkCode 20 = .ok (.sipush 2416, 3) := by decide +kernel
theorem d_Mo_linkCode_23 : decode b_Mo_linkCode 23 = .ok (.ireturn, 1) := by decide +kernel
theorem d_Mo_linkCode_24 : decode b_Mo_linkCode 24 = .ok (.aload_n 0, 1) := by decide +kernel
theorem d_Mo_linkCode_25 : decode b_Mo_linkCode 25 = .ok (.aload_n 0, 1) := by decide +kernel
theorem d_Mo_linkCode_26 : decode b_Mo_linkCode 26 = .ok (.getfield 522, 3) := by decide +kernel
theorem d_Mo_linkCode_29 : decode b_Mo_linkCode 29 = .ok (.getfield 426, 3) := by decide +kernel
theorem d_Mo_linkCode_32 : decode b_Mo_linkCode 32 = .ok (.iload_n 1, 1) := by decide +kernel
theorem d_Mo_linkCode_33 : decode b_Mo_linkCode 33 = .ok (.iaload, 1) := by decide +kernel
theorem d_Mo_linkCode_34 : decode b_Mo_linkCode 34 = .ok (.invokevirtual 601, 3) := by decide +kernel
theorem d_Mo_linkCode_37 : decode b_Mo_linkCode 37 = .ok (.istore_n 2, 1) := by decide +kernel
theorem d_Mo_linkCode_38 : decode b_Mo_linkCode 38 = .ok (.iload_n 2, 1) := by decide +kernel
theorem d_Mo_linkCode_39 : decode b_Mo_linkCode 39 = .ok (.ifCond .ge 7, 3) := by decide +kernel
theorem d_Mo_linkCode_42 : decode b_Mo_linkCode 42 = .ok (.sipush 2011, 3) := by decide +kernel
theorem d_Mo_linkCode_45 : decode b_Mo_linkCode 45 = .ok (.ireturn, 1) := by decide +kernel
theorem d_Mo_linkCode_46 : decode b_Mo_linkCode 46 = .ok (.aload_n 0, 1) := by decide +kernel
theorem d_Mo_linkCode_47 : decode b_Mo_linkCode 47 = .ok (.iconst 3, 1) := by decide +kernel
theorem d_Mo_linkCode_48 : decode b_Mo_linkCode 48 = .ok (.invokevirtual 609, 3) := by decide +kernel
theorem d_Mo_linkCode_51 : decode b_Mo_linkCode 51 = .ok (.ifCond .ne 21, 3) := by decide +kernel
theorem d_Mo_linkCode_54 : decode b_Mo_linkCode 54 = .ok (.aload_n 0, 1) := by decide +kernel
theorem d_Mo_linkCode_55 : decode b_Mo_linkCode 55 = .ok (.getfield 522, 3) := by decide +kernel
theorem d_Mo_linkCode_58 : decode b_Mo_linkCode 58 = .ok (.getfield 429, 3) := by decide +kernel
theorem d_Mo_linkCode_61 : decode b_Mo_linkCode 61 = .ok (.iload_n 2, 1) := by decide +kernel
theorem d_Mo_linkCode_62 : decode b_Mo_linkCode 62 = .ok (.iaload, 1) := by decide +kernel
theorem d_Mo_linkCode_63 : decode b_Mo_linkCode 63 = .ok (.iconst 5, 1) := by decide +kernel
theorem d_Mo_linkCode_64 : decode b_Mo_linkCode 64 = .ok (.iand, 1) := by decide +kernel
theorem d_Mo_linkCode_65 : decode b_Mo_linkCode 65 = .ok (.ifCond .eq 7, 3) := by decide +kernel
theorem d_Mo_linkCode_68 : decode b_Mo_linkCode 68 = .ok (.sipush 2115, 3) := by decide +kernel
theorem d_Mo_linkCode_71 : decode b_Mo_linkCode 71 = .ok (.ireturn, 1) := by decide +kernel
theorem d_Mo_linkCode_72 : decode b_Mo_linkCode 72 = .ok (.iconst 0, 1) := by decide +kernel
theorem d_Mo_linkCode_73 : decode b_Mo_linkCode 73 = .ok (.istore_n 3, 1) := by decide +kernel
theorem d_Mo_linkCode_74 : decode b_Mo_linkCode 74 = .ok (.iload_n 3, 1) := by decide +kernel
theorem d_Mo_linkCode_75 : decode b_Mo_linkCode 75 = .ok (.aload_n 0, 1) := by decide +kernel
theorem d_Mo_linkCode_76 : decode b_Mo_linkCode 76 = .ok (.getfield 522, 3) := by decide +kernel
theorem d_Mo_linkCode_79 : decode b_Mo_linkCode 79 = .ok (.getfield 432, 3) := by decide +kernel
theorem d_Mo_linkCode_82 : decode b_Mo_linkCode 82 = .ok (.iload_n 1, 1) := by decide +kernel
theorem d_Mo_linkCode_83 : decode b_Mo_linkCode 83 = .ok (.iaload, 1) := by decide +kernel
theorem d_Mo_linkCode_84 : decode b_Mo_linkCode 84 = .ok (.if_icmp .ge 56, 3) := by decide +kernel
theorem d_Mo_linkCode_87 : decode b_Mo_linkCode 87 = .ok (.aload_n 0, 1) := by decide +kernel
theorem d_Mo_linkCode_88 : decode b_Mo_linkCode 88 = .ok (.aload_n 0, 1) := by decide +kernel
theorem d_Mo_linkCode_89 : decode b_Mo_linkCode 89 = .ok (.getfield 522, 3) := by decide +kernel
theorem d_Mo_linkCode_92 : decode b_Mo_linkCode 92 = .ok (.getfield 612, 3) := by decide +kernel
theorem d_Mo_linkCode_95 : decode b_Mo_linkCode 95 = .ok (.iconst 4, 1) := by decide +kernel
theorem d_Mo_linkCode_96 : decode b_Mo_linkCode 96 = .ok (.iload_n 1, 1) := by decide +kernel
theorem d_Mo_linkCode_97 : decode b_Mo_linkCode 97 = .ok (.imul, 1) := by decide +kernel
theorem d_Mo_linkCode_98 : decode b_Mo_linkCode 98 = .ok (.iload_n 3, 1) := by decide +kernel
theorem d_Mo_linkCode_99 : decode b_Mo_linkCode 99 = .ok (.iadd, 1) := by decide +kernel
theorem d_Mo_linkCode_100 : decode b_Mo_linkCode 100 = .ok (.iaload, 1) := by decide +kernel
theorem d_Mo_linkCode_101 : decode b_Mo_linkCode 101 = .ok (.invokevirtual 601, 3) := by decide +kernel
theorem d_Mo_linkCode_104 : decode b_Mo_linkCode 104 = .ok (.istore 4, 2) := by decide +kernel
theorem d_Mo_linkCode_106 : decode b_Mo_linkCode 106 = .ok (.iload 4, 2) := by decide +kernel
theorem d_Mo_linkCode_108 : decode b_Mo_linkCode 108 = .ok (.ifCond .ge 7, 3) := by decide +kernel
theorem d_Mo_linkCode_111 : decode b_Mo_linkCode 111 = .ok (.sipush 2211, 3) := by decide +kernel
theorem d_Mo_linkCode_114 : decode b_Mo_linkCode 114 = .ok (.ireturn, 1) := by decide +kernel
theorem d_Mo_linkCode_115 : decode b_Mo_linkCode 115 = .ok (.aload_n 0, 1) := by decide +kernel
theorem d_Mo_linkCode_116 : decode b_Mo_linkCode 116 = .ok (.getfield 522, 3) := by decide +kernel
theorem d_Mo_linkCode_119 : decode b_Mo_linkCode 119 = .ok (.getfield 429, 3) := by decide +kernel
theorem d_Mo_linkCode_122 : decode b_Mo_linkCode 122 = .ok (.iload 4, 2) := by decide +kernel
theorem d_Mo_linkCode_124 : decode b_Mo_linkCode 124 = .ok (.iaload, 1) := by decide +kernel
theorem d_Mo_linkCode_125 : decode b_Mo_linkCode 125 = .ok (.iconst 4, 1) := by decide +kernel
theorem d_Mo_linkCode_126 : decode b_Mo_linkCode 126 = .ok (.iand, 1) := by decide +kernel
theorem d_Mo_linkCode_127 : decode b_Mo_linkCode 127 = .ok (.ifCond .ne 7, 3) := by decide +kernel
theorem d_Mo_linkCode_130 : decode b_Mo_linkCode 130 = .ok (.sipush 2315, 3) := by decide +kernel
theorem d_Mo_linkCode_133 : decode b_Mo_linkCode 133 = .ok (.ireturn, 1) := by decide +kernel
theorem d_Mo_linkCode_134 : decode b_Mo_linkCode 134 = .ok (.iinc 3 1, 3) := by decide +kernel
theorem d_Mo_linkCode_137 : decode b_Mo_linkCode 137 = .ok (.goto (-63), 3) := by decide +kernel
theorem d_Mo_linkCode_140 : decode b_Mo_linkCode 140 = .ok (.aload_n 0, 1) := by decide +kernel
theorem d_Mo_linkCode_141 : decode b_Mo_linkCode 141 = .ok (.iload_n 2, 1) := by decide +kernel
theorem d_Mo_linkCode_142 : decode b_Mo_linkCode 142 = .ok (.invokevirtual 749, 3) := by decide +kernel
theorem d_Mo_linkCode_145 : decode b_Mo_linkCode 145 = .ok (.ifCond .ne 13, 3) := by decide +kernel
theorem d_Mo_linkCode_148 : decode b_Mo_linkCode 148 = .ok (.aload_n 0, 1) := by decide +kernel
theorem d_Mo_linkCode_149 : decode b_Mo_linkCode 149 = .ok (.getfield 522, 3) := by decide +kernel
theorem d_Mo_linkCode_152 : decode b_Mo_linkCode 152 = .ok (.getfield 444, 3) := by decide +kernel
theorem d_Mo_linkCode_155 : decode b_Mo_linkCode 155 = .ok (.iload_n 2, 1) := by decide +kernel
theorem d_Mo_linkCode_156 : decode b_Mo_linkCode 156 = .ok (.iaload, 1) := by decide +kernel
theorem d_Mo_linkCode_157 : decode b_Mo_linkCode 157 = .ok (.ireturn, 1) := by decide +kernel
theorem d_Mo_linkCode_158 : decode b_Mo_linkCode 158 = .ok (.iconst 0, 1) := by decide +kernel
theorem d_Mo_linkCode_159 : decode b_Mo_linkCode 159 = .ok (.istore_n 3, 1) := by decide +kernel
theorem d_Mo_linkCode_160 : decode b_Mo_linkCode 160 = .ok (.iload_n 3, 1) := by decide +kernel
theorem d_Mo_linkCode_161 : decode b_Mo_linkCode 161 = .ok (.aload_n 0, 1) := by decide +kernel
theorem d_Mo_linkCode_162 : decode b_Mo_linkCode 162 = .ok (.getfield 522, 3) := by decide +kernel
theorem d_Mo_linkCode_165 : decode b_Mo_linkCode 165 = .ok (.getfield 432, 3) := by decide +kernel
theorem d_Mo_linkCode_168 : decode b_Mo_linkCode 168 = .ok (.iload_n 1, 1) := by decide +kernel
theorem d_Mo_linkCode_169 : decode b_Mo_linkCode 169 = .ok (.iaload, 1) := by decide +kernel
theorem d_Mo_linkCode_170 : decode b_Mo_linkCode 170 = .ok (.if_icmp .ge 48, 3) := by decide +kernel
theorem d_Mo_linkCode_173 : decode b_Mo_linkCode 173 = .ok (.aload_n 0, 1) := by decide +kernel
theorem d_Mo_linkCode_174 : decode b_Mo_linkCode 174 = .ok (.aload_n 0, 1) := by decide +kernel
theorem d_Mo_linkCode_175 : decode b_Mo_linkCode 175 = .ok (.getfield 522, 3) := by decide +kernel
theorem d_Mo_linkCode_178 : decode b_Mo_linkCode 178 = .ok (.getfield 612, 3) := by decide +kernel
theorem d_Mo_linkCode_181 : decode b_Mo_linkCode 181 = .ok (.iconst 4, 1) := by decide +kernel
theorem d_Mo_linkCode_182 : decode b_Mo_linkCode 182 = .ok (.iload_n 1, 1) := by decide +kernel
theorem d_Mo_linkCode_183 : decode b_Mo_linkCode 183 = .ok (.imul, 1) := by decide +kernel
theorem d_Mo_linkCode_184 : decode b_Mo_linkCode 184 = .ok (.iload_n 3, 1) := by decide +kernel
theorem d_Mo_linkCode_185 : decode b_Mo_linkCode 185 = .ok (.iadd, 1) := by decide +kernel
theorem d_Mo_linkCode_186 : decode b_Mo_linkCode 186 = .ok (.iaload, 1) := by decide +kernel
theorem d_Mo_linkCode_187 : decode b_Mo_linkCode 187 = .ok (.invokevirtual 601, 3) := by decide +kernel
theorem d_Mo_linkCode_190 : decode b_Mo_linkCode 190 = .ok (.istore 4, 2) := by decide +kernel
theorem d_Mo_linkCode_192 : decode b_Mo_linkCode 192 = .ok (.aload_n 0, 1) := by decide +kernel
theorem d_Mo_linkCode_193 : decode b_Mo_linkCode 193 = .ok (.iload 4, 2) := by decide +kernel
theorem d_Mo_linkCode_195 : decode b_Mo_linkCode 195 = .ok (.invokevirtual 749, 3) := by decide +kernel
theorem d_Mo_linkCode_198 : decode b_Mo_linkCode 198 = .ok (.ifCond .ne 14, 3) := by decide +kernel
theorem d_Mo_linkCode_201 : decode b_Mo_linkCode 201 = .ok (.aload_n 0, 1) := by decide +kernel
theorem d_Mo_linkCode_202 : decode b_Mo_linkCode 202 = .ok (.getfield 522, 3) := by decide +kernel
theorem d_Mo_linkCode_205 : decode b_Mo_linkCode 205 = .ok (.getfield 444, 3) := by decide +kernel
theorem d_Mo_linkCode_208 : decode b_Mo_linkCode 208 = .ok (.iload 4, 2) := by decide +kernel
theorem d_Mo_linkCode_210 : decode b_Mo_linkCode 210 = .ok (.iaload, 1) := by decide +kernel
theorem d_Mo_linkCode_211 : decode b_Mo_linkCode 211 = .ok (.ireturn, 1) := by decide +kernel
theorem d_Mo_linkCode_212 : decode b_Mo_linkCode 212 = .ok (.iinc 3 1, 3) := by decide +kernel
theorem d_Mo_linkCode_215 : decode b_Mo_linkCode 215 = .ok (.goto (-55), 3) := by decide +kernel
theorem d_Mo_linkCode_218 : decode b_Mo_linkCode 218 = .ok (.iconst 0, 1) := by decide +kernel
theorem d_Mo_linkCode_219 : decode b_Mo_linkCode 219 = .ok (.istore_n 3, 1) := by decide +kernel
theorem d_Mo_linkCode_220 : decode b_Mo_linkCode 220 = .ok (.iload_n 3, 1) := by decide +kernel
theorem d_Mo_linkCode_221 : decode b_Mo_linkCode 221 = .ok (.aload_n 0, 1) := by decide +kernel
theorem d_Mo_linkCode_222 : decode b_Mo_linkCode 222 = .ok (.getfield 522, 3) := by decide +kernel
theorem d_Mo_linkCode_225 : decode b_Mo_linkCode 225 = .ok (.getfield 438, 3) := by decide +kernel
theorem d_Mo_linkCode_228 : decode b_Mo_linkCode 228 = .ok (.iload_n 1, 1) := by decide +kernel
theorem d_Mo_linkCode_229 : decode b_Mo_linkCode 229 = .ok (.iaload, 1) := by decide +kernel
theorem d_Mo_linkCode_230 : decode b_Mo_linkCode 230 = .ok (.if_icmp .ge 163, 3) := by decide +kernel
theorem d_Mo_linkCode_233 : decode b_Mo_linkCode 233 = .ok (.bipush 12, 2) := by decide +kernel
theorem d_Mo_linkCode_235 : decode b_Mo_linkCode 235 = .ok (.iload_n 1, 1) := by decide +kernel
theorem d_Mo_linkCode_236 : decode b_Mo_linkCode 236 = .ok (.imul, 1) := by decide +kernel
theorem d_Mo_linkCode_237 : decode b_Mo_linkCode 237 = .ok (.iload_n 3, 1) := by decide +kernel
theorem d_Mo_linkCode_238 : decode b_Mo_linkCode 238 = .ok (.iadd, 1) := by decide +kernel
theorem d_Mo_linkCode_239 : decode b_Mo_linkCode 239 = .ok (.istore 4, 2) := by decide +kernel
theorem d_Mo_linkCode_241 : decode b_Mo_linkCode 241 = .ok (.aload_n 0, 1) := by decide +kernel
theorem d_Mo_linkCode_242 : decode b_Mo_linkCode 242 = .ok (.getfield 522, 3) := by decide +kernel
theorem d_Mo_linkCode_245 : decode b_Mo_linkCode 245 = .ok (.getfield 447, 3) := by decide +kernel
theorem d_Mo_linkCode_248 : decode b_Mo_linkCode 248 = .ok (.iload 4, 2) := by decide +kernel
theorem d_Mo_linkCode_250 : decode b_Mo_linkCode 250 = .ok (.iaload, 1) := by decide +kernel
theorem d_Mo_linkCode_251 : decode b_Mo_linkCode 251 = .ok (.aload_n 0, 1) := by decide +kernel
theorem d_Mo_linkCode_252 : decode b_Mo_linkCode 252 = .ok (.getfield 121, 3) := by decide +kernel
theorem d_Mo_linkCode_255 : decode b_Mo_linkCode 255 = .ok (.if_icmp .eq 39, 3) := by decide +kernel
theorem d_Mo_linkCode_258 : decode b_Mo_linkCode 258 = .ok (.aload_n 0, 1) := by decide +kernel
theorem d_Mo_linkCode_259 : decode b_Mo_linkCode 259 = .ok (.getfield 522, 3) := by decide +kernel
theorem d_Mo_linkCode_262 : decode b_Mo_linkCode 262 = .ok (.getfield 447, 3) := by decide +kernel
theorem d_Mo_linkCode_265 : decode b_Mo_linkCode 265 = .ok (.iload 4, 2) := by decide +kernel
theorem d_Mo_linkCode_267 : decode b_Mo_linkCode 267 = .ok (.iaload, 1) := by decide +kernel
theorem d_Mo_linkCode_268 : decode b_Mo_linkCode 268 = .ok (.aload_n 0, 1) := by decide +kernel
theorem d_Mo_linkCode_269 : decode b_Mo_linkCode 269 = .ok (.getfield 127, 3) := by decide +kernel
theorem d_Mo_linkCode_272 : decode b_Mo_linkCode 272 = .ok (.if_icmp .eq 22, 3) := by decide +kernel
theorem d_Mo_linkCode_275 : decode b_Mo_linkCode 275 = .ok (.aload_n 0, 1) := by decide +kernel
theorem d_Mo_linkCode_276 : decode b_Mo_linkCode 276 = .ok (.getfield 522, 3) := by decide +kernel
theorem d_Mo_linkCode_279 : decode b_Mo_linkCode 279 = .ok (.getfield 453, 3) := by decide +kernel
theorem d_Mo_linkCode_282 : decode b_Mo_linkCode 282 = .ok (.iload 4, 2) := by decide +kernel
theorem d_Mo_linkCode_284 : decode b_Mo_linkCode 284 = .ok (.iaload, 1) := by decide +kernel
theorem d_Mo_linkCode_285 : decode b_Mo_linkCode 285 = .ok (.iconst 5, 1) := by decide +kernel
theorem d_Mo_linkCode_286 : decode b_Mo_linkCode 286 = .ok (.iand, 1) := by decide +kernel
theorem d_Mo_linkCode_287 : decode b_Mo_linkCode 287 = .ok (.ifCond .ne 7, 3) := by decide +kernel
theorem d_Mo_linkCode_290 : decode b_Mo_linkCode 290 = .ok (.iconst 1, 1) := by decide +kernel
theorem d_Mo_linkCode_291 : decode b_Mo_linkCode 291 = .ok (.goto 4, 3) := by decide +kernel
theorem d_Mo_linkCode_294 : decode b_Mo_linkCode 294 = .ok (.iconst 0, 1) := by decide +kernel
theorem d_Mo_linkCode_295 : decode b_Mo_linkCode 295 = .ok (.istore 5, 2) := by decide +kernel
theorem d_Mo_linkCode_297 : decode b_Mo_linkCode 297 = .ok (.aload_n 0, 1) := by decide +kernel
theorem d_Mo_linkCode_298 : decode b_Mo_linkCode 298 = .ok (.iload_n 1, 1) := by decide +kernel
theorem d_Mo_linkCode_299 : decode b_Mo_linkCode 299 = .ok (.invokevirtual 725, 3) := by decide +kernel
theorem d_Mo_linkCode_302 : decode b_Mo_linkCode 302 = .ok (.istore 6, 2) := by decide +kernel
theorem d_Mo_linkCode_304 : decode b_Mo_linkCode 304 = .ok (.iload 5, 2) := by decide +kernel
theorem d_Mo_linkCode_306 : decode b_Mo_linkCode 306 = .ok (.ifCond .eq 81, 3) := by decide +kernel
theorem d_Mo_linkCode_309 : decode b_Mo_linkCode 309 = .ok (.aload_n 0, 1) := by decide +kernel
theorem d_Mo_linkCode_310 : decode b_Mo_linkCode 310 = .ok (.iconst 4, 1) := by decide +kernel
theorem d_Mo_linkCode_311 : decode b_Mo_linkCode 311 = .ok (.invokevirtual 609, 3) := by decide +kernel
theorem d_Mo_linkCode_314 : decode b_Mo_linkCode 314 = .ok (.ifCond .ne 73, 3) := by decide +kernel
theorem d_Mo_linkCode_317 : decode b_Mo_linkCode 317 = .ok (.iload 6, 2) := by decide +kernel
theorem d_Mo_linkCode_319 : decode b_Mo_linkCode 319 = .ok (.ifCond .lt 68, 3) := by decide +kernel
theorem d_Mo_linkCode_322 : decode b_Mo_linkCode 322 = .ok (.aload_n 0, 1) := by decide +kernel
theorem d_Mo_linkCode_323 : decode b_Mo_linkCode 323 = .ok (.iload 6, 2) := by decide +kernel
theorem d_Mo_linkCode_325 : decode b_Mo_linkCode 325 = .ok (.aload_n 0, 1) := by decide +kernel
theorem d_Mo_linkCode_326 : decode b_Mo_linkCode 326 = .ok (.getfield 522, 3) := by decide +kernel
theorem d_Mo_linkCode_329 : decode b_Mo_linkCode 329 = .ok (.getfield 447, 3) := by decide +kernel
theorem d_Mo_linkCode_332 : decode b_Mo_linkCode 332 = .ok (.iload 4, 2) := by decide +kernel
theorem d_Mo_linkCode_334 : decode b_Mo_linkCode 334 = .ok (.iaload, 1) := by decide +kernel
theorem d_Mo_linkCode_335 : decode b_Mo_linkCode 335 = .ok (.aload_n 0, 1) := by decide +kernel
theorem d_Mo_linkCode_336 : decode b_Mo_linkCode 336 = .ok (.getfield 522, 3) := by decide +kernel
theorem d_Mo_linkCode_339 : decode b_Mo_linkCode 339 = .ok (.getfield 450, 3) := by decide +kernel
theorem d_Mo_linkCode_342 : decode b_Mo_linkCode 342 = .ok (.iload 4, 2) := by decide +kernel
theorem d_Mo_linkCode_344 : decode b_Mo_linkCode 344 = .ok (.iaload, 1) := by decide +kernel
theorem d_Mo_linkCode_345 : decode b_Mo_linkCode 345 = .ok (.invokevirtual 752, 3) := by decide +kernel
theorem d_Mo_linkCode_348 : decode b_Mo_linkCode 348 = .ok (.istore 7, 2) := by decide +kernel
theorem d_Mo_linkCode_350 : decode b_Mo_linkCode 350 = .ok (.iload 7, 2) := by decide +kernel
theorem d_Mo_linkCode_352 : decode b_Mo_linkCode 352 = .ok (.ifCond .lt 24, 3) := by decide +kernel
theorem d_Mo_linkCode_355 : decode b_Mo_linkCode 355 = .ok (.aload_n 0, 1) := by decide +kernel
theorem d_Mo_linkCode_356 : decode b_Mo_linkCode 356 = .ok (.getfield 522, 3) := by decide +kernel
theorem d_Mo_linkCode_359 : decode b_Mo_linkCode 359 = .ok (.getfield 453, 3) := by decide +kernel
theorem d_Mo_linkCode_362 : decode b_Mo_linkCode 362 = .ok (.iload 7, 2) := by decide +kernel
theorem d_Mo_linkCode_364 : decode b_Mo_linkCode 364 = .ok (.iaload, 1) := by decide +kernel
theorem d_Mo_linkCode_365 : decode b_Mo_linkCode 365 = .ok (.bipush 7, 2) := by decide +kernel
theorem d_Mo_linkCode_367 : decode b_Mo_linkCode 367 = .ok (.iand, 1) := by decide +kernel
theorem d_Mo_linkCode_368 : decode b_Mo_linkCode 368 = .ok (.iconst 2, 1) := by decide +kernel
theorem d_Mo_linkCode_369 : decode b_Mo_linkCode 369 = .ok (.if_icmp .ne 7, 3) := by decide +kernel
theorem d_Mo_linkCode_372 : decode b_Mo_linkCode 372 = .ok (.sipush 2515, 3) := by decide +kernel
theorem d_Mo_linkCode_375 : decode b_Mo_linkCode 375 = .ok (.ireturn, 1) := by decide +kernel
theorem d_Mo_linkCode_376 : decode b_Mo_linkCode 376 = .ok (.aload_n 0, 1) := by decide +kernel
theorem d_Mo_linkCode_377 : decode b_Mo_linkCode 377 = .ok (.iload 6, 2) := by decide +kernel
theorem d_Mo_linkCode_379 : decode b_Mo_linkCode 379 = .ok (.invokevirtual 725, 3) := by decide +kernel
theorem d_Mo_linkCode_382 : decode b_Mo_linkCode 382 = .ok (.istore 6, 2) := by decide +kernel
theorem d_Mo_linkCode_384 : decode b_Mo_linkCode 384 = .ok (.goto (-80), 3) := by decide +kernel
theorem d_Mo_linkCode_387 : decode b_Mo_linkCode 387 = .ok (.iinc 3 1, 3) := by decide +kernel
theorem d_Mo_linkCode_390 : decode b_Mo_linkCode 390 = .ok (.goto (-170), 3) := by decide +kernel
theorem d_Mo_linkCode_393 : decode b_Mo_linkCode 393 = .ok (.iconst 0, 1) := by decide +kernel
theorem d_Mo_linkCode_394 : decode b_Mo_linkCode 394 = .ok (.istore_n 3, 1) := by decide +kernel
theorem d_Mo_linkCode_395 : decode b_Mo_linkCode 395 = .ok (.iload_n 3, 1) := by decide +kernel
theorem d_Mo_linkCode_396 : decode b_Mo_linkCode 396 = .ok (.aload_n 0, 1) := by decide +kernel
theorem d_Mo_linkCode_397 : decode b_Mo_linkCode 397 = .ok (.getfield 522, 3) := by decide +kernel
theorem d_Mo_linkCode_400 : decode b_Mo_linkCode 400 = .ok (.getfield 438, 3) := by decide +kernel
theorem d_Mo_linkCode_403 : decode b_Mo_linkCode 403 = .ok (.iload_n 1, 1) := by decide +kernel
theorem d_Mo_linkCode_404 : decode b_Mo_linkCode 404 = .ok (.iaload, 1) := by decide +kernel
theorem d_Mo_linkCode_405 : decode b_Mo_linkCode 405 = .ok (.if_icmp .ge 69, 3) := by decide +kernel
theorem d_Mo_linkCode_408 : decode b_Mo_linkCode 408 = .ok (.aload_n 0, 1) := by decide +kernel
theorem d_Mo_linkCode_409 : decode b_Mo_linkCode 409 = .ok (.iload_n 1, 1) := by decide +kernel
theorem d_Mo_linkCode_410 : decode b_Mo_linkCode 410 = .ok (.bipush 12, 2) := by decide +kernel
theorem d_Mo_linkCode_412 : decode b_Mo_linkCode 412 = .ok (.iload_n 1, 1) := by decide +kernel
theorem d_Mo_linkCode_413 : decode b_Mo_linkCode 413 = .ok (.imul, 1) := by decide +kernel
theorem d_Mo_linkCode_414 : decode b_Mo_linkCode 414 = .ok (.iload_n 3, 1) := by decide +kernel
theorem d_Mo_linkCode_415 : decode b_Mo_linkCode 415 = .ok (.iadd, 1) := by decide +kernel
theorem d_Mo_linkCode_416 : decode b_Mo_linkCode 416 = .ok (.invokevirtual 756, 3) := by decide +kernel
theorem d_Mo_linkCode_419 : decode b_Mo_linkCode 419 = .ok (.istore 4, 2) := by decide +kernel
theorem d_Mo_linkCode_421 : decode b_Mo_linkCode 421 = .ok (.iload 4, 2) := by decide +kernel
theorem d_Mo_linkCode_423 : decode b_Mo_linkCode 423 = .ok (.ifCond .le 45, 3) := by decide +kernel
theorem d_Mo_linkCode_426 : decode b_Mo_linkCode 426 = .ok (.aload_n 0, 1) := by decide +kernel
theorem d_Mo_linkCode_427 : decode b_Mo_linkCode 427 = .ok (.getfield 522, 3) := by decide +kernel
theorem d_Mo_linkCode_430 : decode b_Mo_linkCode 430 = .ok (.getfield 483, 3) := by decide +kernel
theorem d_Mo_linkCode_433 : decode b_Mo_linkCode 433 = .ok (.iconst 0, 1) := by decide +kernel
theorem d_Mo_linkCode_434 : decode b_Mo_linkCode 434 = .ok (.iload_n 1, 1) := by decide +kernel
theorem d_Mo_linkCode_435 : decode b_Mo_linkCode 435 = .ok (.iastore, 1) := by decide +kernel
theorem d_Mo_linkCode_436 : decode b_Mo_linkCode 436 = .ok (.aload_n 0, 1) := by decide +kernel
theorem d_Mo_linkCode_437 : decode b_Mo_linkCode 437 = .ok (.getfield 522, 3) := by decide +kernel
theorem d_Mo_linkCode_440 : decode b_Mo_linkCode 440 = .ok (.getfield 483, 3) := by decide +kernel
theorem d_Mo_linkCode_443 : decode b_Mo_linkCode 443 = .ok (.iconst 1, 1) := by decide +kernel
theorem d_Mo_linkCode_444 : decode b_Mo_linkCode 444 = .ok (.iload_n 3, 1) := by decide +kernel
theorem d_Mo_linkCode_445 : decode b_Mo_linkCode 445 = .ok (.iastore, 1) := by decide +kernel
theorem d_Mo_linkCode_446 : decode b_Mo_linkCode 446 = .ok (.aload_n 0, 1) := by decide +kernel
theorem d_Mo_linkCode_447 : decode b_Mo_linkCode 447 = .ok (.getfield 522, 3) := by decide +kernel
theorem d_Mo_linkCode_450 : decode b_Mo_linkCode 450 = .ok (.getfield 483, 3) := by decide +kernel
theorem d_Mo_linkCode_453 : decode b_Mo_linkCode 453 = .ok (.iconst 2, 1) := by decide +kernel
theorem d_Mo_linkCode_454 : decode b_Mo_linkCode 454 = .ok (.aload_n 0, 1) := by decide +kernel
theorem d_Mo_linkCode_455 : decode b_Mo_linkCode 455 = .ok (.getfield 759, 3) := by decide +kernel
theorem d_Mo_linkCode_458 : decode b_Mo_linkCode 458 = .ok (.iastore, 1) := by decide +kernel
theorem d_Mo_linkCode_459 : decode b_Mo_linkCode 459 = .ok (.bipush 100, 2) := by decide +kernel
theorem d_Mo_linkCode_461 : decode b_Mo_linkCode 461 = .ok (.iload 4, 2) := by decide +kernel
theorem d_Mo_linkCode_463 : decode b_Mo_linkCode 463 = .ok (.imul, 1) := by decide +kernel
theorem d_Mo_linkCode_464 : decode b_Mo_linkCode 464 = .ok (.bipush 17, 2) := by decide +kernel
theorem d_Mo_linkCode_466 : decode b_Mo_linkCode 466 = .ok (.iadd, 1) := by decide +kernel
theorem d_Mo_linkCode_467 : decode b_Mo_linkCode 467 = .ok (.ireturn, 1) := by decide +kernel
theorem d_Mo_linkCode_468 : decode b_Mo_linkCode 468 = .ok (.iinc 3 1, 3) := by decide +kernel
theorem d_Mo_linkCode_471 : decode b_Mo_linkCode 471 = .ok (.goto (-76), 3) := by decide +kernel
theorem d_Mo_linkCode_474 : decode b_Mo_linkCode 474 = .ok (.iconst 0, 1) := by decide +kernel
theorem d_Mo_linkCode_475 : decode b_Mo_linkCode 475 = .ok (.ireturn, 1) := by decide +kernel
abbrev rf_Mo_linkCode (rr : Room) : Room := { frames := rr.frames + 8, cells := 0, slots := 0, locals := rr.locals + 192 }
def wb_Mo_linkCode_395 (rec : Ly → (St → Int32 → Prop) → St → Nat → Int32 → Prop) (y : Ly) (Post : St → Int32 → Prop) (K_395 : St → Int32 → Int32 → Prop) (a0 : Nat) (s_h395 : St) (x1h395 : Int32) (x3h395 : Int32) : Prop := ∃ b_27 : Nat, sO s_h395 a0 45 = some b_27 ∧ cl b_27 = 13 ∧ xA y s_h395 b_27 9 x1h395 (fun x_30 : Int32 => ((x_30 ≤ x3h395 → Post s_h395 0) ∧ (¬ (x_30 ≤ x3h395) → wu_Mo_check y (fun (s_32 : St) (r_31 : Int32) => ((r_31 ≤ 0 → K_395 s_32 x1h395 (x3h395 + 1)) ∧ (¬ (r_31 ≤ 0) → ∃ b_33 : Nat, sO s_32 a0 45 = some b_33 ∧ cl b_33 = 13 ∧ xS y s_32 b_33 44 0 x1h395 (fun s_36 : St => ∃ b_37 : Nat, sO s_36 a0 45 = some b_37 ∧ cl b_37 = 13 ∧ xS y s_36 b_37 44 1 x3h395 (fun s_40 : St => ∃ b_41 : Nat, sO s_40 a0 45 = some b_41 ∧ cl b_41 = 13 ∧ xS y s_40 b_41 44 2 (sV s_40 a0 74) (fun s_44 : St => Post s_44 ((100 * r_31) + 17))))))) s_h395 a0 x1h395 ((12 * x1h395) + x3h395))))
def wl_Mo_linkCode_395 (rec : Ly → (St → Int32 → Prop) → St → Nat → Int32 → Prop) (y : Ly) (Post : St → Int32 → Prop) (a0 : Nat) (s_h395 : St) (x1h395 : Int32) (x3h395 : Int32) : Prop := ∃ (I : St → Int32 → Int32 → Prop) (μ : St → Int32 → Int32 → Nat), I s_h395 x1h395 x3h395 ∧ ∀ (u : St) (t0 : Int32) (t1 : Int32), I u t0 t1 → wb_Mo_linkCode_395 rec y Post (fun z t0q t1q => I z t0q t1q ∧ μ z t0q t1q < μ u t0 t1) a0 u t0 t1
def wj_Mo_linkCode_387 (rec : Ly → (St → Int32 → Prop) → St → Nat → Int32 → Prop) (y : Ly) (Post : St → Int32 → Prop) (K_220 : St → Int32 → Int32 → Prop) (a0 : Nat) (s_j387 : St) (x1j387 : Int32) (x3j387 : Int32) : Prop := K_220 s_j387 x1j387 (x3j387 + 1)
def wj_Mo_linkCode_376 (rec : Ly → (St → Int32 → Prop) → St → Nat → Int32 → Prop) (y : Ly) (Post : St → Int32 → Prop) (K_220 : St → Int32 → Int32 → Prop) (K_304 : St → Int32 → Int32 → Int32 → Int32 → Int32 → Prop) (a0 : Nat) (s_j376 : St) (x1j376 : Int32) (x3j376 : Int32) (x4j376 : Int32) (x5j376 : Int32) (x6j376 : Int32) : Prop := wu_Mo_parentOf y (fun (s_58 : St) (r_57 : Int32) => K_304 s_58 x1j376 x3j376 x4j376 x5j376 r_57) s_j376 a0 x6j376
def wb_Mo_linkCode_304 (rec : Ly → (St → Int32 → Prop) → St → Nat → Int32 → Prop) (y : Ly) (Post : St → Int32 → Prop) (K_220 : St → Int32 → Int32 → Prop) (K_304 : St → Int32 → Int32 → Int32 → Int32 → Int32 → Prop) (a0 : Nat) (s_h304 : St) (x1h304 : Int32) (x3h304 : Int32) (x4h304 : Int32) (x5h304 : Int32) (x6h304 : Int32) : Prop := ((x5h304 = 0 → wj_Mo_linkCode_387 rec y Post K_220 a0 s_h304 x1h304 x3h304) ∧ (¬ (x5h304 = 0) → wu_Mo_isOff y (fun (s_49 : St) (r_48 : Int32) => ((¬ r_48 = 0 → wj_Mo_linkCode_387 rec y Post K_220 a0 s_49 x1h304 x3h304) ∧ (r_48 = 0 → ((x6h304 < 0 → wj_Mo_linkCode_387 rec y Post K_220 a0 s_49 x1h304 x3h304) ∧ (¬ (x6h304 < 0) → ∃ b_50 : Nat, sO s_49 a0 45 = some b_50 ∧ cl b_50 = 13 ∧ xA y s_49 b_50 18 x4h304 (fun x_53 : Int32 => xA y s_49 b_50 19 x4h304 (fun x_54 : Int32 => wu_Mo_methodIn y (fun (s_56 : St) (r_55 : Int32) => ((r_55 < 0 → wj_Mo_linkCode_376 rec y Post K_220 K_304 a0 s_56 x1h304 x3h304 x4h304 x5h304 x6h304) ∧ (¬ (r_55 < 0) → ∃ b_59 : Nat, sO s_56 a0 45 = some b_59 ∧ cl b_59 = 13 ∧ xA y s_56 b_59 20 r_55 (fun x_62 : Int32 => ((¬ (x_62 &&& 7) = 2 → wj_Mo_linkCode_376 rec y Post K_220 K_304 a0 s_56 x1h304 x3h304 x4h304 x5h304 x6h304) ∧ ((x_62 &&& 7) = 2 → Post s_56 2515)))))) s_49 a0 x6h304 x_53 x_54))))))) s_h304 a0 4))
def wl_Mo_linkCode_304 (rec : Ly → (St → Int32 → Prop) → St → Nat → Int32 → Prop) (y : Ly) (Post : St → Int32 → Prop) (K_220 : St → Int32 → Int32 → Prop) (a0 : Nat) (s_h304 : St) (x1h304 : Int32) (x3h304 : Int32) (x4h304 : Int32) (x5h304 : Int32) (x6h304 : Int32) : Prop := ∃ (I : St → Int32 → Int32 → Int32 → Int32 → Int32 → Prop) (μ : St → Int32 → Int32 → Int32 → Int32 → Int32 → Nat), I s_h304 x1h304 x3h304 x4h304 x5h304 x6h304 ∧ ∀ (u : St) (t0 : Int32) (t1 : Int32) (t2 : Int32) (t3 : Int32) (t4 : Int32), I u t0 t1 t2 t3 t4 → wb_Mo_linkCode_304 rec y Post K_220 (fun z t0q t1q t2q t3q t4q => I z t0q t1q t2q t3q t4q ∧ μ z t0q t1q t2q t3q t4q < μ u t0 t1 t2 t3 t4) a0 u t0 t1 t2 t3 t4
def wj_Mo_linkCode_295 (rec : Ly → (St → Int32 → Prop) → St → Nat → Int32 → Prop) (y : Ly) (Post : St → Int32 → Prop) (K_220 : St → Int32 → Int32 → Prop) (a0 : Nat) (s_j295 : St) (x1j295 : Int32) (x3j295 : Int32) (x4j295 : Int32) (z0j295 : Int32) : Prop := wu_Mo_parentOf y (fun (s_47 : St) (r_46 : Int32) => wl_Mo_linkCode_304 rec y Post K_220 a0 s_47 x1j295 x3j295 x4j295 z0j295 r_46) s_j295 a0 x1j295
def wj_Mo_linkCode_294 (rec : Ly → (St → Int32 → Prop) → St → Nat → Int32 → Prop) (y : Ly) (Post : St → Int32 → Prop) (K_220 : St → Int32 → Int32 → Prop) (a0 : Nat) (s_j294 : St) (x1j294 : Int32) (x3j294 : Int32) (x4j294 : Int32) : Prop := wj_Mo_linkCode_295 rec y Post K_220 a0 s_j294 x1j294 x3j294 x4j294 0
def wb_Mo_linkCode_220 (rec : Ly → (St → Int32 → Prop) → St → Nat → Int32 → Prop) (y : Ly) (Post : St → Int32 → Prop) (K_220 : St → Int32 → Int32 → Prop) (a0 : Nat) (s_h220 : St) (x1h220 : Int32) (x3h220 : Int32) : Prop := ∃ b_23 : Nat, sO s_h220 a0 45 = some b_23 ∧ cl b_23 = 13 ∧ xA y s_h220 b_23 9 x1h220 (fun x_26 : Int32 => ((x_26 ≤ x3h220 → wl_Mo_linkCode_395 rec y Post a0 s_h220 x1h220 0) ∧ (¬ (x_26 ≤ x3h220) → xA y s_h220 b_23 18 ((12 * x1h220) + x3h220) (fun x_45 : Int32 => ((x_45 = (sV s_h220 a0 6) → wj_Mo_linkCode_294 rec y Post K_220 a0 s_h220 x1h220 x3h220 ((12 * x1h220) + x3h220)) ∧ (¬ (x_45 = (sV s_h220 a0 6)) → xA y s_h220 b_23 18 ((12 * x1h220) + x3h220) (fun x_63 : Int32 => ((x_63 = (sV s_h220 a0 7) → wj_Mo_linkCode_294 rec y Post K_220 a0 s_h220 x1h220 x3h220 ((12 * x1h220) + x3h220)) ∧ (¬ (x_63 = (sV s_h220 a0 7)) → xA y s_h220 b_23 20 ((12 * x1h220) + x3h220) (fun x_64 : Int32 => ((¬ (x_64 &&& 5) = 0 → wj_Mo_linkCode_294 rec y Post K_220 a0 s_h220 x1h220 x3h220 ((12 * x1h220) + x3h220)) ∧ ((x_64 &&& 5) = 0 → wj_Mo_linkCode_295 rec y Post K_220 a0 s_h220 x1h220 x3h220 ((12 * x1h220) + x3h220) 1))))))))))))
def wl_Mo_linkCode_220 (rec : Ly → (St → Int32 → Prop) → St → Nat → Int32 → Prop) (y : Ly) (Post : St → Int32 → Prop) (a0 : Nat) (s_h220 : St) (x1h220 : Int32) (x3h220 : Int32) : Prop := ∃ (I : St → Int32 → Int32 → Prop) (μ : St → Int32 → Int32 → Nat), I s_h220 x1h220 x3h220 ∧ ∀ (u : St) (t0 : Int32) (t1 : Int32), I u t0 t1 → wb_Mo_linkCode_220 rec y Post (fun z t0q t1q => I z t0q t1q ∧ μ z t0q t1q < μ u t0 t1) a0 u t0 t1
def wb_Mo_linkCode_160 (rec : Ly → (St → Int32 → Prop) → St → Nat → Int32 → Prop) (y : Ly) (Post : St → Int32 → Prop) (K_160 : St → Int32 → Int32 → Prop) (a0 : Nat) (s_h160 : St) (x1h160 : Int32) (x3h160 : Int32) : Prop := ∃ b_19 : Nat, sO s_h160 a0 45 = some b_19 ∧ cl b_19 = 13 ∧ xA y s_h160 b_19 7 x1h160 (fun x_22 : Int32 => ((x_22 ≤ x3h160 → wl_Mo_linkCode_220 rec y Post a0 s_h160 x1h160 0) ∧ (¬ (x_22 ≤ x3h160) → xA y s_h160 b_19 6 ((4 * x1h160) + x3h160) (fun x_65 : Int32 => wu_Mo_classOf y (fun (s_67 : St) (r_66 : Int32) => rec y (fun (s_69 : St) (r_68 : Int32) => ((¬ r_68 = 0 → K_160 s_69 x1h160 (x3h160 + 1)) ∧ (r_68 = 0 → ∃ b_70 : Nat, sO s_69 a0 45 = some b_70 ∧ cl b_70 = 13 ∧ xA y s_69 b_70 11 r_66 (fun x_73 : Int32 => Post s_69 x_73)))) s_67 a0 r_66) s_h160 a0 x_65))))
def wl_Mo_linkCode_160 (rec : Ly → (St → Int32 → Prop) → St → Nat → Int32 → Prop) (y : Ly) (Post : St → Int32 → Prop) (a0 : Nat) (s_h160 : St) (x1h160 : Int32) (x3h160 : Int32) : Prop := ∃ (I : St → Int32 → Int32 → Prop) (μ : St → Int32 → Int32 → Nat), I s_h160 x1h160 x3h160 ∧ ∀ (u : St) (t0 : Int32) (t1 : Int32), I u t0 t1 → wb_Mo_linkCode_160 rec y Post (fun z t0q t1q => I z t0q t1q ∧ μ z t0q t1q < μ u t0 t1) a0 u t0 t1
def wb_Mo_linkCode_74 (rec : Ly → (St → Int32 → Prop) → St → Nat → Int32 → Prop) (y : Ly) (Post : St → Int32 → Prop) (K_74 : St → Int32 → Int32 → Int32 → Prop) (a0 : Nat) (s_h74 : St) (x1h74 : Int32) (x2h74 : Int32) (x3h74 : Int32) : Prop := ∃ b_13 : Nat, sO s_h74 a0 45 = some b_13 ∧ cl b_13 = 13 ∧ xA y s_h74 b_13 7 x1h74 (fun x_16 : Int32 => ((x_16 ≤ x3h74 → rec y (fun (s_18 : St) (r_17 : Int32) => ((¬ r_17 = 0 → wl_Mo_linkCode_160 rec y Post a0 s_18 x1h74 0) ∧ (r_17 = 0 → ∃ b_74 : Nat, sO s_18 a0 45 = some b_74 ∧ cl b_74 = 13 ∧ xA y s_18 b_74 11 x2h74 (fun x_77 : Int32 => Post s_18 x_77)))) s_h74 a0 x2h74) ∧ (¬ (x_16 ≤ x3h74) → xA y s_h74 b_13 6 ((4 * x1h74) + x3h74) (fun x_78 : Int32 => wu_Mo_classOf y (fun (s_80 : St) (r_79 : Int32) => ((0 ≤ r_79 → ∃ b_81 : Nat, sO s_80 a0 45 = some b_81 ∧ cl b_81 = 13 ∧ xA y s_80 b_81 5 r_79 (fun x_84 : Int32 => ((¬ (x_84 &&& 4) = 0 → K_74 s_80 x1h74 x2h74 (x3h74 + 1)) ∧ ((x_84 &&& 4) = 0 → Post s_80 2315)))) ∧ (¬ (0 ≤ r_79) → Post s_80 2211))) s_h74 a0 x_78))))
def wl_Mo_linkCode_74 (rec : Ly → (St → Int32 → Prop) → St → Nat → Int32 → Prop) (y : Ly) (Post : St → Int32 → Prop) (a0 : Nat) (s_h74 : St) (x1h74 : Int32) (x2h74 : Int32) (x3h74 : Int32) : Prop := ∃ (I : St → Int32 → Int32 → Int32 → Prop) (μ : St → Int32 → Int32 → Int32 → Nat), I s_h74 x1h74 x2h74 x3h74 ∧ ∀ (u : St) (t0 : Int32) (t1 : Int32) (t2 : Int32), I u t0 t1 t2 → wb_Mo_linkCode_74 rec y Post (fun z t0q t1q t2q => I z t0q t1q t2q ∧ μ z t0q t1q t2q < μ u t0 t1 t2) a0 u t0 t1 t2
def wj_Mo_linkCode_72 (rec : Ly → (St → Int32 → Prop) → St → Nat → Int32 → Prop) (y : Ly) (Post : St → Int32 → Prop) (a0 : Nat) (s_j72 : St) (x1j72 : Int32) (x2j72 : Int32) : Prop := wl_Mo_linkCode_74 rec y Post a0 s_j72 x1j72 x2j72 0
def wf_Mo_linkCode (rec : Ly → (St → Int32 → Prop) → St → Nat → Int32 → Prop) (y : Ly) (Post : St → Int32 → Prop) (σ : St) (a0 : Nat) (v1 : Int32) : Prop := wu_Mo_directs y (fun (s_2 : St) (r_1 : Int64) => wu_Mo_upFrom y (fun (s_4 : St) (r_3 : Int64) => ((¬ (lg_cmp ((r_3 >>> (v1.toInt64 &&& 63)) &&& 1) 1) = 0 → ∃ b_5 : Nat, sO s_4 a0 45 = some b_5 ∧ cl b_5 = 13 ∧ xA y s_4 b_5 4 v1 (fun x_8 : Int32 => wu_Mo_classOf y (fun (s_10 : St) (r_9 : Int32) => ((0 ≤ r_9 → wu_Mo_isOff y (fun (s_12 : St) (r_11 : Int32) => ((¬ r_11 = 0 → wj_Mo_linkCode_72 rec y Post a0 s_12 v1 r_9) ∧ (r_11 = 0 → ∃ b_85 : Nat, sO s_12 a0 45 = some b_85 ∧ cl b_85 = 13 ∧ xA y s_12 b_85 5 r_9 (fun x_88 : Int32 => (((x_88 &&& 5) = 0 → wj_Mo_linkCode_72 rec y Post a0 s_12 v1 r_9) ∧ (¬ ((x_88 &&& 5) = 0) → Post s_12 2115)))))) s_10 a0 3) ∧ (¬ (0 ≤ r_9) → Post s_10 2011))) s_4 a0 x_8)) ∧ ((lg_cmp ((r_3 >>> (v1.toInt64 &&& 63)) &&& 1) 1) = 0 → Post s_4 2416))) s_2 a0 r_1 1) σ a0 v1 1
set_option maxHeartbeats 4000000 in
set_option maxRecDepth 100000 in
theorem cf_Mo_linkCode (l : Launch) (D : va_G) (g : Nat → ClassId) (ad : Nat → Nat) (rec : Ly → (St → Int32 → Prop) → St → Nat → Int32 → Prop) (rr : Room) (hrr : rr.cells = 0 ∧ rr.slots = 0) (hrec : ∀ (y : Ly) (Post : St → Int32 → Prop) (σ : St) (a0 : Nat) (v1 : Int32) (sz : Nat) (_ : cl a0 = 14) (_ : rec y Post σ a0 v1), Met l y_Mo_isLinked (mw y_Mo_isLinked b_Mo_isLinked 3 (some (.boolean))) rr (PC g D [] [.ref (ad a0), .int v1] sz (ws g ad y σ)) (va_Qi (fun (r : Int32) (u : St) => Post u r) (QW D (va_A (ws g ad y σ) sz) (fun u => ws g ad y u)) (va_A (ws g ad y σ) sz)) 0 0 (va_A (ws g ad y σ) sz)) (y : Ly) (Post : St → Int32 → Prop) (σ : St) (a0 : Nat) (v1 : Int32) (sz : Nat) (h_a0 : cl a0 = 14) (h : wf_Mo_linkCode rec y Post σ a0 v1) : Met l y_Mo_linkCode (mw y_Mo_linkCode b_Mo_linkCode 8 (some .int)) (rf_Mo_linkCode rr) (PC g D [] [.ref (ad a0), .int v1] sz (ws g ad y σ)) (va_Qi (fun (r : Int32) (u : St) => Post u r) (QW D (va_A (ws g ad y σ) sz) (fun u => ws g ad y u)) (va_A (ws g ad y σ) sz)) 0 0 (va_A (ws g ad y σ) sz) := by
  refine ofI (by decide +kernel) (Nat.le_of_ble_eq_true rfl) ?_
  intro p e s m args below meth c A Q ls H locs G hsz hP hD hS hl hret
  subst hsz
  have hl : lv_has ls 8 [(0, .ref (ad a0)), (1, .int v1)] := hl
  unfold wf_Mo_linkCode at h
  refine lv_aload_n G.1 G.2.1 d_Mo_linkCode_0 rfl (lv_at hl 0 rfl) ?_
  refine lv_aload_n G.1 G.2.1 d_Mo_linkCode_1 rfl (lv_at hl 0 rfl) ?_
  refine lv_iload_n G.1 G.2.1 d_Mo_linkCode_2 rfl (lv_at hl 1 rfl) ?_
  refine lv_iconst (v := 1) G.1 G.2.1 d_Mo_linkCode_3 (by decide) ?_
  refine ucVl (As := [.int v1, .int 1]) (rest := [.ref (ad a0)]) G hP hD hS (cu_Mo_directs l D g ad y _ σ a0 v1 1 H.size h_a0 h) w9_Mo_directs q3685 ⟨Nat.le_trans (by decide) (Nat.le_add_left _ _), Nat.le_trans (by decide) (Nat.le_add_left _ _)⟩ rfl rfl h_a0 (q := (RMo, TMo, 131)) rfl rfl hl.1 rfl (Nat.le_of_ble_eq_true rfl) rfl ⟨Nat.le_refl _, Nat.le_refl _⟩ d_Mo_linkCode_4 (fun r_1 s_2 H locs h hP hD hS => ?_)
  refine lv_iconst (v := 1) G.1 G.2.1 d_Mo_linkCode_7 (by decide) ?_
  refine ucVl (As := [.long r_1, .int 1]) (rest := []) G hP hD hS (cu_Mo_upFrom l D g ad y _ s_2 a0 r_1 1 H.size h_a0 h) w9_Mo_upFrom q3693 ⟨Nat.le_trans (by decide) (Nat.le_add_left _ _), Nat.le_trans (by decide) (Nat.le_add_left _ _)⟩ rfl rfl h_a0 (q := (RMo, TMo, 131)) rfl rfl hl.1 rfl (Nat.le_of_ble_eq_true rfl) rfl ⟨Nat.le_refl _, Nat.le_refl _⟩ d_Mo_linkCode_8 (fun r_3 s_4 H locs h hP hD hS => ?_)
  refine lv_iload_n G.1 G.2.1 d_Mo_linkCode_11 rfl (lv_at hl 1 rfl) ?_
  refine lv_lshr G.1 G.2.1 d_Mo_linkCode_12 rfl ?_
  refine lv_lconst (v := 1) G.1 G.2.1 d_Mo_linkCode_13 (by decide) ?_
  refine lv_land G.1 G.2.1 d_Mo_linkCode_14 ?_
  refine W.eq (g2 := F0 m 15 ls [.long ((r_3 >>> (v1.toInt64 &&& 63)) &&& 1)]) rfl ?_
  refine lv_lconst (v := 1) G.1 G.2.1 d_Mo_linkCode_15 (by decide) ?_
  refine W.lcmp G.1 G.2.1 d_Mo_linkCode_16 ?_
  refine lv_if_ne (tgt := 24) G.1 G.2.1 d_Mo_linkCode_17 (by decide) (fun c17 => ?_) (fun c17 => ?_)
  · skip
    have h := h.1 c17
    refine lv_aload_n G.1 G.2.1 d_Mo_linkCode_24 rfl (lv_at hl 0 rfl) ?_
    refine lv_aload_n G.1 G.2.1 d_Mo_linkCode_25 rfl (lv_at hl 0 rfl) ?_
    obtain ⟨b_5, e_6, c_7, h⟩ := h
    refine ugf (v := .ref (ad b_5)) G hP h_a0 iMo rfl 45 (by decide) rfl q3109 rfl (by show va_rf ((sO s_4 a0 45).map ad) = _; rw [e_6]; rfl) d_Mo_linkCode_26 ?_
    refine ugfN (v := .ref (yP y b_5 4)) G hP c_7 iMw rfl 4 (by decide) rfl q2712 rfl rfl d_Mo_linkCode_29 ?_
    refine lv_iload_n G.1 G.2.1 d_Mo_linkCode_32 rfl (lv_at hl 1 rfl) ?_
    refine uiald G hP (kdp c_7 rfl) (typ c_7 rfl) h d_Mo_linkCode_33 (fun x_8 h => ?_)
    refine ucVi (As := [.int x_8]) (rest := []) G hP hD hS (cu_Mo_classOf l D g ad y _ s_4 a0 x_8 H.size h_a0 h) w9_Mo_classOf q3571 ⟨Nat.le_trans (by decide) (Nat.le_add_left _ _), Nat.le_trans (by decide) (Nat.le_add_left _ _)⟩ rfl rfl h_a0 (q := (RMo, TMo, 131)) rfl rfl hl.1 rfl (Nat.le_of_ble_eq_true rfl) rfl ⟨Nat.le_refl _, Nat.le_refl _⟩ d_Mo_linkCode_34 (fun r_9 s_10 H locs h hP hD hS => ?_)
    refine lv_istore_n (lv' := [(2, .int r_9), (0, .ref (ad a0)), (1, .int v1)]) G.1 G.2.1 d_Mo_linkCode_37 rfl hl (by decide) rfl (fun ls hl => ?_)
    refine lv_iload_n G.1 G.2.1 d_Mo_linkCode_38 rfl (lv_at hl 0 rfl) ?_
    refine W.eq (g2 := F0 m 39 ls [.int r_9]) rfl ?_
    refine lv_if_ge (tgt := 46) G.1 G.2.1 d_Mo_linkCode_39 (by decide) (fun c39 => ?_) (fun c39 => ?_)
    · skip
      have h := h.1 c39
      refine lv_aload_n G.1 G.2.1 d_Mo_linkCode_46 rfl (lv_at hl 1 rfl) ?_
      refine lv_iconst (v := 3) G.1 G.2.1 d_Mo_linkCode_47 (by decide) ?_
      refine ucVi (As := [.int 3]) (rest := []) G hP hD hS (cu_Mo_isOff l D g ad y _ s_10 a0 3 H.size h_a0 h) w9_Mo_isOff q3579 ⟨Nat.le_trans (by decide) (Nat.le_add_left _ _), Nat.le_trans (by decide) (Nat.le_add_left _ _)⟩ rfl rfl h_a0 (q := (RMo, TMo, 131)) rfl rfl hl.1 rfl (Nat.le_of_ble_eq_true rfl) rfl ⟨Nat.le_refl _, Nat.le_refl _⟩ d_Mo_linkCode_48 (fun r_11 s_12 H locs h hP hD hS => ?_)
      have J_72 : ∀ (s_j72 : St) (x1j72 : Int32) (x2j72 : Int32) (H : Heap) (locs : List Loc), wj_Mo_linkCode_72 rec y Post a0 s_j72 x1j72 x2j72 → va_P D CL (ws g ad y s_j72) H → va_D A (ws g ad y s_j72) → va_S A s.heap H locs → ∀ ls, lv_has ls 8 [(0, .ref (ad a0)), (1, .int x1j72), (2, .int x2j72)] → W p l e (rf_Mo_linkCode rr) s m args below meth c H locs 0 0 Q (F0 m 72 ls []) := by
        intro s_j72 x1j72 x2j72 H locs h hP hD hS ls hl
        unfold wj_Mo_linkCode_72 at h
        refine lv_iconst (v := 0) G.1 G.2.1 d_Mo_linkCode_72 (by decide) ?_
        refine lv_istore_n (lv' := [(3, .int 0), (0, .ref (ad a0)), (1, .int x1j72), (2, .int x2j72)]) G.1 G.2.1 d_Mo_linkCode_73 rfl hl (by decide) rfl (fun ls hl => ?_)
        unfold wl_Mo_linkCode_74 at h
        obtain ⟨I_74, μ_74, hI_74, hB_74⟩ := h
        have L_74 : ∀ (n_74 : Nat) (s_h74 : St) (x1h74 : Int32) (x2h74 : Int32) (x3h74 : Int32), μ_74 s_h74 x1h74 x2h74 x3h74 < n_74 → I_74 s_h74 x1h74 x2h74 x3h74 → ∀ (H : Heap) (locs : List Loc), va_P D CL (ws g ad y s_h74) H → va_D A (ws g ad y s_h74) → va_S A s.heap H locs → ∀ ls, lv_has ls 8 [(0, .ref (ad a0)), (1, .int x1h74), (2, .int x2h74), (3, .int x3h74)] → W p l e (rf_Mo_linkCode rr) s m args below meth c H locs 0 0 Q (F0 m 74 ls []) := by
          intro n_74
          induction n_74 with
          | zero => intro s_h74 x1h74 x2h74 x3h74 hμ; exact absurd hμ (Nat.not_lt_zero _)
          | succ n_74 ih_74 =>
            intro s_h74 x1h74 x2h74 x3h74 hμ_74 hJ H locs hP hD hS ls hl
            obtain ⟨K_74, hK_74, h⟩ : ∃ K : St → Int32 → Int32 → Int32 → Prop, (∀ z (t0 : Int32) (t1 : Int32) (t2 : Int32), K z t0 t1 t2 → I_74 z t0 t1 t2 ∧ μ_74 z t0 t1 t2 < μ_74 s_h74 x1h74 x2h74 x3h74) ∧ wb_Mo_linkCode_74 rec y Post K a0 s_h74 x1h74 x2h74 x3h74 := ⟨_, fun _ _ _ _ h => h, hB_74 s_h74 x1h74 x2h74 x3h74 hJ⟩
            unfold wb_Mo_linkCode_74 at h
            refine lv_iload_n G.1 G.2.1 d_Mo_linkCode_74 rfl (lv_at hl 3 rfl) ?_
            refine lv_aload_n G.1 G.2.1 d_Mo_linkCode_75 rfl (lv_at hl 0 rfl) ?_
            obtain ⟨b_13, e_14, c_15, h⟩ := h
            refine ugf (v := .ref (ad b_13)) G hP h_a0 iMo rfl 45 (by decide) rfl q3109 rfl (by show va_rf ((sO s_h74 a0 45).map ad) = _; rw [e_14]; rfl) d_Mo_linkCode_76 ?_
            refine ugfN (v := .ref (yP y b_13 7)) G hP c_15 iMw rfl 7 (by decide) rfl q2718 rfl rfl d_Mo_linkCode_79 ?_
            refine lv_iload_n G.1 G.2.1 d_Mo_linkCode_82 rfl (lv_at hl 1 rfl) ?_
            refine uiald G hP (kdp c_15 rfl) (typ c_15 rfl) h d_Mo_linkCode_83 (fun x_16 h => ?_)
            refine lv_icmp_ge (tgt := 140) G.1 G.2.1 d_Mo_linkCode_84 (by decide) (fun c84 => ?_) (fun c84 => ?_)
            · skip
              have h := h.1 c84
              refine lv_aload_n G.1 G.2.1 d_Mo_linkCode_140 rfl (lv_at hl 0 rfl) ?_
              refine lv_iload_n G.1 G.2.1 d_Mo_linkCode_141 rfl (lv_at hl 2 rfl) ?_
              refine ucVi (As := [.int x2h74]) (rest := []) G hP hD hS (hrec y _ s_h74 a0 x2h74 H.size h_a0 h) w9_Mo_isLinked q3677 ⟨by show rr.frames + 1 ≤ rr.frames + _; omega, by show 8 + (3 + 11) + rr.locals ≤ rr.locals + _; omega⟩ hrr.1 hrr.2 h_a0 (q := (RMo, TMo, 131)) rfl rfl hl.1 rfl (Nat.le_of_ble_eq_true rfl) rfl ⟨Nat.le_refl _, Nat.le_refl _⟩ d_Mo_linkCode_142 (fun r_17 s_18 H locs h hP hD hS => ?_)
              refine lv_if_ne (tgt := 158) G.1 G.2.1 d_Mo_linkCode_145 (by decide) (fun c145 => ?_) (fun c145 => ?_)
              · skip
                have h := h.1 c145
                refine W.eq (g2 := F0 m 158 ls []) rfl ?_
                refine lv_iconst (v := 0) G.1 G.2.1 d_Mo_linkCode_158 (by decide) ?_
                refine lv_istore_n (lv' := [(3, .int 0), (0, .ref (ad a0)), (1, .int x1h74), (2, .int x2h74)]) G.1 G.2.1 d_Mo_linkCode_159 rfl hl (by decide) rfl (fun ls hl => ?_)
                unfold wl_Mo_linkCode_160 at h
                obtain ⟨I_160, μ_160, hI_160, hB_160⟩ := h
                have L_160 : ∀ (n_160 : Nat) (s_h160 : St) (x1h160 : Int32) (x3h160 : Int32), μ_160 s_h160 x1h160 x3h160 < n_160 → I_160 s_h160 x1h160 x3h160 → ∀ (H : Heap) (locs : List Loc), va_P D CL (ws g ad y s_h160) H → va_D A (ws g ad y s_h160) → va_S A s.heap H locs → ∀ ls, lv_has ls 8 [(0, .ref (ad a0)), (1, .int x1h160), (3, .int x3h160)] → W p l e (rf_Mo_linkCode rr) s m args below meth c H locs 0 0 Q (F0 m 160 ls []) := by
                  intro n_160
                  induction n_160 with
                  | zero => intro s_h160 x1h160 x3h160 hμ; exact absurd hμ (Nat.not_lt_zero _)
                  | succ n_160 ih_160 =>
                    intro s_h160 x1h160 x3h160 hμ_160 hJ H locs hP hD hS ls hl
                    obtain ⟨K_160, hK_160, h⟩ : ∃ K : St → Int32 → Int32 → Prop, (∀ z (t0 : Int32) (t1 : Int32), K z t0 t1 → I_160 z t0 t1 ∧ μ_160 z t0 t1 < μ_160 s_h160 x1h160 x3h160) ∧ wb_Mo_linkCode_160 rec y Post K a0 s_h160 x1h160 x3h160 := ⟨_, fun _ _ _ h => h, hB_160 s_h160 x1h160 x3h160 hJ⟩
                    unfold wb_Mo_linkCode_160 at h
                    refine lv_iload_n G.1 G.2.1 d_Mo_linkCode_160 rfl (lv_at hl 2 rfl) ?_
                    refine lv_aload_n G.1 G.2.1 d_Mo_linkCode_161 rfl (lv_at hl 0 rfl) ?_
                    obtain ⟨b_19, e_20, c_21, h⟩ := h
                    refine ugf (v := .ref (ad b_19)) G hP h_a0 iMo rfl 45 (by decide) rfl q3109 rfl (by show va_rf ((sO s_h160 a0 45).map ad) = _; rw [e_20]; rfl) d_Mo_linkCode_162 ?_
                    refine ugfN (v := .ref (yP y b_19 7)) G hP c_21 iMw rfl 7 (by decide) rfl q2718 rfl rfl d_Mo_linkCode_165 ?_
                    refine lv_iload_n G.1 G.2.1 d_Mo_linkCode_168 rfl (lv_at hl 1 rfl) ?_
                    refine uiald G hP (kdp c_21 rfl) (typ c_21 rfl) h d_Mo_linkCode_169 (fun x_22 h => ?_)
                    refine lv_icmp_ge (tgt := 218) G.1 G.2.1 d_Mo_linkCode_170 (by decide) (fun c170 => ?_) (fun c170 => ?_)
                    · skip
                      have h := h.1 c170
                      refine lv_iconst (v := 0) G.1 G.2.1 d_Mo_linkCode_218 (by decide) ?_
                      refine lv_istore_n (lv' := [(3, .int 0), (0, .ref (ad a0)), (1, .int x1h160)]) G.1 G.2.1 d_Mo_linkCode_219 rfl hl (by decide) rfl (fun ls hl => ?_)
                      unfold wl_Mo_linkCode_220 at h
                      obtain ⟨I_220, μ_220, hI_220, hB_220⟩ := h
                      have L_220 : ∀ (n_220 : Nat) (s_h220 : St) (x1h220 : Int32) (x3h220 : Int32), μ_220 s_h220 x1h220 x3h220 < n_220 → I_220 s_h220 x1h220 x3h220 → ∀ (H : Heap) (locs : List Loc), va_P D CL (ws g ad y s_h220) H → va_D A (ws g ad y s_h220) → va_S A s.heap H locs → ∀ ls, lv_has ls 8 [(0, .ref (ad a0)), (1, .int x1h220), (3, .int x3h220)] → W p l e (rf_Mo_linkCode rr) s m args below meth c H locs 0 0 Q (F0 m 220 ls []) := by
                        intro n_220
                        induction n_220 with
                        | zero => intro s_h220 x1h220 x3h220 hμ; exact absurd hμ (Nat.not_lt_zero _)
                        | succ n_220 ih_220 =>
                          intro s_h220 x1h220 x3h220 hμ_220 hJ H locs hP hD hS ls hl
                          obtain ⟨K_220, hK_220, h⟩ : ∃ K : St → Int32 → Int32 → Prop, (∀ z (t0 : Int32) (t1 : Int32), K z t0 t1 → I_220 z t0 t1 ∧ μ_220 z t0 t1 < μ_220 s_h220 x1h220 x3h220) ∧ wb_Mo_linkCode_220 rec y Post K a0 s_h220 x1h220 x3h220 := ⟨_, fun _ _ _ h => h, hB_220 s_h220 x1h220 x3h220 hJ⟩
                          unfold wb_Mo_linkCode_220 at h
                          refine lv_iload_n G.1 G.2.1 d_Mo_linkCode_220 rfl (lv_at hl 2 rfl) ?_
                          refine lv_aload_n G.1 G.2.1 d_Mo_linkCode_221 rfl (lv_at hl 0 rfl) ?_
                          obtain ⟨b_23, e_24, c_25, h⟩ := h
                          refine ugf (v := .ref (ad b_23)) G hP h_a0 iMo rfl 45 (by decide) rfl q3109 rfl (by show va_rf ((sO s_h220 a0 45).map ad) = _; rw [e_24]; rfl) d_Mo_linkCode_222 ?_
                          refine ugfN (v := .ref (yP y b_23 9)) G hP c_25 iMw rfl 9 (by decide) rfl q2722 rfl rfl d_Mo_linkCode_225 ?_
                          refine lv_iload_n G.1 G.2.1 d_Mo_linkCode_228 rfl (lv_at hl 1 rfl) ?_
                          refine uiald G hP (kdp c_25 rfl) (typ c_25 rfl) h d_Mo_linkCode_229 (fun x_26 h => ?_)
                          refine lv_icmp_ge (tgt := 393) G.1 G.2.1 d_Mo_linkCode_230 (by decide) (fun c230 => ?_) (fun c230 => ?_)
                          · skip
                            have h := h.1 c230
                            refine lv_iconst (v := 0) G.1 G.2.1 d_Mo_linkCode_393 (by decide) ?_
                            refine lv_istore_n (lv' := [(3, .int 0), (0, .ref (ad a0)), (1, .int x1h220)]) G.1 G.2.1 d_Mo_linkCode_394 rfl hl (by decide) rfl (fun ls hl => ?_)
                            unfold wl_Mo_linkCode_395 at h
                            obtain ⟨I_395, μ_395, hI_395, hB_395⟩ := h
                            have L_395 : ∀ (n_395 : Nat) (s_h395 : St) (x1h395 : Int32) (x3h395 : Int32), μ_395 s_h395 x1h395 x3h395 < n_395 → I_395 s_h395 x1h395 x3h395 → ∀ (H : Heap) (locs : List Loc), va_P D CL (ws g ad y s_h395) H → va_D A (ws g ad y s_h395) → va_S A s.heap H locs → ∀ ls, lv_has ls 8 [(0, .ref (ad a0)), (1, .int x1h395), (3, .int x3h395)] → W p l e (rf_Mo_linkCode rr) s m args below meth c H locs 0 0 Q (F0 m 395 ls []) := by
                              intro n_395
                              induction n_395 with
                              | zero => intro s_h395 x1h395 x3h395 hμ; exact absurd hμ (Nat.not_lt_zero _)
                              | succ n_395 ih_395 =>
                                intro s_h395 x1h395 x3h395 hμ_395 hJ H locs hP hD hS ls hl
                                obtain ⟨K_395, hK_395, h⟩ : ∃ K : St → Int32 → Int32 → Prop, (∀ z (t0 : Int32) (t1 : Int32), K z t0 t1 → I_395 z t0 t1 ∧ μ_395 z t0 t1 < μ_395 s_h395 x1h395 x3h395) ∧ wb_Mo_linkCode_395 rec y Post K a0 s_h395 x1h395 x3h395 := ⟨_, fun _ _ _ h => h, hB_395 s_h395 x1h395 x3h395 hJ⟩
                                unfold wb_Mo_linkCode_395 at h
                                refine lv_iload_n G.1 G.2.1 d_Mo_linkCode_395 rfl (lv_at hl 2 rfl) ?_
                                refine lv_aload_n G.1 G.2.1 d_Mo_linkCode_396 rfl (lv_at hl 0 rfl) ?_
                                obtain ⟨b_27, e_28, c_29, h⟩ := h
                                refine ugf (v := .ref (ad b_27)) G hP h_a0 iMo rfl 45 (by decide) rfl q3109 rfl (by show va_rf ((sO s_h395 a0 45).map ad) = _; rw [e_28]; rfl) d_Mo_linkCode_397 ?_
                                refine ugfN (v := .ref (yP y b_27 9)) G hP c_29 iMw rfl 9 (by decide) rfl q2722 rfl rfl d_Mo_linkCode_400 ?_
                                refine lv_iload_n G.1 G.2.1 d_Mo_linkCode_403 rfl (lv_at hl 1 rfl) ?_
                                refine uiald G hP (kdp c_29 rfl) (typ c_29 rfl) h d_Mo_linkCode_404 (fun x_30 h => ?_)
                                refine lv_icmp_ge (tgt := 474) G.1 G.2.1 d_Mo_linkCode_405 (by decide) (fun c405 => ?_) (fun c405 => ?_)
                                · skip
                                  have h := h.1 c405
                                  refine lv_iconst (v := 0) G.1 G.2.1 d_Mo_linkCode_474 (by decide) ?_
                                  exact hret _ _ _ _ _ _ _ ls h hP hD hS (Nat.le_refl _) (Nat.le_refl _) d_Mo_linkCode_475
                                · skip
                                  have h := h.2 c405
                                  refine lv_aload_n G.1 G.2.1 d_Mo_linkCode_408 rfl (lv_at hl 0 rfl) ?_
                                  refine lv_iload_n G.1 G.2.1 d_Mo_linkCode_409 rfl (lv_at hl 1 rfl) ?_
                                  refine lv_bipush (v := 12) G.1 G.2.1 d_Mo_linkCode_410 (by decide) ?_
                                  refine lv_iload_n G.1 G.2.1 d_Mo_linkCode_412 rfl (lv_at hl 1 rfl) ?_
                                  refine W.eq (g2 := F0 m 413 ls [.int x1h395, .int 12, .int x1h395, .ref (ad a0)]) rfl ?_
                                  refine lv_imul G.1 G.2.1 d_Mo_linkCode_413 ?_
                                  refine lv_iload_n G.1 G.2.1 d_Mo_linkCode_414 rfl (lv_at hl 2 rfl) ?_
                                  refine lv_iadd G.1 G.2.1 d_Mo_linkCode_415 ?_
                                  refine ucVi (As := [.int x1h395, .int ((12 * x1h395) + x3h395)]) (rest := []) G hP hD hS (cu_Mo_check l D g ad y _ s_h395 a0 x1h395 ((12 * x1h395) + x3h395) H.size h_a0 h) w9_Mo_check q3701 ⟨Nat.le_trans (by decide) (Nat.le_add_left _ _), Nat.le_trans (by decide) (Nat.le_add_left _ _)⟩ rfl rfl h_a0 (q := (RMo, TMo, 131)) rfl rfl hl.1 rfl (Nat.le_of_ble_eq_true rfl) rfl ⟨Nat.le_refl _, Nat.le_refl _⟩ d_Mo_linkCode_416 (fun r_31 s_32 H locs h hP hD hS => ?_)
                                  refine lv_istore (lv' := [(4, .int r_31), (0, .ref (ad a0)), (1, .int x1h395), (3, .int x3h395)]) G.1 G.2.1 d_Mo_linkCode_419 hl (by decide) rfl (fun ls hl => ?_)
                                  refine lv_iload G.1 G.2.1 d_Mo_linkCode_421 (lv_at hl 0 rfl) ?_
                                  refine lv_if_le (tgt := 468) G.1 G.2.1 d_Mo_linkCode_423 (by decide) (fun c423 => ?_) (fun c423 => ?_)
                                  · skip
                                    have h := h.1 c423
                                    refine lv_iinc (v := x3h395 + 1) (lv' := [(3, .int (x3h395 + 1)), (4, .int r_31), (0, .ref (ad a0)), (1, .int x1h395)]) G.1 G.2.1 d_Mo_linkCode_468 hl (k := 3) rfl rfl (by decide) rfl (fun ls hl => ?_)
                                    refine lv_goto (tgt := 395) G.1 G.2.1 d_Mo_linkCode_471 (by decide) ?_
                                    have h := hK_395 s_32 x1h395 (x3h395 + 1) h
                                    exact ih_395 s_32 x1h395 (x3h395 + 1) (Nat.lt_of_lt_of_le h.2 (Nat.le_of_lt_succ hμ_395)) h.1 H locs hP hD hS ls (lv_sub hl [2, 3, 0] rfl)
                                  · skip
                                    have h := h.2 c423
                                    refine lv_aload_n G.1 G.2.1 d_Mo_linkCode_426 rfl (lv_at hl 1 rfl) ?_
                                    obtain ⟨b_33, e_34, c_35, h⟩ := h
                                    refine ugf (v := .ref (ad b_33)) G hP h_a0 iMo rfl 45 (by decide) rfl q3109 rfl (by show va_rf ((sO s_32 a0 45).map ad) = _; rw [e_34]; rfl) d_Mo_linkCode_427 ?_
                                    refine ugfN (v := .ref (yP y b_33 44)) G hP c_35 iMw rfl 44 (by decide) rfl q2788 rfl rfl d_Mo_linkCode_430 ?_
                                    refine lv_iconst (v := 0) G.1 G.2.1 d_Mo_linkCode_433 (by decide) ?_
                                    refine lv_iload_n G.1 G.2.1 d_Mo_linkCode_434 rfl (lv_at hl 2 rfl) ?_
                                    refine W.eq (g2 := F0 m 435 ls [.int x1h395, .int 0, .ref (yP y b_33 44)]) rfl ?_
                                    refine uiast G hP hD hS (kdp c_35 rfl) (typ c_35 rfl) h d_Mo_linkCode_435 (fun s_36 H locs h hP hD hS => ?_)
                                    refine lv_aload_n G.1 G.2.1 d_Mo_linkCode_436 rfl (lv_at hl 1 rfl) ?_
                                    obtain ⟨b_37, e_38, c_39, h⟩ := h
                                    refine ugf (v := .ref (ad b_37)) G hP h_a0 iMo rfl 45 (by decide) rfl q3109 rfl (by show va_rf ((sO s_36 a0 45).map ad) = _; rw [e_38]; rfl) d_Mo_linkCode_437 ?_
                                    refine ugfN (v := .ref (yP y b_37 44)) G hP c_39 iMw rfl 44 (by decide) rfl q2788 rfl rfl d_Mo_linkCode_440 ?_
                                    refine lv_iconst (v := 1) G.1 G.2.1 d_Mo_linkCode_443 (by decide) ?_
                                    refine lv_iload_n G.1 G.2.1 d_Mo_linkCode_444 rfl (lv_at hl 3 rfl) ?_
                                    refine uiast G hP hD hS (kdp c_39 rfl) (typ c_39 rfl) h d_Mo_linkCode_445 (fun s_40 H locs h hP hD hS => ?_)
                                    refine lv_aload_n G.1 G.2.1 d_Mo_linkCode_446 rfl (lv_at hl 1 rfl) ?_
                                    obtain ⟨b_41, e_42, c_43, h⟩ := h
                                    refine ugf (v := .ref (ad b_41)) G hP h_a0 iMo rfl 45 (by decide) rfl q3109 rfl (by show va_rf ((sO s_40 a0 45).map ad) = _; rw [e_42]; rfl) d_Mo_linkCode_447 ?_
                                    refine ugfN (v := .ref (yP y b_41 44)) G hP c_43 iMw rfl 44 (by decide) rfl q2788 rfl rfl d_Mo_linkCode_450 ?_
                                    refine lv_iconst (v := 2) G.1 G.2.1 d_Mo_linkCode_453 (by decide) ?_
                                    refine lv_aload_n G.1 G.2.1 d_Mo_linkCode_454 rfl (lv_at hl 1 rfl) ?_
                                    refine W.eq (g2 := F0 m 455 ls [.ref (ad a0), .int 2, .ref (yP y b_41 44)]) rfl ?_
                                    refine ugf (v := .int (sV s_40 a0 74)) G hP h_a0 iMo rfl 74 (by decide) rfl q3138 rfl rfl d_Mo_linkCode_455 ?_
                                    refine uiast G hP hD hS (kdp c_43 rfl) (typ c_43 rfl) h d_Mo_linkCode_458 (fun s_44 H locs h hP hD hS => ?_)
                                    refine lv_bipush (v := 100) G.1 G.2.1 d_Mo_linkCode_459 (by decide) ?_
                                    refine lv_iload G.1 G.2.1 d_Mo_linkCode_461 (lv_at hl 0 rfl) ?_
                                    refine lv_imul G.1 G.2.1 d_Mo_linkCode_463 ?_
                                    refine lv_bipush (v := 17) G.1 G.2.1 d_Mo_linkCode_464 (by decide) ?_
                                    refine lv_iadd G.1 G.2.1 d_Mo_linkCode_466 ?_
                                    exact hret _ _ _ _ _ _ _ ls h hP hD hS (Nat.le_refl _) (Nat.le_refl _) d_Mo_linkCode_467
                            exact L_395 _ s_h220 x1h220 0 (Nat.lt_succ_self _) hI_395 H locs hP hD hS ls (lv_sub hl [1, 2, 0] rfl)
                          · skip
                            have h := h.2 c230
                            refine lv_bipush (v := 12) G.1 G.2.1 d_Mo_linkCode_233 (by decide) ?_
                            refine lv_iload_n G.1 G.2.1 d_Mo_linkCode_235 rfl (lv_at hl 1 rfl) ?_
                            refine lv_imul G.1 G.2.1 d_Mo_linkCode_236 ?_
                            refine lv_iload_n G.1 G.2.1 d_Mo_linkCode_237 rfl (lv_at hl 2 rfl) ?_
                            refine W.eq (g2 := F0 m 238 ls [.int x3h220, .int (12 * x1h220)]) rfl ?_
                            refine lv_iadd G.1 G.2.1 d_Mo_linkCode_238 ?_
                            refine lv_istore (lv' := [(4, .int ((12 * x1h220) + x3h220)), (0, .ref (ad a0)), (1, .int x1h220), (3, .int x3h220)]) G.1 G.2.1 d_Mo_linkCode_239 hl (by decide) rfl (fun ls hl => ?_)
                            refine lv_aload_n G.1 G.2.1 d_Mo_linkCode_241 rfl (lv_at hl 1 rfl) ?_
                            refine ugf (v := .ref (ad b_23)) G hP h_a0 iMo rfl 45 (by decide) rfl q3109 rfl (by show va_rf ((sO s_h220 a0 45).map ad) = _; rw [e_24]; rfl) d_Mo_linkCode_242 ?_
                            refine ugfN (v := .ref (yP y b_23 18)) G hP c_25 iMw rfl 18 (by decide) rfl q2740 rfl rfl d_Mo_linkCode_245 ?_
                            refine lv_iload G.1 G.2.1 d_Mo_linkCode_248 (lv_at hl 0 rfl) ?_
                            refine uiald G hP (kdp c_25 rfl) (typ c_25 rfl) h d_Mo_linkCode_250 (fun x_45 h => ?_)
                            refine lv_aload_n G.1 G.2.1 d_Mo_linkCode_251 rfl (lv_at hl 1 rfl) ?_
                            refine ugf (v := .int (sV s_h220 a0 6)) G hP h_a0 iMo rfl 6 (by decide) rfl q3070 rfl rfl d_Mo_linkCode_252 ?_
                            have J_295 : ∀ (s_j295 : St) (x1j295 : Int32) (x3j295 : Int32) (x4j295 : Int32) (z0j295 : Int32) (H : Heap) (locs : List Loc), wj_Mo_linkCode_295 rec y Post K_220 a0 s_j295 x1j295 x3j295 x4j295 z0j295 → va_P D CL (ws g ad y s_j295) H → va_D A (ws g ad y s_j295) → va_S A s.heap H locs → ∀ ls, lv_has ls 8 [(0, .ref (ad a0)), (1, .int x1j295), (3, .int x3j295), (4, .int x4j295)] → W p l e (rf_Mo_linkCode rr) s m args below meth c H locs 0 0 Q (F0 m 295 ls [.int z0j295]) := by
                              intro s_j295 x1j295 x3j295 x4j295 z0j295 H locs h hP hD hS ls hl
                              unfold wj_Mo_linkCode_295 at h
                              refine lv_istore (lv' := [(5, .int z0j295), (0, .ref (ad a0)), (1, .int x1j295), (3, .int x3j295), (4, .int x4j295)]) G.1 G.2.1 d_Mo_linkCode_295 hl (by decide) rfl (fun ls hl => ?_)
                              refine lv_aload_n G.1 G.2.1 d_Mo_linkCode_297 rfl (lv_at hl 1 rfl) ?_
                              refine lv_iload_n G.1 G.2.1 d_Mo_linkCode_298 rfl (lv_at hl 2 rfl) ?_
                              refine ucVi (As := [.int x1j295]) (rest := []) G hP hD hS (cu_Mo_parentOf l D g ad y _ s_j295 a0 x1j295 H.size h_a0 h) w9_Mo_parentOf q3689 ⟨Nat.le_trans (by decide) (Nat.le_add_left _ _), Nat.le_trans (by decide) (Nat.le_add_left _ _)⟩ rfl rfl h_a0 (q := (RMo, TMo, 131)) rfl rfl hl.1 rfl (Nat.le_of_ble_eq_true rfl) rfl ⟨Nat.le_refl _, Nat.le_refl _⟩ d_Mo_linkCode_299 (fun r_46 s_47 H locs h hP hD hS => ?_)
                              refine lv_istore (lv' := [(6, .int r_46), (5, .int z0j295), (0, .ref (ad a0)), (1, .int x1j295), (3, .int x3j295), (4, .int x4j295)]) G.1 G.2.1 d_Mo_linkCode_302 hl (by decide) rfl (fun ls hl => ?_)
                              unfold wl_Mo_linkCode_304 at h
                              obtain ⟨I_304, μ_304, hI_304, hB_304⟩ := h
                              have L_304 : ∀ (n_304 : Nat) (s_h304 : St) (x1h304 : Int32) (x3h304 : Int32) (x4h304 : Int32) (x5h304 : Int32) (x6h304 : Int32), μ_304 s_h304 x1h304 x3h304 x4h304 x5h304 x6h304 < n_304 → I_304 s_h304 x1h304 x3h304 x4h304 x5h304 x6h304 → ∀ (H : Heap) (locs : List Loc), va_P D CL (ws g ad y s_h304) H → va_D A (ws g ad y s_h304) → va_S A s.heap H locs → ∀ ls, lv_has ls 8 [(0, .ref (ad a0)), (1, .int x1h304), (3, .int x3h304), (4, .int x4h304), (5, .int x5h304), (6, .int x6h304)] → W p l e (rf_Mo_linkCode rr) s m args below meth c H locs 0 0 Q (F0 m 304 ls []) := by
                                intro n_304
                                induction n_304 with
                                | zero => intro s_h304 x1h304 x3h304 x4h304 x5h304 x6h304 hμ; exact absurd hμ (Nat.not_lt_zero _)
                                | succ n_304 ih_304 =>
                                  intro s_h304 x1h304 x3h304 x4h304 x5h304 x6h304 hμ_304 hJ H locs hP hD hS ls hl
                                  obtain ⟨K_304, hK_304, h⟩ : ∃ K : St → Int32 → Int32 → Int32 → Int32 → Int32 → Prop, (∀ z (t0 : Int32) (t1 : Int32) (t2 : Int32) (t3 : Int32) (t4 : Int32), K z t0 t1 t2 t3 t4 → I_304 z t0 t1 t2 t3 t4 ∧ μ_304 z t0 t1 t2 t3 t4 < μ_304 s_h304 x1h304 x3h304 x4h304 x5h304 x6h304) ∧ wb_Mo_linkCode_304 rec y Post K_220 K a0 s_h304 x1h304 x3h304 x4h304 x5h304 x6h304 := ⟨_, fun _ _ _ _ _ _ h => h, hB_304 s_h304 x1h304 x3h304 x4h304 x5h304 x6h304 hJ⟩
                                  unfold wb_Mo_linkCode_304 at h
                                  refine lv_iload G.1 G.2.1 d_Mo_linkCode_304 (lv_at hl 4 rfl) ?_
                                  have J_387 : ∀ (s_j387 : St) (x1j387 : Int32) (x3j387 : Int32) (H : Heap) (locs : List Loc), wj_Mo_linkCode_387 rec y Post K_220 a0 s_j387 x1j387 x3j387 → va_P D CL (ws g ad y s_j387) H → va_D A (ws g ad y s_j387) → va_S A s.heap H locs → ∀ ls, lv_has ls 8 [(0, .ref (ad a0)), (1, .int x1j387), (3, .int x3j387)] → W p l e (rf_Mo_linkCode rr) s m args below meth c H locs 0 0 Q (F0 m 387 ls []) := by
                                    intro s_j387 x1j387 x3j387 H locs h hP hD hS ls hl
                                    unfold wj_Mo_linkCode_387 at h
                                    refine lv_iinc (v := x3j387 + 1) (lv' := [(3, .int (x3j387 + 1)), (0, .ref (ad a0)), (1, .int x1j387)]) G.1 G.2.1 d_Mo_linkCode_387 hl (k := 2) rfl rfl (by decide) rfl (fun ls hl => ?_)
                                    refine lv_goto (tgt := 220) G.1 G.2.1 d_Mo_linkCode_390 (by decide) ?_
                                    have h := hK_220 s_j387 x1j387 (x3j387 + 1) h
                                    exact ih_220 s_j387 x1j387 (x3j387 + 1) (Nat.lt_of_lt_of_le h.2 (Nat.le_of_lt_succ hμ_220)) h.1 H locs hP hD hS ls (lv_sub hl [1, 2, 0] rfl)
                                  refine lv_if_eq (tgt := 387) G.1 G.2.1 d_Mo_linkCode_306 (by decide) (fun c306 => ?_) (fun c306 => ?_)
                                  · skip
                                    have h := h.1 c306
                                    exact J_387 s_h304 x1h304 x3h304 H locs h hP hD hS ls (lv_sub hl [0, 1, 2] rfl)
                                  · skip
                                    have h := h.2 c306
                                    refine lv_aload_n G.1 G.2.1 d_Mo_linkCode_309 rfl (lv_at hl 0 rfl) ?_
                                    refine lv_iconst (v := 4) G.1 G.2.1 d_Mo_linkCode_310 (by decide) ?_
                                    refine ucVi (As := [.int 4]) (rest := []) G hP hD hS (cu_Mo_isOff l D g ad y _ s_h304 a0 4 H.size h_a0 h) w9_Mo_isOff q3579 ⟨Nat.le_trans (by decide) (Nat.le_add_left _ _), Nat.le_trans (by decide) (Nat.le_add_left _ _)⟩ rfl rfl h_a0 (q := (RMo, TMo, 131)) rfl rfl hl.1 rfl (Nat.le_of_ble_eq_true rfl) rfl ⟨Nat.le_refl _, Nat.le_refl _⟩ d_Mo_linkCode_311 (fun r_48 s_49 H locs h hP hD hS => ?_)
                                    refine lv_if_ne (tgt := 387) G.1 G.2.1 d_Mo_linkCode_314 (by decide) (fun c314 => ?_) (fun c314 => ?_)
                                    · skip
                                      have h := h.1 c314
                                      exact J_387 s_49 x1h304 x3h304 H locs h hP hD hS ls (lv_sub hl [0, 1, 2] rfl)
                                    · skip
                                      have h := h.2 c314
                                      refine lv_iload G.1 G.2.1 d_Mo_linkCode_317 (lv_at hl 5 rfl) ?_
                                      refine lv_if_lt (tgt := 387) G.1 G.2.1 d_Mo_linkCode_319 (by decide) (fun c319 => ?_) (fun c319 => ?_)
                                      · skip
                                        have h := h.1 c319
                                        exact J_387 s_49 x1h304 x3h304 H locs h hP hD hS ls (lv_sub hl [0, 1, 2] rfl)
                                      · skip
                                        have h := h.2 c319
                                        refine lv_aload_n G.1 G.2.1 d_Mo_linkCode_322 rfl (lv_at hl 0 rfl) ?_
                                        refine lv_iload G.1 G.2.1 d_Mo_linkCode_323 (lv_at hl 5 rfl) ?_
                                        refine lv_aload_n G.1 G.2.1 d_Mo_linkCode_325 rfl (lv_at hl 0 rfl) ?_
                                        refine W.eq (g2 := F0 m 326 ls [.ref (ad a0), .int x6h304, .ref (ad a0)]) rfl ?_
                                        obtain ⟨b_50, e_51, c_52, h⟩ := h
                                        refine ugf (v := .ref (ad b_50)) G hP h_a0 iMo rfl 45 (by decide) rfl q3109 rfl (by show va_rf ((sO s_49 a0 45).map ad) = _; rw [e_51]; rfl) d_Mo_linkCode_326 ?_
                                        refine ugfN (v := .ref (yP y b_50 18)) G hP c_52 iMw rfl 18 (by decide) rfl q2740 rfl rfl d_Mo_linkCode_329 ?_
                                        refine lv_iload G.1 G.2.1 d_Mo_linkCode_332 (lv_at hl 3 rfl) ?_
                                        refine uiald G hP (kdp c_52 rfl) (typ c_52 rfl) h d_Mo_linkCode_334 (fun x_53 h => ?_)
                                        refine lv_aload_n G.1 G.2.1 d_Mo_linkCode_335 rfl (lv_at hl 0 rfl) ?_
                                        refine ugf (v := .ref (ad b_50)) G hP h_a0 iMo rfl 45 (by decide) rfl q3109 rfl (by show va_rf ((sO s_49 a0 45).map ad) = _; rw [e_51]; rfl) d_Mo_linkCode_336 ?_
                                        refine ugfN (v := .ref (yP y b_50 19)) G hP c_52 iMw rfl 19 (by decide) rfl q2742 rfl rfl d_Mo_linkCode_339 ?_
                                        refine lv_iload G.1 G.2.1 d_Mo_linkCode_342 (lv_at hl 3 rfl) ?_
                                        refine uiald G hP (kdp c_52 rfl) (typ c_52 rfl) h d_Mo_linkCode_344 (fun x_54 h => ?_)
                                        refine ucVi (As := [.int x6h304, .int x_53, .int x_54]) (rest := []) G hP hD hS (cu_Mo_methodIn l D g ad y _ s_49 a0 x6h304 x_53 x_54 H.size h_a0 h) w9_Mo_methodIn q3697 ⟨Nat.le_trans (by decide) (Nat.le_add_left _ _), Nat.le_trans (by decide) (Nat.le_add_left _ _)⟩ rfl rfl h_a0 (q := (RMo, TMo, 131)) rfl rfl hl.1 rfl (Nat.le_of_ble_eq_true rfl) rfl ⟨Nat.le_refl _, Nat.le_refl _⟩ d_Mo_linkCode_345 (fun r_55 s_56 H locs h hP hD hS => ?_)
                                        refine lv_istore (lv' := [(7, .int r_55), (0, .ref (ad a0)), (1, .int x1h304), (3, .int x3h304), (4, .int x4h304), (5, .int x5h304), (6, .int x6h304)]) G.1 G.2.1 d_Mo_linkCode_348 hl (by decide) rfl (fun ls hl => ?_)
                                        refine lv_iload G.1 G.2.1 d_Mo_linkCode_350 (lv_at hl 0 rfl) ?_
                                        have J_376 : ∀ (s_j376 : St) (x1j376 : Int32) (x3j376 : Int32) (x4j376 : Int32) (x5j376 : Int32) (x6j376 : Int32) (H : Heap) (locs : List Loc), wj_Mo_linkCode_376 rec y Post K_220 K_304 a0 s_j376 x1j376 x3j376 x4j376 x5j376 x6j376 → va_P D CL (ws g ad y s_j376) H → va_D A (ws g ad y s_j376) → va_S A s.heap H locs → ∀ ls, lv_has ls 8 [(0, .ref (ad a0)), (1, .int x1j376), (3, .int x3j376), (4, .int x4j376), (5, .int x5j376), (6, .int x6j376)] → W p l e (rf_Mo_linkCode rr) s m args below meth c H locs 0 0 Q (F0 m 376 ls []) := by
                                          intro s_j376 x1j376 x3j376 x4j376 x5j376 x6j376 H locs h hP hD hS ls hl
                                          unfold wj_Mo_linkCode_376 at h
                                          refine lv_aload_n G.1 G.2.1 d_Mo_linkCode_376 rfl (lv_at hl 0 rfl) ?_
                                          refine lv_iload G.1 G.2.1 d_Mo_linkCode_377 (lv_at hl 5 rfl) ?_
                                          refine ucVi (As := [.int x6j376]) (rest := []) G hP hD hS (cu_Mo_parentOf l D g ad y _ s_j376 a0 x6j376 H.size h_a0 h) w9_Mo_parentOf q3689 ⟨Nat.le_trans (by decide) (Nat.le_add_left _ _), Nat.le_trans (by decide) (Nat.le_add_left _ _)⟩ rfl rfl h_a0 (q := (RMo, TMo, 131)) rfl rfl hl.1 rfl (Nat.le_of_ble_eq_true rfl) rfl ⟨Nat.le_refl _, Nat.le_refl _⟩ d_Mo_linkCode_379 (fun r_57 s_58 H locs h hP hD hS => ?_)
                                          refine lv_istore (lv' := [(6, .int r_57), (0, .ref (ad a0)), (1, .int x1j376), (3, .int x3j376), (4, .int x4j376), (5, .int x5j376)]) G.1 G.2.1 d_Mo_linkCode_382 hl (by decide) rfl (fun ls hl => ?_)
                                          refine lv_goto (tgt := 304) G.1 G.2.1 d_Mo_linkCode_384 (by decide) ?_
                                          have h := hK_304 s_58 x1j376 x3j376 x4j376 x5j376 r_57 h
                                          exact ih_304 s_58 x1j376 x3j376 x4j376 x5j376 r_57 (Nat.lt_of_lt_of_le h.2 (Nat.le_of_lt_succ hμ_304)) h.1 H locs hP hD hS ls (lv_sub hl [1, 2, 3, 4, 5, 0] rfl)
                                        refine W.eq (g2 := F0 m 352 ls [.int r_55]) rfl ?_
                                        refine lv_if_lt (tgt := 376) G.1 G.2.1 d_Mo_linkCode_352 (by decide) (fun c352 => ?_) (fun c352 => ?_)
                                        · skip
                                          have h := h.1 c352
                                          exact J_376 s_56 x1h304 x3h304 x4h304 x5h304 x6h304 H locs h hP hD hS ls (lv_sub hl [1, 2, 3, 4, 5, 6] rfl)
                                        · skip
                                          have h := h.2 c352
                                          refine lv_aload_n G.1 G.2.1 d_Mo_linkCode_355 rfl (lv_at hl 1 rfl) ?_
                                          obtain ⟨b_59, e_60, c_61, h⟩ := h
                                          refine ugf (v := .ref (ad b_59)) G hP h_a0 iMo rfl 45 (by decide) rfl q3109 rfl (by show va_rf ((sO s_56 a0 45).map ad) = _; rw [e_60]; rfl) d_Mo_linkCode_356 ?_
                                          refine ugfN (v := .ref (yP y b_59 20)) G hP c_61 iMw rfl 20 (by decide) rfl q2744 rfl rfl d_Mo_linkCode_359 ?_
                                          refine lv_iload G.1 G.2.1 d_Mo_linkCode_362 (lv_at hl 0 rfl) ?_
                                          refine uiald G hP (kdp c_61 rfl) (typ c_61 rfl) h d_Mo_linkCode_364 (fun x_62 h => ?_)
                                          refine lv_bipush (v := 7) G.1 G.2.1 d_Mo_linkCode_365 (by decide) ?_
                                          refine lv_iand G.1 G.2.1 d_Mo_linkCode_367 ?_
                                          refine lv_iconst (v := 2) G.1 G.2.1 d_Mo_linkCode_368 (by decide) ?_
                                          refine lv_icmp_ne (tgt := 376) G.1 G.2.1 d_Mo_linkCode_369 (by decide) (fun c369 => ?_) (fun c369 => ?_)
                                          · skip
                                            have h := h.1 c369
                                            exact J_376 s_56 x1h304 x3h304 x4h304 x5h304 x6h304 H locs h hP hD hS ls (lv_sub hl [1, 2, 3, 4, 5, 6] rfl)
                                          · skip
                                            have h := h.2 c369
                                            refine lv_sipush (v := 2515) G.1 G.2.1 d_Mo_linkCode_372 (by decide) ?_
                                            exact hret _ _ _ _ _ _ _ ls h hP hD hS (Nat.le_refl _) (Nat.le_refl _) d_Mo_linkCode_375
                              exact L_304 _ s_47 x1j295 x3j295 x4j295 z0j295 r_46 (Nat.lt_succ_self _) hI_304 H locs hP hD hS ls (lv_sub hl [2, 3, 4, 5, 1, 0] rfl)
                            have J_294 : ∀ (s_j294 : St) (x1j294 : Int32) (x3j294 : Int32) (x4j294 : Int32) (H : Heap) (locs : List Loc), wj_Mo_linkCode_294 rec y Post K_220 a0 s_j294 x1j294 x3j294 x4j294 → va_P D CL (ws g ad y s_j294) H → va_D A (ws g ad y s_j294) → va_S A s.heap H locs → ∀ ls, lv_has ls 8 [(0, .ref (ad a0)), (1, .int x1j294), (3, .int x3j294), (4, .int x4j294)] → W p l e (rf_Mo_linkCode rr) s m args below meth c H locs 0 0 Q (F0 m 294 ls []) := by
                              intro s_j294 x1j294 x3j294 x4j294 H locs h hP hD hS ls hl
                              unfold wj_Mo_linkCode_294 at h
                              refine lv_iconst (v := 0) G.1 G.2.1 d_Mo_linkCode_294 (by decide) ?_
                              exact J_295 s_j294 x1j294 x3j294 x4j294 0 H locs h hP hD hS ls (lv_sub hl [0, 1, 2, 3] rfl)
                            refine lv_icmp_eq (tgt := 294) G.1 G.2.1 d_Mo_linkCode_255 (by decide) (fun c255 => ?_) (fun c255 => ?_)
                            · skip
                              have h := h.1 c255
                              exact J_294 s_h220 x1h220 x3h220 ((12 * x1h220) + x3h220) H locs h hP hD hS ls (lv_sub hl [1, 2, 3, 0] rfl)
                            · skip
                              have h := h.2 c255
                              refine lv_aload_n G.1 G.2.1 d_Mo_linkCode_258 rfl (lv_at hl 1 rfl) ?_
                              refine ugf (v := .ref (ad b_23)) G hP h_a0 iMo rfl 45 (by decide) rfl q3109 rfl (by show va_rf ((sO s_h220 a0 45).map ad) = _; rw [e_24]; rfl) d_Mo_linkCode_259 ?_
                              refine W.eq (g2 := F0 m 262 ls [.ref (ad b_23)]) rfl ?_
                              refine ugfN (v := .ref (yP y b_23 18)) G hP c_25 iMw rfl 18 (by decide) rfl q2740 rfl rfl d_Mo_linkCode_262 ?_
                              refine lv_iload G.1 G.2.1 d_Mo_linkCode_265 (lv_at hl 0 rfl) ?_
                              refine uiald G hP (kdp c_25 rfl) (typ c_25 rfl) h d_Mo_linkCode_267 (fun x_63 h => ?_)
                              refine lv_aload_n G.1 G.2.1 d_Mo_linkCode_268 rfl (lv_at hl 1 rfl) ?_
                              refine ugf (v := .int (sV s_h220 a0 7)) G hP h_a0 iMo rfl 7 (by decide) rfl q3071 rfl rfl d_Mo_linkCode_269 ?_
                              refine lv_icmp_eq (tgt := 294) G.1 G.2.1 d_Mo_linkCode_272 (by decide) (fun c272 => ?_) (fun c272 => ?_)
                              · skip
                                have h := h.1 c272
                                exact J_294 s_h220 x1h220 x3h220 ((12 * x1h220) + x3h220) H locs h hP hD hS ls (lv_sub hl [1, 2, 3, 0] rfl)
                              · skip
                                have h := h.2 c272
                                refine lv_aload_n G.1 G.2.1 d_Mo_linkCode_275 rfl (lv_at hl 1 rfl) ?_
                                refine ugf (v := .ref (ad b_23)) G hP h_a0 iMo rfl 45 (by decide) rfl q3109 rfl (by show va_rf ((sO s_h220 a0 45).map ad) = _; rw [e_24]; rfl) d_Mo_linkCode_276 ?_
                                refine ugfN (v := .ref (yP y b_23 20)) G hP c_25 iMw rfl 20 (by decide) rfl q2744 rfl rfl d_Mo_linkCode_279 ?_
                                refine lv_iload G.1 G.2.1 d_Mo_linkCode_282 (lv_at hl 0 rfl) ?_
                                refine uiald G hP (kdp c_25 rfl) (typ c_25 rfl) h d_Mo_linkCode_284 (fun x_64 h => ?_)
                                refine lv_iconst (v := 5) G.1 G.2.1 d_Mo_linkCode_285 (by decide) ?_
                                refine W.eq (g2 := F0 m 286 ls [.int 5, .int x_64]) rfl ?_
                                refine lv_iand G.1 G.2.1 d_Mo_linkCode_286 ?_
                                refine lv_if_ne (tgt := 294) G.1 G.2.1 d_Mo_linkCode_287 (by decide) (fun c287 => ?_) (fun c287 => ?_)
                                · skip
                                  have h := h.1 c287
                                  exact J_294 s_h220 x1h220 x3h220 ((12 * x1h220) + x3h220) H locs h hP hD hS ls (lv_sub hl [1, 2, 3, 0] rfl)
                                · skip
                                  have h := h.2 c287
                                  refine lv_iconst (v := 1) G.1 G.2.1 d_Mo_linkCode_290 (by decide) ?_
                                  refine lv_goto (tgt := 295) G.1 G.2.1 d_Mo_linkCode_291 (by decide) ?_
                                  exact J_295 s_h220 x1h220 x3h220 ((12 * x1h220) + x3h220) 1 H locs h hP hD hS ls (lv_sub hl [1, 2, 3, 0] rfl)
                      exact L_220 _ s_h160 x1h160 0 (Nat.lt_succ_self _) hI_220 H locs hP hD hS ls (lv_sub hl [1, 2, 0] rfl)
                    · skip
                      have h := h.2 c170
                      refine lv_aload_n G.1 G.2.1 d_Mo_linkCode_173 rfl (lv_at hl 0 rfl) ?_
                      refine lv_aload_n G.1 G.2.1 d_Mo_linkCode_174 rfl (lv_at hl 0 rfl) ?_
                      refine ugf (v := .ref (ad b_19)) G hP h_a0 iMo rfl 45 (by decide) rfl q3109 rfl (by show va_rf ((sO s_h160 a0 45).map ad) = _; rw [e_20]; rfl) d_Mo_linkCode_175 ?_
                      refine ugfN (v := .ref (yP y b_19 6)) G hP c_21 iMw rfl 6 (by decide) rfl q2716 rfl rfl d_Mo_linkCode_178 ?_
                      refine W.eq (g2 := F0 m 181 ls [.ref (yP y b_19 6), .ref (ad a0)]) rfl ?_
                      refine lv_iconst (v := 4) G.1 G.2.1 d_Mo_linkCode_181 (by decide) ?_
                      refine lv_iload_n G.1 G.2.1 d_Mo_linkCode_182 rfl (lv_at hl 1 rfl) ?_
                      refine lv_imul G.1 G.2.1 d_Mo_linkCode_183 ?_
                      refine lv_iload_n G.1 G.2.1 d_Mo_linkCode_184 rfl (lv_at hl 2 rfl) ?_
                      refine lv_iadd G.1 G.2.1 d_Mo_linkCode_185 ?_
                      refine uiald G hP (kdp c_21 rfl) (typ c_21 rfl) h d_Mo_linkCode_186 (fun x_65 h => ?_)
                      refine ucVi (As := [.int x_65]) (rest := []) G hP hD hS (cu_Mo_classOf l D g ad y _ s_h160 a0 x_65 H.size h_a0 h) w9_Mo_classOf q3571 ⟨Nat.le_trans (by decide) (Nat.le_add_left _ _), Nat.le_trans (by decide) (Nat.le_add_left _ _)⟩ rfl rfl h_a0 (q := (RMo, TMo, 131)) rfl rfl hl.1 rfl (Nat.le_of_ble_eq_true rfl) rfl ⟨Nat.le_refl _, Nat.le_refl _⟩ d_Mo_linkCode_187 (fun r_66 s_67 H locs h hP hD hS => ?_)
                      refine lv_istore (lv' := [(4, .int r_66), (0, .ref (ad a0)), (1, .int x1h160), (3, .int x3h160)]) G.1 G.2.1 d_Mo_linkCode_190 hl (by decide) rfl (fun ls hl => ?_)
                      refine lv_aload_n G.1 G.2.1 d_Mo_linkCode_192 rfl (lv_at hl 1 rfl) ?_
                      refine lv_iload G.1 G.2.1 d_Mo_linkCode_193 (lv_at hl 0 rfl) ?_
                      refine ucVi (As := [.int r_66]) (rest := []) G hP hD hS (hrec y _ s_67 a0 r_66 H.size h_a0 h) w9_Mo_isLinked q3677 ⟨by show rr.frames + 1 ≤ rr.frames + _; omega, by show 8 + (3 + 11) + rr.locals ≤ rr.locals + _; omega⟩ hrr.1 hrr.2 h_a0 (q := (RMo, TMo, 131)) rfl rfl hl.1 rfl (Nat.le_of_ble_eq_true rfl) rfl ⟨Nat.le_refl _, Nat.le_refl _⟩ d_Mo_linkCode_195 (fun r_68 s_69 H locs h hP hD hS => ?_)
                      refine lv_if_ne (tgt := 212) G.1 G.2.1 d_Mo_linkCode_198 (by decide) (fun c198 => ?_) (fun c198 => ?_)
                      · skip
                        have h := h.1 c198
                        refine W.eq (g2 := F0 m 212 ls []) rfl ?_
                        refine lv_iinc (v := x3h160 + 1) (lv' := [(3, .int (x3h160 + 1)), (4, .int r_66), (0, .ref (ad a0)), (1, .int x1h160)]) G.1 G.2.1 d_Mo_linkCode_212 hl (k := 3) rfl rfl (by decide) rfl (fun ls hl => ?_)
                        refine lv_goto (tgt := 160) G.1 G.2.1 d_Mo_linkCode_215 (by decide) ?_
                        have h := hK_160 s_69 x1h160 (x3h160 + 1) h
                        exact ih_160 s_69 x1h160 (x3h160 + 1) (Nat.lt_of_lt_of_le h.2 (Nat.le_of_lt_succ hμ_160)) h.1 H locs hP hD hS ls (lv_sub hl [2, 3, 0] rfl)
                      · skip
                        have h := h.2 c198
                        refine W.eq (g2 := F0 m 201 ls []) rfl ?_
                        refine lv_aload_n G.1 G.2.1 d_Mo_linkCode_201 rfl (lv_at hl 1 rfl) ?_
                        obtain ⟨b_70, e_71, c_72, h⟩ := h
                        refine ugf (v := .ref (ad b_70)) G hP h_a0 iMo rfl 45 (by decide) rfl q3109 rfl (by show va_rf ((sO s_69 a0 45).map ad) = _; rw [e_71]; rfl) d_Mo_linkCode_202 ?_
                        refine ugfN (v := .ref (yP y b_70 11)) G hP c_72 iMw rfl 11 (by decide) rfl q2726 rfl rfl d_Mo_linkCode_205 ?_
                        refine lv_iload G.1 G.2.1 d_Mo_linkCode_208 (lv_at hl 0 rfl) ?_
                        refine uiald G hP (kdp c_72 rfl) (typ c_72 rfl) h d_Mo_linkCode_210 (fun x_73 h => ?_)
                        exact hret _ _ _ _ _ _ _ ls h hP hD hS (Nat.le_refl _) (Nat.le_refl _) d_Mo_linkCode_211
                exact L_160 _ s_18 x1h74 0 (Nat.lt_succ_self _) hI_160 H locs hP hD hS ls (lv_sub hl [1, 2, 0] rfl)
              · skip
                have h := h.2 c145
                refine W.eq (g2 := F0 m 148 ls []) rfl ?_
                refine lv_aload_n G.1 G.2.1 d_Mo_linkCode_148 rfl (lv_at hl 0 rfl) ?_
                obtain ⟨b_74, e_75, c_76, h⟩ := h
                refine ugf (v := .ref (ad b_74)) G hP h_a0 iMo rfl 45 (by decide) rfl q3109 rfl (by show va_rf ((sO s_18 a0 45).map ad) = _; rw [e_75]; rfl) d_Mo_linkCode_149 ?_
                refine ugfN (v := .ref (yP y b_74 11)) G hP c_76 iMw rfl 11 (by decide) rfl q2726 rfl rfl d_Mo_linkCode_152 ?_
                refine lv_iload_n G.1 G.2.1 d_Mo_linkCode_155 rfl (lv_at hl 2 rfl) ?_
                refine uiald G hP (kdp c_76 rfl) (typ c_76 rfl) h d_Mo_linkCode_156 (fun x_77 h => ?_)
                exact hret _ _ _ _ _ _ _ ls h hP hD hS (Nat.le_refl _) (Nat.le_refl _) d_Mo_linkCode_157
            · skip
              have h := h.2 c84
              refine lv_aload_n G.1 G.2.1 d_Mo_linkCode_87 rfl (lv_at hl 0 rfl) ?_
              refine lv_aload_n G.1 G.2.1 d_Mo_linkCode_88 rfl (lv_at hl 0 rfl) ?_
              refine ugf (v := .ref (ad b_13)) G hP h_a0 iMo rfl 45 (by decide) rfl q3109 rfl (by show va_rf ((sO s_h74 a0 45).map ad) = _; rw [e_14]; rfl) d_Mo_linkCode_89 ?_
              refine ugfN (v := .ref (yP y b_13 6)) G hP c_15 iMw rfl 6 (by decide) rfl q2716 rfl rfl d_Mo_linkCode_92 ?_
              refine W.eq (g2 := F0 m 95 ls [.ref (yP y b_13 6), .ref (ad a0)]) rfl ?_
              refine lv_iconst (v := 4) G.1 G.2.1 d_Mo_linkCode_95 (by decide) ?_
              refine lv_iload_n G.1 G.2.1 d_Mo_linkCode_96 rfl (lv_at hl 1 rfl) ?_
              refine lv_imul G.1 G.2.1 d_Mo_linkCode_97 ?_
              refine lv_iload_n G.1 G.2.1 d_Mo_linkCode_98 rfl (lv_at hl 3 rfl) ?_
              refine lv_iadd G.1 G.2.1 d_Mo_linkCode_99 ?_
              refine uiald G hP (kdp c_15 rfl) (typ c_15 rfl) h d_Mo_linkCode_100 (fun x_78 h => ?_)
              refine ucVi (As := [.int x_78]) (rest := []) G hP hD hS (cu_Mo_classOf l D g ad y _ s_h74 a0 x_78 H.size h_a0 h) w9_Mo_classOf q3571 ⟨Nat.le_trans (by decide) (Nat.le_add_left _ _), Nat.le_trans (by decide) (Nat.le_add_left _ _)⟩ rfl rfl h_a0 (q := (RMo, TMo, 131)) rfl rfl hl.1 rfl (Nat.le_of_ble_eq_true rfl) rfl ⟨Nat.le_refl _, Nat.le_refl _⟩ d_Mo_linkCode_101 (fun r_79 s_80 H locs h hP hD hS => ?_)
              refine lv_istore (lv' := [(4, .int r_79), (0, .ref (ad a0)), (1, .int x1h74), (2, .int x2h74), (3, .int x3h74)]) G.1 G.2.1 d_Mo_linkCode_104 hl (by decide) rfl (fun ls hl => ?_)
              refine lv_iload G.1 G.2.1 d_Mo_linkCode_106 (lv_at hl 0 rfl) ?_
              refine lv_if_ge (tgt := 115) G.1 G.2.1 d_Mo_linkCode_108 (by decide) (fun c108 => ?_) (fun c108 => ?_)
              · skip
                have h := h.1 c108
                refine lv_aload_n G.1 G.2.1 d_Mo_linkCode_115 rfl (lv_at hl 1 rfl) ?_
                obtain ⟨b_81, e_82, c_83, h⟩ := h
                refine ugf (v := .ref (ad b_81)) G hP h_a0 iMo rfl 45 (by decide) rfl q3109 rfl (by show va_rf ((sO s_80 a0 45).map ad) = _; rw [e_82]; rfl) d_Mo_linkCode_116 ?_
                refine W.eq (g2 := F0 m 119 ls [.ref (ad b_81)]) rfl ?_
                refine ugfN (v := .ref (yP y b_81 5)) G hP c_83 iMw rfl 5 (by decide) rfl q2714 rfl rfl d_Mo_linkCode_119 ?_
                refine lv_iload G.1 G.2.1 d_Mo_linkCode_122 (lv_at hl 0 rfl) ?_
                refine uiald G hP (kdp c_83 rfl) (typ c_83 rfl) h d_Mo_linkCode_124 (fun x_84 h => ?_)
                refine lv_iconst (v := 4) G.1 G.2.1 d_Mo_linkCode_125 (by decide) ?_
                refine lv_iand G.1 G.2.1 d_Mo_linkCode_126 ?_
                refine lv_if_ne (tgt := 134) G.1 G.2.1 d_Mo_linkCode_127 (by decide) (fun c127 => ?_) (fun c127 => ?_)
                · skip
                  have h := h.1 c127
                  refine lv_iinc (v := x3h74 + 1) (lv' := [(3, .int (x3h74 + 1)), (4, .int r_79), (0, .ref (ad a0)), (1, .int x1h74), (2, .int x2h74)]) G.1 G.2.1 d_Mo_linkCode_134 hl (k := 4) rfl rfl (by decide) rfl (fun ls hl => ?_)
                  refine lv_goto (tgt := 74) G.1 G.2.1 d_Mo_linkCode_137 (by decide) ?_
                  have h := hK_74 s_80 x1h74 x2h74 (x3h74 + 1) h
                  exact ih_74 s_80 x1h74 x2h74 (x3h74 + 1) (Nat.lt_of_lt_of_le h.2 (Nat.le_of_lt_succ hμ_74)) h.1 H locs hP hD hS ls (lv_sub hl [2, 3, 4, 0] rfl)
                · skip
                  have h := h.2 c127
                  refine lv_sipush (v := 2315) G.1 G.2.1 d_Mo_linkCode_130 (by decide) ?_
                  exact hret _ _ _ _ _ _ _ ls h hP hD hS (Nat.le_refl _) (Nat.le_refl _) d_Mo_linkCode_133
              · skip
                have h := h.2 c108
                refine lv_sipush (v := 2211) G.1 G.2.1 d_Mo_linkCode_111 (by decide) ?_
                exact hret _ _ _ _ _ _ _ ls h hP hD hS (Nat.le_refl _) (Nat.le_refl _) d_Mo_linkCode_114
        exact L_74 _ s_j72 x1j72 x2j72 0 (Nat.lt_succ_self _) hI_74 H locs hP hD hS ls (lv_sub hl [1, 2, 3, 0] rfl)
      refine lv_if_ne (tgt := 72) G.1 G.2.1 d_Mo_linkCode_51 (by decide) (fun c51 => ?_) (fun c51 => ?_)
      · skip
        have h := h.1 c51
        exact J_72 s_12 v1 r_9 H locs h hP hD hS ls (lv_sub hl [1, 2, 0] rfl)
      · skip
        have h := h.2 c51
        refine lv_aload_n G.1 G.2.1 d_Mo_linkCode_54 rfl (lv_at hl 1 rfl) ?_
        obtain ⟨b_85, e_86, c_87, h⟩ := h
        refine ugf (v := .ref (ad b_85)) G hP h_a0 iMo rfl 45 (by decide) rfl q3109 rfl (by show va_rf ((sO s_12 a0 45).map ad) = _; rw [e_86]; rfl) d_Mo_linkCode_55 ?_
        refine ugfN (v := .ref (yP y b_85 5)) G hP c_87 iMw rfl 5 (by decide) rfl q2714 rfl rfl d_Mo_linkCode_58 ?_
        refine lv_iload_n G.1 G.2.1 d_Mo_linkCode_61 rfl (lv_at hl 0 rfl) ?_
        refine uiald G hP (kdp c_87 rfl) (typ c_87 rfl) h d_Mo_linkCode_62 (fun x_88 h => ?_)
        refine lv_iconst (v := 5) G.1 G.2.1 d_Mo_linkCode_63 (by decide) ?_
        refine lv_iand G.1 G.2.1 d_Mo_linkCode_64 ?_
        refine W.eq (g2 := F0 m 65 ls [.int (x_88 &&& 5)]) rfl ?_
        refine lv_if_eq (tgt := 72) G.1 G.2.1 d_Mo_linkCode_65 (by decide) (fun c65 => ?_) (fun c65 => ?_)
        · skip
          have h := h.1 c65
          exact J_72 s_12 v1 r_9 H locs h hP hD hS ls (lv_sub hl [1, 2, 0] rfl)
        · skip
          have h := h.2 c65
          refine lv_sipush (v := 2115) G.1 G.2.1 d_Mo_linkCode_68 (by decide) ?_
          exact hret _ _ _ _ _ _ _ ls h hP hD hS (Nat.le_refl _) (Nat.le_refl _) d_Mo_linkCode_71
    · skip
      have h := h.2 c39
      refine lv_sipush (v := 2011) G.1 G.2.1 d_Mo_linkCode_42 (by decide) ?_
      exact hret _ _ _ _ _ _ _ ls h hP hD hS (Nat.le_refl _) (Nat.le_refl _) d_Mo_linkCode_45
  · skip
    have h := h.2 c17
    refine lv_sipush (v := 2416) G.1 G.2.1 d_Mo_linkCode_20 (by decide) ?_
    exact hret _ _ _ _ _ _ _ ls h hP hD hS (Nat.le_refl _) (Nat.le_refl _) d_Mo_linkCode_23
theorem q3681 : Cond.methodLink "ClassWorksModel" 746 y_Mo_linkCode ∈ lw_ok := lw_okmem (List.mem_of_getElem? (i := 3681) (by decide +kernel)) rfl
set_option maxRecDepth 100000 in
theorem q3684 : Cond.code y_Mo_linkCode b_Mo_linkCode 8 (some .int) ∈ lw_ok := lw_okmem (List.mem_of_getElem? (i := 3684) (by rfl)) rfl
theorem q3683 : Cond.instanceMethod y_Mo_linkCode ∈ lw_ok := lw_okmem (List.mem_of_getElem? (i := 3683) (by decide +kernel)) rfl
theorem q217 : Cond.selects y_Mo_linkCode.cls y_Mo_linkCode y_Mo_linkCode ∈ lw_ok := lw_okmem (List.mem_of_getElem? (i := 217) (by decide +kernel)) rfl
theorem w9_Mo_linkCode : CWv y_Mo_linkCode b_Mo_linkCode 8 (some .int) 1 ∧ Cond.instanceMethod y_Mo_linkCode ∈ lw_ok ∧ Cond.selects y_Mo_linkCode.cls y_Mo_linkCode y_Mo_linkCode ∈ lw_ok := ⟨⟨q3684, q348, by decide +kernel, by decide +kernel, by decide +kernel⟩, q3683, q217⟩
theorem d_Mo_isLinked_0 : decode b_Mo_isLinked 0 = .ok (.aload_n 0, 1) := by decide +kernel
theorem d_Mo_isLinked_1 : decode b_Mo_isLinked 1 = .ok (.getfield 522, 3) := by decide +kernel
theorem d_Mo_isLinked_4 : decode b_Mo_isLinked 4 = .ok (.getfield 444, 3) := by decide +kernel
theorem d_Mo_isLinked_7 : decode b_Mo_isLinked 7 = .ok (.iload_n 1, 1) := by decide +kernel
theorem d_Mo_isLinked_8 : decode b_Mo_isLinked 8 = .ok (.iaload, 1) := by decide +kernel
theorem d_Mo_isLinked_9 : decode b_Mo_isLinked 9 = .ok (.ifCond .ne 27, 3) := by decide +kernel
theorem d_Mo_isLinked_12 : decode b_Mo_isLinked 12 = .ok (.aload_n 0, 1) := by decide +kernel
theorem d_Mo_isLinked_13 : decode b_Mo_isLinked 13 = .ok (.iload_n 1, 1) := by decide +kernel
theorem d_Mo_isLinked_14 : decode b_Mo_isLinked 14 = .ok (.invokevirtual 746, 3) := by decide +kernel
theorem d_Mo_isLinked_17 : decode b_Mo_isLinked 17 = .ok (.istore_n 2, 1) := by decide +kernel
theorem d_Mo_isLinked_18 : decode b_Mo_isLinked 18 = .ok (.aload_n 0, 1) := by decide +kernel
theorem d_Mo_isLinked_19 : decode b_Mo_isLinked 19 = .ok (.getfield 522, 3) := by decide +kernel
theorem d_Mo_isLinked_22 : decode b_Mo_isLinked 22 = .ok (.getfield 444, 3) := by decide +kernel
theorem d_Mo_isLinked_25 : decode b_Mo_isLinked 25 = .ok (.iload_n 1, 1) := by decide +kernel
theorem d_Mo_isLinked_26 : decode b_Mo_isLinked 26 = .ok (.iload_n 2, 1) := by decide +kernel
theorem d_Mo_isLinked_27 : decode b_Mo_isLinked 27 = .ok (.ifCond .ne 7, 3) := by decide +kernel
theorem d_Mo_isLinked_30 : decode b_Mo_isLinked 30 = .ok (.iconst 1, 1) := by decide +kernel
theorem d_Mo_isLinked_31 : decode b_Mo_isLinked 31 = .ok (.goto 4, 3) := by decide +kernel
theorem d_Mo_isLinked_34 : decode b_Mo_isLinked 34 = .ok (.iload_n 2, 1) := by decide +kernel
theorem d_Mo_isLinked_35 : decode b_Mo_isLinked 35 = .ok (.iastore, 1) := by decide +kernel
theorem d_Mo_isLinked_36 : decode b_Mo_isLinked 36 = .ok (.aload_n 0, 1) := by decide +kernel
theorem d_Mo_isLinked_37 : decode b_Mo_isLinked 37 = .ok (.getfield 522, 3) := by decide +kernel
theorem d_Mo_isLinked_40 : decode b_Mo_isLinked 40 = .ok (.getfield 444, 3) := by decide +kernel
theorem d_Mo_isLinked_43 : decode b_Mo_isLinked 43 = .ok (.iload_n 1, 1) := by decide +kernel
theorem d_Mo_isLinked_44 : decode b_Mo_isLinked 44 = .ok (.iaload, 1) := by decide +kernel
theorem d_Mo_isLinked_45 : decode b_Mo_isLinked 45 = .ok (.iconst 1, 1) := by decide +kernel
theorem d_Mo_isLinked_46 : decode b_Mo_isLinked 46 = .ok (.if_icmp .ne 7, 3) := by decide +kernel
theorem d_Mo_isLinked_49 : decode b_Mo_isLinked 49 = .ok (.iconst 1, 1) := by decide +kernel
theorem d_Mo_isLinked_50 : decode b_Mo_isLinked 50 = .ok (.goto 4, 3) := by decide +kernel
theorem d_Mo_isLinked_53 : decode b_Mo_isLinked 53 = .ok (.iconst 0, 1) := by decide +kernel
theorem d_Mo_isLinked_54 : decode b_Mo_isLinked 54 = .ok (.ireturn, 1) := by decide +kernel
abbrev rf_Mo_isLinked (rr : Room) : Room := { frames := rr.frames + 9, cells := 0, slots := 0, locals := rr.locals + 219 }
def wj_Mo_isLinked_54 (rec : Ly → (St → Int32 → Prop) → St → Nat → Int32 → Prop) (y : Ly) (Post : St → Int32 → Prop) (a0 : Nat) (s_j54 : St) (z0j54 : Int32) : Prop := (nb z0j54 ∧ Post s_j54 z0j54)
def wj_Mo_isLinked_36 (rec : Ly → (St → Int32 → Prop) → St → Nat → Int32 → Prop) (y : Ly) (Post : St → Int32 → Prop) (a0 : Nat) (s_j36 : St) (x1j36 : Int32) : Prop := ∃ b_5 : Nat, sO s_j36 a0 45 = some b_5 ∧ cl b_5 = 13 ∧ xA y s_j36 b_5 11 x1j36 (fun x_8 : Int32 => ((¬ x_8 = 1 → wj_Mo_isLinked_54 rec y Post a0 s_j36 0) ∧ (x_8 = 1 → wj_Mo_isLinked_54 rec y Post a0 s_j36 1)))
def wj_Mo_isLinked_35 (rec : Ly → (St → Int32 → Prop) → St → Nat → Int32 → Prop) (y : Ly) (Post : St → Int32 → Prop) (a0 : Nat) (s_j35 : St) (x1j35 : Int32) (z0j35 : Nat) (z0j35k : Nat) (z1j35 : Int32) (z2j35 : Int32) : Prop := (kd (cl z0j35) z0j35k = 2 ∧ tyx (cl z0j35) z0j35k = 0) ∧ xS y s_j35 z0j35 z0j35k z1j35 z2j35 (fun s_14 : St => wj_Mo_isLinked_36 rec y Post a0 s_14 x1j35)
def wf_Mo_isLinked (rec : Ly → (St → Int32 → Prop) → St → Nat → Int32 → Prop) (y : Ly) (Post : St → Int32 → Prop) (σ : St) (a0 : Nat) (v1 : Int32) : Prop := ∃ b_1 : Nat, sO σ a0 45 = some b_1 ∧ cl b_1 = 13 ∧ xA y σ b_1 11 v1 (fun x_4 : Int32 => ((¬ x_4 = 0 → wj_Mo_isLinked_36 rec y Post a0 σ v1) ∧ (x_4 = 0 → wf_Mo_linkCode rec y (fun (s_10 : St) (r_9 : Int32) => ∃ b_11 : Nat, sO s_10 a0 45 = some b_11 ∧ cl b_11 = 13 ∧ ((¬ r_9 = 0 → wj_Mo_isLinked_35 rec y Post a0 s_10 v1 b_11 11 v1 r_9) ∧ (r_9 = 0 → wj_Mo_isLinked_35 rec y Post a0 s_10 v1 b_11 11 v1 1))) σ a0 v1)))
set_option maxHeartbeats 4000000 in
set_option maxRecDepth 100000 in
theorem cf_Mo_isLinked (l : Launch) (D : va_G) (g : Nat → ClassId) (ad : Nat → Nat) (rec : Ly → (St → Int32 → Prop) → St → Nat → Int32 → Prop) (rr : Room) (hrr : rr.cells = 0 ∧ rr.slots = 0) (hrec : ∀ (y : Ly) (Post : St → Int32 → Prop) (σ : St) (a0 : Nat) (v1 : Int32) (sz : Nat) (_ : cl a0 = 14) (_ : rec y Post σ a0 v1), Met l y_Mo_isLinked (mw y_Mo_isLinked b_Mo_isLinked 3 (some (.boolean))) rr (PC g D [] [.ref (ad a0), .int v1] sz (ws g ad y σ)) (va_Qi (fun (r : Int32) (u : St) => Post u r) (QW D (va_A (ws g ad y σ) sz) (fun u => ws g ad y u)) (va_A (ws g ad y σ) sz)) 0 0 (va_A (ws g ad y σ) sz)) (y : Ly) (Post : St → Int32 → Prop) (σ : St) (a0 : Nat) (v1 : Int32) (sz : Nat) (h_a0 : cl a0 = 14) (h : wf_Mo_isLinked rec y Post σ a0 v1) : Met l y_Mo_isLinked (mw y_Mo_isLinked b_Mo_isLinked 3 (some (.boolean))) (rf_Mo_isLinked rr) (PC g D [] [.ref (ad a0), .int v1] sz (ws g ad y σ)) (va_Qi (fun (r : Int32) (u : St) => Post u r) (QW D (va_A (ws g ad y σ) sz) (fun u => ws g ad y u)) (va_A (ws g ad y σ) sz)) 0 0 (va_A (ws g ad y σ) sz) := by
  refine ofZ (by decide +kernel) (Nat.le_of_ble_eq_true rfl) ?_
  intro p e s m args below meth c A Q ls H locs G hsz hP hD hS hl hret
  subst hsz
  have hl : lv_has ls 3 [(0, .ref (ad a0)), (1, .int v1)] := hl
  unfold wf_Mo_isLinked at h
  refine lv_aload_n G.1 G.2.1 d_Mo_isLinked_0 rfl (lv_at hl 0 rfl) ?_
  obtain ⟨b_1, e_2, c_3, h⟩ := h
  refine ugf (v := .ref (ad b_1)) G hP h_a0 iMo rfl 45 (by decide) rfl q3109 rfl (by show va_rf ((sO σ a0 45).map ad) = _; rw [e_2]; rfl) d_Mo_isLinked_1 ?_
  refine ugfN (v := .ref (yP y b_1 11)) G hP c_3 iMw rfl 11 (by decide) rfl q2726 rfl rfl d_Mo_isLinked_4 ?_
  refine lv_iload_n G.1 G.2.1 d_Mo_isLinked_7 rfl (lv_at hl 1 rfl) ?_
  refine uiald G hP (kdp c_3 rfl) (typ c_3 rfl) h d_Mo_isLinked_8 (fun x_4 h => ?_)
  have J_36 : ∀ (s_j36 : St) (x1j36 : Int32) (H : Heap) (locs : List Loc), wj_Mo_isLinked_36 rec y Post a0 s_j36 x1j36 → va_P D CL (ws g ad y s_j36) H → va_D A (ws g ad y s_j36) → va_S A s.heap H locs → ∀ ls, lv_has ls 3 [(0, .ref (ad a0)), (1, .int x1j36)] → W p l e (rf_Mo_isLinked rr) s m args below meth c H locs 0 0 Q (F0 m 36 ls []) := by
    intro s_j36 x1j36 H locs h hP hD hS ls hl
    unfold wj_Mo_isLinked_36 at h
    refine lv_aload_n G.1 G.2.1 d_Mo_isLinked_36 rfl (lv_at hl 0 rfl) ?_
    obtain ⟨b_5, e_6, c_7, h⟩ := h
    refine ugf (v := .ref (ad b_5)) G hP h_a0 iMo rfl 45 (by decide) rfl q3109 rfl (by show va_rf ((sO s_j36 a0 45).map ad) = _; rw [e_6]; rfl) d_Mo_isLinked_37 ?_
    refine ugfN (v := .ref (yP y b_5 11)) G hP c_7 iMw rfl 11 (by decide) rfl q2726 rfl rfl d_Mo_isLinked_40 ?_
    refine lv_iload_n G.1 G.2.1 d_Mo_isLinked_43 rfl (lv_at hl 1 rfl) ?_
    refine uiald G hP (kdp c_7 rfl) (typ c_7 rfl) h d_Mo_isLinked_44 (fun x_8 h => ?_)
    refine lv_iconst (v := 1) G.1 G.2.1 d_Mo_isLinked_45 (by decide) ?_
    have J_54 : ∀ (s_j54 : St) (z0j54 : Int32) (H : Heap) (locs : List Loc), wj_Mo_isLinked_54 rec y Post a0 s_j54 z0j54 → va_P D CL (ws g ad y s_j54) H → va_D A (ws g ad y s_j54) → va_S A s.heap H locs → ∀ ls, lv_has ls 3 [] → W p l e (rf_Mo_isLinked rr) s m args below meth c H locs 0 0 Q (F0 m 54 ls [.int z0j54]) := by
      intro s_j54 z0j54 H locs h hP hD hS ls hl
      unfold wj_Mo_isLinked_54 at h
      exact hret _ _ _ _ _ _ _ ls (nb_n h.1) h.2 hP hD hS (Nat.le_refl _) (Nat.le_refl _) d_Mo_isLinked_54
    refine lv_icmp_ne (tgt := 53) G.1 G.2.1 d_Mo_isLinked_46 (by decide) (fun c46 => ?_) (fun c46 => ?_)
    · skip
      have h := h.1 c46
      refine lv_iconst (v := 0) G.1 G.2.1 d_Mo_isLinked_53 (by decide) ?_
      exact J_54 s_j36 0 H locs h hP hD hS ls (lv_sub hl [] rfl)
    · skip
      have h := h.2 c46
      refine lv_iconst (v := 1) G.1 G.2.1 d_Mo_isLinked_49 (by decide) ?_
      refine lv_goto (tgt := 54) G.1 G.2.1 d_Mo_isLinked_50 (by decide) ?_
      exact J_54 s_j36 1 H locs h hP hD hS ls (lv_sub hl [] rfl)
  refine lv_if_ne (tgt := 36) G.1 G.2.1 d_Mo_isLinked_9 (by decide) (fun c9 => ?_) (fun c9 => ?_)
  · skip
    have h := h.1 c9
    exact J_36 σ v1 H locs h hP hD hS ls (lv_sub hl [0, 1] rfl)
  · skip
    have h := h.2 c9
    refine lv_aload_n G.1 G.2.1 d_Mo_isLinked_12 rfl (lv_at hl 0 rfl) ?_
    refine lv_iload_n G.1 G.2.1 d_Mo_isLinked_13 rfl (lv_at hl 1 rfl) ?_
    refine ucVi (As := [.int v1]) (rest := []) G hP hD hS (cf_Mo_linkCode l D g ad rec rr hrr hrec y _ σ a0 v1 H.size h_a0 h) w9_Mo_linkCode q3681 ⟨by show rr.frames + 8 + 1 ≤ rr.frames + _; omega, by show 8 + (8 + 11) + (rr.locals + 192) ≤ rr.locals + _; omega⟩ rfl rfl h_a0 (q := (RMo, TMo, 131)) rfl rfl hl.1 rfl (Nat.le_of_ble_eq_true rfl) rfl ⟨Nat.le_refl _, Nat.le_refl _⟩ d_Mo_isLinked_14 (fun r_9 s_10 H locs h hP hD hS => ?_)
    refine lv_istore_n (lv' := [(2, .int r_9), (0, .ref (ad a0)), (1, .int v1)]) G.1 G.2.1 d_Mo_isLinked_17 rfl hl (by decide) rfl (fun ls hl => ?_)
    refine lv_aload_n G.1 G.2.1 d_Mo_isLinked_18 rfl (lv_at hl 1 rfl) ?_
    refine W.eq (g2 := F0 m 19 ls [.ref (ad a0)]) rfl ?_
    obtain ⟨b_11, e_12, c_13, h⟩ := h
    refine ugf (v := .ref (ad b_11)) G hP h_a0 iMo rfl 45 (by decide) rfl q3109 rfl (by show va_rf ((sO s_10 a0 45).map ad) = _; rw [e_12]; rfl) d_Mo_isLinked_19 ?_
    refine ugfN (v := .ref (yP y b_11 11)) G hP c_13 iMw rfl 11 (by decide) rfl q2726 rfl rfl d_Mo_isLinked_22 ?_
    refine lv_iload_n G.1 G.2.1 d_Mo_isLinked_25 rfl (lv_at hl 2 rfl) ?_
    refine lv_iload_n G.1 G.2.1 d_Mo_isLinked_26 rfl (lv_at hl 0 rfl) ?_
    have J_35 : ∀ (s_j35 : St) (x1j35 : Int32) (z0j35 : Nat) (z0j35k : Nat) (z1j35 : Int32) (z2j35 : Int32) (H : Heap) (locs : List Loc), wj_Mo_isLinked_35 rec y Post a0 s_j35 x1j35 z0j35 z0j35k z1j35 z2j35 → va_P D CL (ws g ad y s_j35) H → va_D A (ws g ad y s_j35) → va_S A s.heap H locs → ∀ ls, lv_has ls 3 [(0, .ref (ad a0)), (1, .int x1j35)] → W p l e (rf_Mo_isLinked rr) s m args below meth c H locs 0 0 Q (F0 m 35 ls [.int z2j35, .int z1j35, .ref (yP y z0j35 z0j35k)]) := by
      intro s_j35 x1j35 z0j35 z0j35k z1j35 z2j35 H locs h hP hD hS ls hl
      unfold wj_Mo_isLinked_35 at h
      obtain ⟨c_z0j35, h⟩ := h
      refine uiast G hP hD hS c_z0j35.1 c_z0j35.2 h d_Mo_isLinked_35 (fun s_14 H locs h hP hD hS => ?_)
      exact J_36 s_14 x1j35 H locs h hP hD hS ls (lv_sub hl [0, 1] rfl)
    refine lv_if_ne (tgt := 34) G.1 G.2.1 d_Mo_isLinked_27 (by decide) (fun c27 => ?_) (fun c27 => ?_)
    · skip
      have h := h.1 c27
      refine lv_iload_n G.1 G.2.1 d_Mo_isLinked_34 rfl (lv_at hl 0 rfl) ?_
      exact J_35 s_10 v1 b_11 11 v1 r_9 H locs h hP hD hS ls (lv_sub hl [1, 2] rfl)
    · skip
      have h := h.2 c27
      refine lv_iconst (v := 1) G.1 G.2.1 d_Mo_isLinked_30 (by decide) ?_
      refine lv_goto (tgt := 35) G.1 G.2.1 d_Mo_isLinked_31 (by decide) ?_
      exact J_35 s_10 v1 b_11 11 v1 1 H locs h hP hD hS ls (lv_sub hl [1, 2] rfl)
def wn_Mo_isLinked : Nat → Ly → (St → Int32 → Prop) → St → Nat → Int32 → Prop
  | 0 => fun _ _ _ _ _ => False
  | n + 1 => wf_Mo_isLinked (wn_Mo_isLinked n)
def rn_Mo_isLinked : Nat → Room
  | 0 => { frames := 0, cells := 0, slots := 0, locals := 0 }
  | n + 1 => rf_Mo_isLinked (rn_Mo_isLinked n)
theorem rn_Mo_isLinked_0 : ∀ n, (rn_Mo_isLinked n).cells = 0 ∧ (rn_Mo_isLinked n).slots = 0
  | 0 => ⟨rfl, rfl⟩
  | _ + 1 => ⟨rfl, rfl⟩
theorem cn_Mo_isLinked (l : Launch) (D : va_G) (g : Nat → ClassId) (ad : Nat → Nat) : ∀ (n : Nat) (y : Ly) (Post : St → Int32 → Prop) (σ : St) (a0 : Nat) (v1 : Int32) (sz : Nat) (h_a0 : cl a0 = 14) (h : wn_Mo_isLinked n y Post σ a0 v1), Met l y_Mo_isLinked (mw y_Mo_isLinked b_Mo_isLinked 3 (some (.boolean))) (rn_Mo_isLinked n) (PC g D [] [.ref (ad a0), .int v1] sz (ws g ad y σ)) (va_Qi (fun (r : Int32) (u : St) => Post u r) (QW D (va_A (ws g ad y σ) sz) (fun u => ws g ad y u)) (va_A (ws g ad y σ) sz)) 0 0 (va_A (ws g ad y σ) sz)
  | 0, _, _, _, _, _, _, _, h => False.elim (show False from h)
  | n + 1, y, Post, σ, a0, v1, sz, h_a0, h => cf_Mo_isLinked l D g ad (wn_Mo_isLinked n) (rn_Mo_isLinked n) (rn_Mo_isLinked_0 n) (cn_Mo_isLinked l D g ad n) y Post σ a0 v1 sz h_a0 h
abbrev ru_Mo_isLinked : Room := rn_Mo_isLinked 52
def wu_Mo_isLinked (y : Ly) (Post : St → Int32 → Prop) (σ : St) (a0 : Nat) (v1 : Int32) : Prop := wn_Mo_isLinked 52 y Post σ a0 v1
theorem cu_Mo_isLinked (l : Launch) (D : va_G) (g : Nat → ClassId) (ad : Nat → Nat) (y : Ly) (Post : St → Int32 → Prop) (σ : St) (a0 : Nat) (v1 : Int32) (sz : Nat) (h_a0 : cl a0 = 14) (h : wu_Mo_isLinked y Post σ a0 v1) : Met l y_Mo_isLinked (mw y_Mo_isLinked b_Mo_isLinked 3 (some (.boolean))) ru_Mo_isLinked (PC g D [] [.ref (ad a0), .int v1] sz (ws g ad y σ)) (va_Qi (fun (r : Int32) (u : St) => Post u r) (QW D (va_A (ws g ad y σ) sz) (fun u => ws g ad y u)) (va_A (ws g ad y σ) sz)) 0 0 (va_A (ws g ad y σ) sz) := cn_Mo_isLinked l D g ad 52 y Post σ a0 v1 sz h_a0 h
def y_Mo_link : MethodName := ⟨"ClassWorksModel", "link", "(II)I"⟩
abbrev b_Mo_link : ByteArray := prog_14_method_137_code
theorem d_Mo_link_0 : decode b_Mo_link 0 = .ok (.aload_n 0, 1) := by decide +kernel
theorem d_Mo_link_1 : decode b_Mo_link 1 = .ok (.iload_n 1, 1) := by decide +kernel
theorem d_Mo_link_2 : decode b_Mo_link 2 = .ok (.iload_n 2, 1) := by decide +kernel
theorem d_Mo_link_3 : decode b_Mo_link 3 = .ok (.invokevirtual 1129, 3) := by decide +kernel
theorem d_Mo_link_6 : decode b_Mo_link 6 = .ok (.ifCond .ne 5, 3) := by decide +kernel
theorem d_Mo_link_9 : decode b_Mo_link 9 = .ok (.iconst (-1), 1) := by decide +kernel
theorem d_Mo_link_10 : decode b_Mo_link 10 = .ok (.ireturn, 1) := by decide +kernel
theorem d_Mo_link_11 : decode b_Mo_link 11 = .ok (.aload_n 0, 1) := by decide +kernel
theorem d_Mo_link_12 : decode b_Mo_link 12 = .ok (.aload_n 0, 1) := by decide +kernel
theorem d_Mo_link_13 : decode b_Mo_link 13 = .ok (.getfield 263, 3) := by decide +kernel
theorem d_Mo_link_16 : decode b_Mo_link 16 = .ok (.iload_n 1, 1) := by decide +kernel
theorem d_Mo_link_17 : decode b_Mo_link 17 = .ok (.aaload, 1) := by decide +kernel
theorem d_Mo_link_18 : decode b_Mo_link 18 = .ok (.putfield 522, 3) := by decide +kernel
theorem d_Mo_link_21 : decode b_Mo_link 21 = .ok (.aload_n 0, 1) := by decide +kernel
theorem d_Mo_link_22 : decode b_Mo_link 22 = .ok (.iload_n 2, 1) := by decide +kernel
theorem d_Mo_link_23 : decode b_Mo_link 23 = .ok (.invokevirtual 749, 3) := by decide +kernel
theorem d_Mo_link_26 : decode b_Mo_link 26 = .ok (.ifCond .eq 7, 3) := by decide +kernel
theorem d_Mo_link_29 : decode b_Mo_link 29 = .ok (.iconst 0, 1) := by decide +kernel
theorem d_Mo_link_30 : decode b_Mo_link 30 = .ok (.goto 12, 3) := by decide +kernel
theorem d_Mo_link_33 : decode b_Mo_link 33 = .ok (.aload_n 0, 1) := by decide +kernel
theorem d_Mo_link_34 : decode b_Mo_link 34 = .ok (.getfield 522, 3) := by decide +kernel
theorem d_Mo_link_37 : decode b_Mo_link 37 = .ok (.getfield 444, 3) := by decide +kernel
theorem d_Mo_link_40 : decode b_Mo_link 40 = .ok (.iload_n 2, 1) := by decide +kernel
theorem d_Mo_link_41 : decode b_Mo_link 41 = .ok (.iaload, 1) := by decide +kernel
theorem d_Mo_link_42 : decode b_Mo_link 42 = .ok (.ireturn, 1) := by decide +kernel
abbrev ru_Mo_link : Room := { frames := 469, cells := 0, slots := 0, locals := 11410 }
def wj_Mo_link_42 (y : Ly) (Post : St → Int32 → Prop) (a0 : Nat) (s_j42 : St) (z0j42 : Int32) : Prop := Post s_j42 z0j42
def wu_Mo_link (y : Ly) (Post : St → Int32 → Prop) (σ : St) (a0 : Nat) (v1 : Int32) (v2 : Int32) : Prop := wu_Mo_isClass y (fun (s_2 : St) (r_1 : Int32) => ((¬ r_1 = 0 → xQ y a0 44 v1 (fun b_3 : Nat => xP (uO s_2 a0 45 (some b_3)) (fun s_5 : St => wu_Mo_isLinked y (fun (s_7 : St) (r_6 : Int32) => ((r_6 = 0 → ∃ b_8 : Nat, sO s_7 a0 45 = some b_8 ∧ cl b_8 = 13 ∧ xA y s_7 b_8 11 v2 (fun x_11 : Int32 => wj_Mo_link_42 y Post a0 s_7 x_11)) ∧ (¬ (r_6 = 0) → wj_Mo_link_42 y Post a0 s_7 0))) s_5 a0 v2))) ∧ (r_1 = 0 → Post s_2 (-1)))) σ a0 v1 v2
set_option maxHeartbeats 4000000 in
set_option maxRecDepth 100000 in
theorem cu_Mo_link (l : Launch) (D : va_G) (g : Nat → ClassId) (ad : Nat → Nat) (y : Ly) (Post : St → Int32 → Prop) (σ : St) (a0 : Nat) (v1 : Int32) (v2 : Int32) (sz : Nat) (h_a0 : cl a0 = 14) (h : wu_Mo_link y Post σ a0 v1 v2) : Met l y_Mo_link (mw y_Mo_link b_Mo_link 3 (some .int)) ru_Mo_link (PC g D [] [.ref (ad a0), .int v1, .int v2] sz (ws g ad y σ)) (va_Qi (fun (r : Int32) (u : St) => Post u r) (QW D (va_A (ws g ad y σ) sz) (fun u => ws g ad y u)) (va_A (ws g ad y σ) sz)) 0 0 (va_A (ws g ad y σ) sz) := by
  refine ofI (by decide +kernel) (Nat.le_of_ble_eq_true rfl) ?_
  intro p e s m args below meth c A Q ls H locs G hsz hP hD hS hl hret
  subst hsz
  have hl : lv_has ls 3 [(0, .ref (ad a0)), (1, .int v1), (2, .int v2)] := hl
  unfold wu_Mo_link at h
  refine lv_aload_n G.1 G.2.1 d_Mo_link_0 rfl (lv_at hl 0 rfl) ?_
  refine lv_iload_n G.1 G.2.1 d_Mo_link_1 rfl (lv_at hl 1 rfl) ?_
  refine lv_iload_n G.1 G.2.1 d_Mo_link_2 rfl (lv_at hl 2 rfl) ?_
  refine ucVi (As := [.int v1, .int v2]) (rest := []) G hP hD hS (cu_Mo_isClass l D g ad y _ σ a0 v1 v2 H.size h_a0 h) w9_Mo_isClass q3661 ⟨Nat.le_of_ble_eq_true rfl, Nat.le_of_ble_eq_true rfl⟩ rfl rfl h_a0 (q := (RMo, TMo, 131)) rfl rfl hl.1 rfl (Nat.le_of_ble_eq_true rfl) rfl ⟨Nat.le_refl _, Nat.le_refl _⟩ d_Mo_link_3 (fun r_1 s_2 H locs h hP hD hS => ?_)
  refine lv_if_ne (tgt := 11) G.1 G.2.1 d_Mo_link_6 (by decide) (fun c6 => ?_) (fun c6 => ?_)
  · skip
    have h := h.1 c6
    refine lv_aload_n G.1 G.2.1 d_Mo_link_11 rfl (lv_at hl 0 rfl) ?_
    refine lv_aload_n G.1 G.2.1 d_Mo_link_12 rfl (lv_at hl 0 rfl) ?_
    refine ugf (v := .ref (yP y a0 44)) G hP h_a0 iMo rfl 44 (by decide) rfl q3108 rfl rfl d_Mo_link_13 ?_
    refine lv_iload_n G.1 G.2.1 d_Mo_link_16 rfl (lv_at hl 1 rfl) ?_
    refine uqald G hP (kdp h_a0 rfl) (typ h_a0 rfl) rfl h d_Mo_link_17 (fun b_3 n_4 h => ?_)
    refine upf G hP hD hS h 45 putO h_a0 iMo tMo tMo_ok nMo rfl (by decide) rfl q3109 rfl rfl fO rfl rfl d_Mo_link_18 (fun s_5 H locs h hP hD hS => ?_)
    refine W.eq (g2 := F0 m 21 ls []) rfl ?_
    refine lv_aload_n G.1 G.2.1 d_Mo_link_21 rfl (lv_at hl 0 rfl) ?_
    refine lv_iload_n G.1 G.2.1 d_Mo_link_22 rfl (lv_at hl 2 rfl) ?_
    refine ucVi (As := [.int v2]) (rest := []) G hP hD hS (cu_Mo_isLinked l D g ad y _ s_5 a0 v2 H.size h_a0 h) w9_Mo_isLinked q3677 ⟨Nat.le_of_ble_eq_true rfl, Nat.le_of_ble_eq_true rfl⟩ rfl rfl h_a0 (q := (RMo, TMo, 131)) rfl rfl hl.1 rfl (Nat.le_of_ble_eq_true rfl) rfl ⟨Nat.le_refl _, Nat.le_refl _⟩ d_Mo_link_23 (fun r_6 s_7 H locs h hP hD hS => ?_)
    have J_42 : ∀ (s_j42 : St) (z0j42 : Int32) (H : Heap) (locs : List Loc), wj_Mo_link_42 y Post a0 s_j42 z0j42 → va_P D CL (ws g ad y s_j42) H → va_D A (ws g ad y s_j42) → va_S A s.heap H locs → ∀ ls, lv_has ls 3 [] → W p l e ru_Mo_link s m args below meth c H locs 0 0 Q (F0 m 42 ls [.int z0j42]) := by
      intro s_j42 z0j42 H locs h hP hD hS ls hl
      unfold wj_Mo_link_42 at h
      exact hret _ _ _ _ _ _ _ ls h hP hD hS (Nat.le_refl _) (Nat.le_refl _) d_Mo_link_42
    refine lv_if_eq (tgt := 33) G.1 G.2.1 d_Mo_link_26 (by decide) (fun c26 => ?_) (fun c26 => ?_)
    · skip
      have h := h.1 c26
      refine lv_aload_n G.1 G.2.1 d_Mo_link_33 rfl (lv_at hl 0 rfl) ?_
      obtain ⟨b_8, e_9, c_10, h⟩ := h
      refine ugf (v := .ref (ad b_8)) G hP h_a0 iMo rfl 45 (by decide) rfl q3109 rfl (by show va_rf ((sO s_7 a0 45).map ad) = _; rw [e_9]; rfl) d_Mo_link_34 ?_
      refine ugfN (v := .ref (yP y b_8 11)) G hP c_10 iMw rfl 11 (by decide) rfl q2726 rfl rfl d_Mo_link_37 ?_
      refine lv_iload_n G.1 G.2.1 d_Mo_link_40 rfl (lv_at hl 2 rfl) ?_
      refine uiald G hP (kdp c_10 rfl) (typ c_10 rfl) h d_Mo_link_41 (fun x_11 h => ?_)
      exact J_42 s_7 x_11 H locs h hP hD hS ls (lv_sub hl [] rfl)
    · skip
      have h := h.2 c26
      refine lv_iconst (v := 0) G.1 G.2.1 d_Mo_link_29 (by decide) ?_
      refine lv_goto (tgt := 42) G.1 G.2.1 d_Mo_link_30 (by decide) ?_
      exact J_42 s_7 0 H locs h hP hD hS ls (lv_sub hl [] rfl)
  · skip
    have h := h.2 c6
    refine lv_iconst (v := (-1)) G.1 G.2.1 d_Mo_link_9 (by decide) ?_
    exact hret _ _ _ _ _ _ _ ls h hP hD hS (Nat.le_refl _) (Nat.le_refl _) d_Mo_link_10
def y_Mo_callWords : MethodName := ⟨"ClassWorksModel", "callWords", "()V"⟩
abbrev b_Mo_callWords : ByteArray := prog_14_method_139_code
theorem d_Mo_callWords_0 : decode b_Mo_callWords 0 = .ok (.aload_n 0, 1) := by decide +kernel
theorem d_Mo_callWords_1 : decode b_Mo_callWords 1 = .ok (.aload_n 0, 1) := by decide +kernel
theorem d_Mo_callWords_2 : decode b_Mo_callWords 2 = .ok (.invokevirtual 554, 3) := by decide +kernel
theorem d_Mo_callWords_5 : decode b_Mo_callWords 5 = .ok (.putfield 1132, 3) := by decide +kernel
theorem d_Mo_callWords_8 : decode b_Mo_callWords 8 = .ok (.aload_n 0, 1) := by decide +kernel
theorem d_Mo_callWords_9 : decode b_Mo_callWords 9 = .ok (.bipush 46, 2) := by decide +kernel
theorem d_Mo_callWords_11 : decode b_Mo_callWords 11 = .ok (.invokevirtual 544, 3) := by decide +kernel
theorem d_Mo_callWords_14 : decode b_Mo_callWords 14 = .ok (.aload_n 0, 1) := by decide +kernel
theorem d_Mo_callWords_15 : decode b_Mo_callWords 15 = .ok (.aload_n 0, 1) := by decide +kernel
theorem d_Mo_callWords_16 : decode b_Mo_callWords 16 = .ok (.invokevirtual 551, 3) := by decide +kernel
theorem d_Mo_callWords_19 : decode b_Mo_callWords 19 = .ok (.putfield 1135, 3) := by decide +kernel
theorem d_Mo_callWords_22 : decode b_Mo_callWords 22 = .ok (.aload_n 0, 1) := by decide +kernel
theorem d_Mo_callWords_23 : decode b_Mo_callWords 23 = .ok (.bipush 40, 2) := by decide +kernel
theorem d_Mo_callWords_25 : decode b_Mo_callWords 25 = .ok (.invokevirtual 544, 3) := by decide +kernel
theorem d_Mo_callWords_28 : decode b_Mo_callWords 28 = .ok (.aload_n 0, 1) := by decide +kernel
theorem d_Mo_callWords_29 : decode b_Mo_callWords 29 = .ok (.iconst 0, 1) := by decide +kernel
theorem d_Mo_callWords_30 : decode b_Mo_callWords 30 = .ok (.putfield 557, 3) := by decide +kernel
theorem d_Mo_callWords_33 : decode b_Mo_callWords 33 = .ok (.aload_n 0, 1) := by decide +kernel
theorem d_Mo_callWords_34 : decode b_Mo_callWords 34 = .ok (.getfield 92, 3) := by decide +kernel
theorem d_Mo_callWords_37 : decode b_Mo_callWords 37 = .ok (.aload_n 0, 1) := by decide +kernel
theorem d_Mo_callWords_38 : decode b_Mo_callWords 38 = .ok (.getfield 104, 3) := by decide +kernel
theorem d_Mo_callWords_41 : decode b_Mo_callWords 41 = .ok (.baload, 1) := by decide +kernel
theorem d_Mo_callWords_42 : decode b_Mo_callWords 42 = .ok (.bipush 41, 2) := by decide +kernel
theorem d_Mo_callWords_44 : decode b_Mo_callWords 44 = .ok (.if_icmp .eq 91, 3) := by decide +kernel
theorem d_Mo_callWords_47 : decode b_Mo_callWords 47 = .ok (.iconst 1, 1) := by decide +kernel
theorem d_Mo_callWords_48 : decode b_Mo_callWords 48 = .ok (.istore_n 1, 1) := by decide +kernel
theorem d_Mo_callWords_49 : decode b_Mo_callWords 49 = .ok (.iload_n 1, 1) := by decide +kernel
theorem d_Mo_callWords_50 : decode b_Mo_callWords 50 = .ok (.ifCond .eq 85, 3) := by decide +kernel
theorem d_Mo_callWords_53 : decode b_Mo_callWords 53 = .ok (.aload_n 0, 1) := by decide +kernel
theorem d_Mo_callWords_54 : decode b_Mo_callWords 54 = .ok (.getfield 557, 3) := by decide +kernel
theorem d_Mo_callWords_57 : decode b_Mo_callWords 57 = .ok (.bipush 6, 2) := by decide +kernel
theorem d_Mo_callWords_59 : decode b_Mo_callWords 59 = .ok (.if_icmp .ne 7, 3) := by decide +kernel
theorem d_Mo_callWords_62 : decode b_Mo_callWords 62 = .ok (.aload_n 0, 1) := by decide +kernel
theorem d_Mo_callWords_63 : decode b_Mo_callWords 63 = .ok (.invokevirtual 535, 3) := by decide +kernel
theorem d_Mo_callWords_66 : decode b_Mo_callWords 66 = .ok (.aload_n 0, 1) := by decide +kernel
theorem d_Mo_callWords_67 : decode b_Mo_callWords 67 = .ok (.aload_n 0, 1) := by decide +kernel
theorem d_Mo_callWords_68 : decode b_Mo_callWords 68 = .ok (.getfield 245, 3) := by decide +kernel
theorem d_Mo_callWords_71 : decode b_Mo_callWords 71 = .ok (.invokevirtual 592, 3) := by decide +kernel
theorem d_Mo_callWords_74 : decode b_Mo_callWords 74 = .ok (.aload_n 0, 1) := by decide +kernel
theorem d_Mo_callWords_75 : decode b_Mo_callWords 75 = .ok (.getfield 277, 3) := by decide +kernel
theorem d_Mo_callWords_78 : decode b_Mo_callWords 78 = .ok (.aload_n 0, 1) := by decide +kernel
theorem d_Mo_callWords_79 : decode b_Mo_callWords 79 = .ok (.getfield 557, 3) := by decide +kernel
theorem d_Mo_callWords_82 : decode b_Mo_callWords 82 = .ok (.iconst 1, 1) := by decide +kernel
theorem d_Mo_callWords_83 : decode b_Mo_callWords 83 = .ok (.iastore, 1) := by decide +kernel
theorem d_Mo_callWords_84 : decode b_Mo_callWords 84 = .ok (.aload_n 0, 1) := by decide +kernel
theorem d_Mo_callWords_85 : decode b_Mo_callWords 85 = .ok (.dup, 1) := by decide +kernel
theorem d_Mo_callWords_86 : decode b_Mo_callWords 86 = .ok (.getfield 557, 3) := by decide +kernel
theorem d_Mo_callWords_89 : decode b_Mo_callWords 89 = .ok (.iconst 1, 1) := by decide +kernel
theorem d_Mo_callWords_90 : decode b_Mo_callWords 90 = .ok (.iadd, 1) := by decide +kernel
theorem d_Mo_callWords_91 : decode b_Mo_callWords 91 = .ok (.putfield 557, 3) := by decide +kernel
theorem d_Mo_callWords_94 : decode b_Mo_callWords 94 = .ok (.aload_n 0, 1) := by decide +kernel
theorem d_Mo_callWords_95 : decode b_Mo_callWords 95 = .ok (.getfield 92, 3) := by decide +kernel
theorem d_Mo_callWords_98 : decode b_Mo_callWords 98 = .ok (.aload_n 0, 1) := by decide +kernel
theorem d_Mo_callWords_99 : decode b_Mo_callWords 99 = .ok (.getfield 104, 3) := by decide +kernel
theorem d_Mo_callWords_102 : decode b_Mo_callWords 102 = .ok (.baload, 1) := by decide +kernel
theorem d_Mo_callWords_103 : decode b_Mo_callWords 103 = .ok (.bipush 44, 2) := by decide +kernel
theorem d_Mo_callWords_105 : decode b_Mo_callWords 105 = .ok (.if_icmp .ne 7, 3) := by decide +kernel
theorem d_Mo_callWords_108 : decode b_Mo_callWords 108 = .ok (.iconst 1, 1) := by decide +kernel
theorem d_Mo_callWords_109 : decode b_Mo_callWords 109 = .ok (.goto 4, 3) := by decide +kernel
theorem d_Mo_callWords_112 : decode b_Mo_callWords 112 = .ok (.iconst 0, 1) := by decide +kernel
theorem d_Mo_callWords_113 : decode b_Mo_callWords 113 = .ok (.istore_n 1, 1) := by decide +kernel
theorem d_Mo_callWords_114 : decode b_Mo_callWords 114 = .ok (.aload_n 0, 1) := by decide +kernel
theorem d_Mo_callWords_115 : decode b_Mo_callWords 115 = .ok (.dup, 1) := by decide +kernel
theorem d_Mo_callWords_116 : decode b_Mo_callWords 116 = .ok (.getfield 104, 3) := by decide +kernel
theorem d_Mo_callWords_119 : decode b_Mo_callWords 119 = .ok (.iload_n 1, 1) := by decide +kernel
theorem d_Mo_callWords_120 : decode b_Mo_callWords 120 = .ok (.ifCond .eq 7, 3) := by decide +kernel
theorem d_Mo_callWords_123 : decode b_Mo_callWords 123 = .ok (.iconst 1, 1) := by decide +kernel
theorem d_Mo_callWords_124 : decode b_Mo_callWords 124 = .ok (.goto 4, 3) := by decide +kernel
theorem d_Mo_callWords_127 : decode b_Mo_callWords 127 = .ok (.iconst 0, 1) := by decide +kernel
theorem d_Mo_callWords_128 : decode b_Mo_callWords 128 = .ok (.iadd, 1) := by decide +kernel
theorem d_Mo_callWords_129 : decode b_Mo_callWords 129 = .ok (.putfield 104, 3) := by decide +kernel
theorem d_Mo_callWords_132 : decode b_Mo_callWords 132 = .ok (.goto (-83), 3) := by decide +kernel
theorem d_Mo_callWords_135 : decode b_Mo_callWords 135 = .ok (.aload_n 0, 1) := by decide +kernel
theorem d_Mo_callWords_136 : decode b_Mo_callWords 136 = .ok (.bipush 41, 2) := by decide +kernel
theorem d_Mo_callWords_138 : decode b_Mo_callWords 138 = .ok (.invokevirtual 544, 3) := by decide +kernel
theorem d_Mo_callWords_141 : decode b_Mo_callWords 141 = .ok (.aload_n 0, 1) := by decide +kernel
theorem d_Mo_callWords_142 : decode b_Mo_callWords 142 = .ok (.aload_n 0, 1) := by decide +kernel
theorem d_Mo_callWords_143 : decode b_Mo_callWords 143 = .ok (.aload_n 0, 1) := by decide +kernel
theorem d_Mo_callWords_144 : decode b_Mo_callWords 144 = .ok (.getfield 277, 3) := by decide +kernel
theorem d_Mo_callWords_147 : decode b_Mo_callWords 147 = .ok (.aload_n 0, 1) := by decide +kernel
theorem d_Mo_callWords_148 : decode b_Mo_callWords 148 = .ok (.getfield 557, 3) := by decide +kernel
theorem d_Mo_callWords_151 : decode b_Mo_callWords 151 = .ok (.aload_n 0, 1) := by decide +kernel
theorem d_Mo_callWords_152 : decode b_Mo_callWords 152 = .ok (.aload_n 0, 1) := by decide +kernel
theorem d_Mo_callWords_153 : decode b_Mo_callWords 153 = .ok (.getfield 217, 3) := by decide +kernel
theorem d_Mo_callWords_156 : decode b_Mo_callWords 156 = .ok (.invokevirtual 541, 3) := by decide +kernel
theorem d_Mo_callWords_159 : decode b_Mo_callWords 159 = .ok (.ifCond .eq 7, 3) := by decide +kernel
theorem d_Mo_callWords_162 : decode b_Mo_callWords 162 = .ok (.iconst 0, 1) := by decide +kernel
theorem d_Mo_callWords_163 : decode b_Mo_callWords 163 = .ok (.goto 7, 3) := by decide +kernel
theorem d_Mo_callWords_166 : decode b_Mo_callWords 166 = .ok (.aload_n 0, 1) := by decide +kernel
theorem d_Mo_callWords_167 : decode b_Mo_callWords 167 = .ok (.invokevirtual 563, 3) := by decide +kernel
theorem d_Mo_callWords_170 : decode b_Mo_callWords 170 = .ok (.invokevirtual 254, 3) := by decide +kernel
theorem d_Mo_callWords_173 : decode b_Mo_callWords 173 = .ok (.putfield 1138, 3) := by decide +kernel
theorem d_Mo_callWords_176 : decode b_Mo_callWords 176 = .ok (.iconst 0, 1) := by decide +kernel
theorem d_Mo_callWords_177 : decode b_Mo_callWords 177 = .ok (.istore_n 1, 1) := by decide +kernel
theorem d_Mo_callWords_178 : decode b_Mo_callWords 178 = .ok (.iload_n 1, 1) := by decide +kernel
theorem d_Mo_callWords_179 : decode b_Mo_callWords 179 = .ok (.aload_n 0, 1) := by decide +kernel
theorem d_Mo_callWords_180 : decode b_Mo_callWords 180 = .ok (.getfield 80, 3) := by decide +kernel
theorem d_Mo_callWords_183 : decode b_Mo_callWords 183 = .ok (.aload_n 0, 1) := by decide +kernel
theorem d_Mo_callWords_184 : decode b_Mo_callWords 184 = .ok (.getfield 1138, 3) := by decide +kernel
theorem d_Mo_callWords_187 : decode b_Mo_callWords 187 = .ok (.iaload, 1) := by decide +kernel
theorem d_Mo_callWords_188 : decode b_Mo_callWords 188 = .ok (.if_icmp .ge 40, 3) := by decide +kernel
theorem d_Mo_callWords_191 : decode b_Mo_callWords 191 = .ok (.aload_n 0, 1) := by decide +kernel
theorem d_Mo_callWords_192 : decode b_Mo_callWords 192 = .ok (.iload_n 1, 1) := by decide +kernel
theorem d_Mo_callWords_193 : decode b_Mo_callWords 193 = .ok (.ifCond .ne 8, 3) := by decide +kernel
theorem d_Mo_callWords_196 : decode b_Mo_callWords 196 = .ok (.bipush 58, 2) := by decide +kernel
theorem d_Mo_callWords_198 : decode b_Mo_callWords 198 = .ok (.goto 5, 3) := by decide +kernel
theorem d_Mo_callWords_201 : decode b_Mo_callWords 201 = .ok (.bipush 44, 2) := by decide +kernel
theorem d_Mo_callWords_203 : decode b_Mo_callWords 203 = .ok (.invokevirtual 544, 3) := by decide +kernel
theorem d_Mo_callWords_206 : decode b_Mo_callWords 206 = .ok (.aload_n 0, 1) := by decide +kernel
theorem d_Mo_callWords_207 : decode b_Mo_callWords 207 = .ok (.getfield 320, 3) := by decide +kernel
theorem d_Mo_callWords_210 : decode b_Mo_callWords 210 = .ok (.iload_n 1, 1) := by decide +kernel
theorem d_Mo_callWords_211 : decode b_Mo_callWords 211 = .ok (.aload_n 0, 1) := by decide +kernel
theorem d_Mo_callWords_212 : decode b_Mo_callWords 212 = .ok (.ldc_w 616, 3) := by decide +kernel
theorem d_Mo_callWords_215 : decode b_Mo_callWords 215 = .ok (.ldc_w 617, 3) := by decide +kernel
theorem d_Mo_callWords_218 : decode b_Mo_callWords 218 = .ok (.invokevirtual 618, 3) := by decide +kernel
theorem d_Mo_callWords_221 : decode b_Mo_callWords 221 = .ok (.iastore, 1) := by decide +kernel
theorem d_Mo_callWords_222 : decode b_Mo_callWords 222 = .ok (.iinc 1 1, 3) := by decide +kernel
theorem d_Mo_callWords_225 : decode b_Mo_callWords 225 = .ok (.goto (-47), 3) := by decide +kernel
theorem d_Mo_callWords_228 : decode b_Mo_callWords 228 = .ok (.aload_n 0, 1) := by decide +kernel
theorem d_Mo_callWords_229 : decode b_Mo_callWords 229 = .ok (.iconst 0, 1) := by decide +kernel
theorem d_Mo_callWords_230 : decode b_Mo_callWords 230 = .ok (.invokevirtual 544, 3) := by decide +kernel
theorem d_Mo_callWords_233 : decode b_Mo_callWords 233 = .ok (.return_, 1) := by decide +kernel
abbrev ra_Mo_callWords (mc ms : Nat) : Room := { frames := 5, cells := mc, slots := ms, locals := 176 }
def wja_Mo_callWords_203 (mc ms : Nat) (Post : Ly → St → Nat → Nat → Prop) (PX : Ly → St → Nat → Nat → Prop) (K_178 : Ly → St → Nat → Nat → Int32 → Prop) (a0 : Nat) (y_j203 : Ly) (s_j203 : St) (d_j203 e_j203 : Nat) (x1j203 : Int32) (z1j203 : Int32) : Prop := (d_j203 ≤ mc ∧ e_j203 ≤ ms) ∧ ∃ mc_70 ms_71 : Nat, (d_j203 + mc_70 ≤ mc ∧ e_j203 + ms_71 ≤ ms) ∧ wx_Mo_need mc_70 ms_71 y_j203 (fun (y_67 : Ly) (s_66 : St) (d_68 e_69 : Nat) => (d_j203 + d_68 ≤ mc ∧ e_j203 + e_69 ≤ ms) ∧ ∃ mc_78 ms_79 : Nat, (d_j203 + d_68 + mc_78 ≤ mc ∧ e_j203 + e_69 + ms_79 ≤ ms) ∧ wx_Mo_numberIn mc_78 ms_79 y_67 (fun (y_75 : Ly) (s_74 : St) (r_73 : Int32) (d_76 e_77 : Nat) => (d_j203 + d_68 + d_76 ≤ mc ∧ e_j203 + e_69 + e_77 ≤ ms) ∧ yP y_67 a0 87 = yP y_75 a0 87 ∧ xS y_75 s_74 a0 87 x1j203 r_73 (fun s_82 : St => K_178 y_75 s_82 (d_j203 + d_68 + d_76) (e_j203 + e_69 + e_77) (x1j203 + 1))) (fun (y_75 : Ly) (s_74 : St) (d_76 e_77 : Nat) => ((d_j203 + d_68 + d_76 ≤ mc ∧ e_j203 + e_69 + e_77 ≤ ms) ∧ PX y_75 s_74 (d_j203 + d_68 + d_76) (e_j203 + e_69 + e_77))) s_66 a0 (-2147483648) 2147483647) (fun (y_67 : Ly) (s_66 : St) (d_68 e_69 : Nat) => ((d_j203 + d_68 ≤ mc ∧ e_j203 + e_69 ≤ ms) ∧ PX y_67 s_66 (d_j203 + d_68) (e_j203 + e_69))) s_j203 a0 z1j203
def wba_Mo_callWords_178 (mc ms : Nat) (Post : Ly → St → Nat → Nat → Prop) (PX : Ly → St → Nat → Nat → Prop) (K_178 : Ly → St → Nat → Nat → Int32 → Prop) (a0 : Nat) (y_h178 : Ly) (s_h178 : St) (d_h178 e_h178 : Nat) (x1h178 : Int32) : Prop := (d_h178 ≤ mc ∧ e_h178 ≤ ms) ∧ xA y_h178 s_h178 a0 31 (sV s_h178 a0 90) (fun x_56 : Int32 => ((x_56 ≤ x1h178 → ∃ mc_62 ms_63 : Nat, (d_h178 + mc_62 ≤ mc ∧ e_h178 + ms_63 ≤ ms) ∧ wx_Mo_need mc_62 ms_63 y_h178 (fun (y_59 : Ly) (s_58 : St) (d_60 e_61 : Nat) => (d_h178 + d_60 ≤ mc ∧ e_h178 + e_61 ≤ ms) ∧ Post y_59 s_58 (d_h178 + d_60) (e_h178 + e_61)) (fun (y_59 : Ly) (s_58 : St) (d_60 e_61 : Nat) => ((d_h178 + d_60 ≤ mc ∧ e_h178 + e_61 ≤ ms) ∧ PX y_59 s_58 (d_h178 + d_60) (e_h178 + e_61))) s_h178 a0 0) ∧ (¬ (x_56 ≤ x1h178) → ((¬ x1h178 = 0 → wja_Mo_callWords_203 mc ms Post PX K_178 a0 y_h178 s_h178 d_h178 e_h178 x1h178 44) ∧ (x1h178 = 0 → wja_Mo_callWords_203 mc ms Post PX K_178 a0 y_h178 s_h178 d_h178 e_h178 x1h178 58)))))
def wla_Mo_callWords_178 (mc ms : Nat) (Post : Ly → St → Nat → Nat → Prop) (PX : Ly → St → Nat → Nat → Prop) (a0 : Nat) (y_h178 : Ly) (s_h178 : St) (d_h178 e_h178 : Nat) (x1h178 : Int32) : Prop := ∃ (I : Ly → St → Nat → Nat → Int32 → Prop) (μ : Ly → St → Nat → Nat → Int32 → Nat), I y_h178 s_h178 d_h178 e_h178 x1h178 ∧ ∀ (u1 : Ly) (u2 : St) (u3 u4 : Nat) (t0 : Int32), I u1 u2 u3 u4 t0 → wba_Mo_callWords_178 mc ms Post PX (fun z1 z2 z3 z4 t0q => I z1 z2 z3 z4 t0q ∧ μ z1 z2 z3 z4 t0q < μ u1 u2 u3 u4 t0) a0 u1 u2 u3 u4 t0
def wja_Mo_callWords_170 (mc ms : Nat) (Post : Ly → St → Nat → Nat → Prop) (PX : Ly → St → Nat → Nat → Prop) (a0 : Nat) (y_j170 : Ly) (s_j170 : St) (d_j170 e_j170 : Nat) (z3j170 : Int32) (z4j170 : Int32) : Prop := (d_j170 ≤ mc ∧ e_j170 ≤ ms) ∧ ∃ mc_52 ms_53 : Nat, (d_j170 + mc_52 ≤ mc ∧ e_j170 + ms_53 ≤ ms) ∧ wa_Mo_signature mc_52 ms_53 y_j170 (fun (y_49 : Ly) (s_48 : St) (r_47 : Int32) (d_50 e_51 : Nat) => (d_j170 + d_50 ≤ mc ∧ e_j170 + e_51 ≤ ms) ∧ xP (uV s_48 a0 90 r_47) (fun s_55 : St => wla_Mo_callWords_178 mc ms Post PX a0 y_49 s_55 (d_j170 + d_50) (e_j170 + e_51) 0)) s_j170 a0 a0 55 z3j170 z4j170
def wja_Mo_callWords_135 (mc ms : Nat) (Post : Ly → St → Nat → Nat → Prop) (PX : Ly → St → Nat → Nat → Prop) (a0 : Nat) (y_j135 : Ly) (s_j135 : St) (d_j135 e_j135 : Nat) : Prop := (d_j135 ≤ mc ∧ e_j135 ≤ ms) ∧ ∃ mc_42 ms_43 : Nat, (d_j135 + mc_42 ≤ mc ∧ e_j135 + ms_43 ≤ ms) ∧ wx_Mo_need mc_42 ms_43 y_j135 (fun (y_39 : Ly) (s_38 : St) (d_40 e_41 : Nat) => (d_j135 + d_40 ≤ mc ∧ e_j135 + e_41 ≤ ms) ∧ wu_Mo_takes y_39 (fun (s_46 : St) (r_45 : Int32) => ((r_45 = 0 → ∃ mc_88 ms_89 : Nat, (d_j135 + d_40 + mc_88 ≤ mc ∧ e_j135 + e_41 + ms_89 ≤ ms) ∧ wx_Mo_type mc_88 ms_89 y_39 (fun (y_85 : Ly) (s_84 : St) (r_83 : Int32) (d_86 e_87 : Nat) => (d_j135 + d_40 + d_86 ≤ mc ∧ e_j135 + e_41 + e_87 ≤ ms) ∧ yP y_39 a0 55 = yP y_85 a0 55 ∧ wja_Mo_callWords_170 mc ms Post PX a0 y_85 s_84 (d_j135 + d_40 + d_86) (e_j135 + e_41 + e_87) (sV s_38 a0 56) r_83) (fun (y_85 : Ly) (s_84 : St) (d_86 e_87 : Nat) => ((d_j135 + d_40 + d_86 ≤ mc ∧ e_j135 + e_41 + e_87 ≤ ms) ∧ PX y_85 s_84 (d_j135 + d_40 + d_86) (e_j135 + e_41 + e_87))) s_46 a0) ∧ (¬ (r_45 = 0) → wja_Mo_callWords_170 mc ms Post PX a0 y_39 s_46 (d_j135 + d_40) (e_j135 + e_41) (sV s_38 a0 56) 0))) s_38 a0 (sV s_38 a0 21)) (fun (y_39 : Ly) (s_38 : St) (d_40 e_41 : Nat) => ((d_j135 + d_40 ≤ mc ∧ e_j135 + e_41 ≤ ms) ∧ PX y_39 s_38 (d_j135 + d_40) (e_j135 + e_41))) s_j135 a0 41
def wja_Mo_callWords_128 (mc ms : Nat) (Post : Ly → St → Nat → Nat → Prop) (PX : Ly → St → Nat → Nat → Prop) (K_49 : Ly → St → Nat → Nat → Int32 → Prop) (a0 : Nat) (y_j128 : Ly) (s_j128 : St) (d_j128 e_j128 : Nat) (x1j128 : Int32) (z1j128 : Int32) (z2j128 : Int32) : Prop := (d_j128 ≤ mc ∧ e_j128 ≤ ms) ∧ xP (uV s_j128 a0 43 (z1j128 + z2j128)) (fun s_103 : St => K_49 y_j128 s_103 d_j128 e_j128 x1j128)
def wja_Mo_callWords_113 (mc ms : Nat) (Post : Ly → St → Nat → Nat → Prop) (PX : Ly → St → Nat → Nat → Prop) (K_49 : Ly → St → Nat → Nat → Int32 → Prop) (a0 : Nat) (y_j113 : Ly) (s_j113 : St) (d_j113 e_j113 : Nat) (z0j113 : Int32) : Prop := (d_j113 ≤ mc ∧ e_j113 ≤ ms) ∧ ((z0j113 = 0 → wja_Mo_callWords_128 mc ms Post PX K_49 a0 y_j113 s_j113 d_j113 e_j113 z0j113 (sV s_j113 a0 43) 0) ∧ (¬ (z0j113 = 0) → wja_Mo_callWords_128 mc ms Post PX K_49 a0 y_j113 s_j113 d_j113 e_j113 z0j113 (sV s_j113 a0 43) 1))
def wja_Mo_callWords_66 (mc ms : Nat) (Post : Ly → St → Nat → Nat → Prop) (PX : Ly → St → Nat → Nat → Prop) (K_49 : Ly → St → Nat → Nat → Int32 → Prop) (a0 : Nat) (y_j66 : Ly) (s_j66 : St) (d_j66 e_j66 : Nat) : Prop := (d_j66 ≤ mc ∧ e_j66 ≤ ms) ∧ ∃ mc_97 ms_98 : Nat, (d_j66 + mc_97 ≤ mc ∧ e_j66 + ms_98 ≤ ms) ∧ wx_Mo_needWord mc_97 ms_98 y_j66 (fun (y_94 : Ly) (s_93 : St) (d_95 e_96 : Nat) => (d_j66 + d_95 ≤ mc ∧ e_j66 + e_96 ≤ ms) ∧ xS y_94 s_93 a0 55 (sV s_93 a0 56) 1 (fun s_100 : St => xP (uV s_100 a0 56 ((sV s_100 a0 56) + 1)) (fun s_101 : St => xA y_94 s_101 a0 39 (sV s_101 a0 43) (fun x_102 : Int32 => ((¬ x_102 = 44 → wja_Mo_callWords_113 mc ms Post PX K_49 a0 y_94 s_101 (d_j66 + d_95) (e_j66 + e_96) 0) ∧ (x_102 = 44 → wja_Mo_callWords_113 mc ms Post PX K_49 a0 y_94 s_101 (d_j66 + d_95) (e_j66 + e_96) 1)))))) (fun (y_94 : Ly) (s_93 : St) (d_95 e_96 : Nat) => ((d_j66 + d_95 ≤ mc ∧ e_j66 + e_96 ≤ ms) ∧ PX y_94 s_93 (d_j66 + d_95) (e_j66 + e_96))) s_j66 a0 (sV s_j66 a0 27)
def wba_Mo_callWords_49 (mc ms : Nat) (Post : Ly → St → Nat → Nat → Prop) (PX : Ly → St → Nat → Nat → Prop) (K_49 : Ly → St → Nat → Nat → Int32 → Prop) (a0 : Nat) (y_h49 : Ly) (s_h49 : St) (d_h49 e_h49 : Nat) (x1h49 : Int32) : Prop := (d_h49 ≤ mc ∧ e_h49 ≤ ms) ∧ ((x1h49 = 0 → wja_Mo_callWords_135 mc ms Post PX a0 y_h49 s_h49 d_h49 e_h49) ∧ (¬ (x1h49 = 0) → ((¬ (sV s_h49 a0 56) = 6 → wja_Mo_callWords_66 mc ms Post PX K_49 a0 y_h49 s_h49 d_h49 e_h49) ∧ ((sV s_h49 a0 56) = 6 → ∃ mc_109 ms_110 : Nat, (d_h49 + mc_109 ≤ mc ∧ e_h49 + ms_110 ≤ ms) ∧ wx_Mo_wrong mc_109 ms_110 y_h49 (fun (y_106 : Ly) (s_105 : St) (d_107 e_108 : Nat) => (d_h49 + d_107 ≤ mc ∧ e_h49 + e_108 ≤ ms) ∧ wja_Mo_callWords_66 mc ms Post PX K_49 a0 y_106 s_105 (d_h49 + d_107) (e_h49 + e_108)) (fun (y_106 : Ly) (s_105 : St) (d_107 e_108 : Nat) => ((d_h49 + d_107 ≤ mc ∧ e_h49 + e_108 ≤ ms) ∧ PX y_106 s_105 (d_h49 + d_107) (e_h49 + e_108))) s_h49 a0))))
def wla_Mo_callWords_49 (mc ms : Nat) (Post : Ly → St → Nat → Nat → Prop) (PX : Ly → St → Nat → Nat → Prop) (a0 : Nat) (y_h49 : Ly) (s_h49 : St) (d_h49 e_h49 : Nat) (x1h49 : Int32) : Prop := ∃ (I : Ly → St → Nat → Nat → Int32 → Prop) (μ : Ly → St → Nat → Nat → Int32 → Nat), I y_h49 s_h49 d_h49 e_h49 x1h49 ∧ ∀ (u1 : Ly) (u2 : St) (u3 u4 : Nat) (t0 : Int32), I u1 u2 u3 u4 t0 → wba_Mo_callWords_49 mc ms Post PX (fun z1 z2 z3 z4 t0q => I z1 z2 z3 z4 t0q ∧ μ z1 z2 z3 z4 t0q < μ u1 u2 u3 u4 t0) a0 u1 u2 u3 u4 t0
def wx_Mo_callWords (mc ms : Nat) (y : Ly) (Post : Ly → St → Nat → Nat → Prop) (PX : Ly → St → Nat → Nat → Prop) (σ : St) (a0 : Nat) : Prop := ∃ mc_6 ms_7 : Nat, (0 + mc_6 ≤ mc ∧ 0 + ms_7 ≤ ms) ∧ wx_Mo_className mc_6 ms_7 y (fun (y_3 : Ly) (s_2 : St) (r_1 : Int32) (d_4 e_5 : Nat) => (0 + d_4 ≤ mc ∧ 0 + e_5 ≤ ms) ∧ xP (uV s_2 a0 88 r_1) (fun s_9 : St => ∃ mc_15 ms_16 : Nat, (0 + d_4 + mc_15 ≤ mc ∧ 0 + e_5 + ms_16 ≤ ms) ∧ wx_Mo_need mc_15 ms_16 y_3 (fun (y_12 : Ly) (s_11 : St) (d_13 e_14 : Nat) => (0 + d_4 + d_13 ≤ mc ∧ 0 + e_5 + e_14 ≤ ms) ∧ ∃ mc_23 ms_24 : Nat, (0 + d_4 + d_13 + mc_23 ≤ mc ∧ 0 + e_5 + e_14 + ms_24 ≤ ms) ∧ wx_Mo_plainName mc_23 ms_24 y_12 (fun (y_20 : Ly) (s_19 : St) (r_18 : Int32) (d_21 e_22 : Nat) => (0 + d_4 + d_13 + d_21 ≤ mc ∧ 0 + e_5 + e_14 + e_22 ≤ ms) ∧ xP (uV s_19 a0 89 r_18) (fun s_26 : St => ∃ mc_32 ms_33 : Nat, (0 + d_4 + d_13 + d_21 + mc_32 ≤ mc ∧ 0 + e_5 + e_14 + e_22 + ms_33 ≤ ms) ∧ wx_Mo_need mc_32 ms_33 y_20 (fun (y_29 : Ly) (s_28 : St) (d_30 e_31 : Nat) => (0 + d_4 + d_13 + d_21 + d_30 ≤ mc ∧ 0 + e_5 + e_14 + e_22 + e_31 ≤ ms) ∧ xP (uV s_28 a0 56 0) (fun s_35 : St => xA y_29 s_35 a0 39 (sV s_35 a0 43) (fun x_36 : Int32 => ((x_36 = 41 → wja_Mo_callWords_135 mc ms Post PX a0 y_29 s_35 (0 + d_4 + d_13 + d_21 + d_30) (0 + e_5 + e_14 + e_22 + e_31)) ∧ (¬ (x_36 = 41) → wla_Mo_callWords_49 mc ms Post PX a0 y_29 s_35 (0 + d_4 + d_13 + d_21 + d_30) (0 + e_5 + e_14 + e_22 + e_31) 1))))) (fun (y_29 : Ly) (s_28 : St) (d_30 e_31 : Nat) => ((0 + d_4 + d_13 + d_21 + d_30 ≤ mc ∧ 0 + e_5 + e_14 + e_22 + e_31 ≤ ms) ∧ PX y_29 s_28 (0 + d_4 + d_13 + d_21 + d_30) (0 + e_5 + e_14 + e_22 + e_31))) s_26 a0 40)) (fun (y_20 : Ly) (s_19 : St) (d_21 e_22 : Nat) => ((0 + d_4 + d_13 + d_21 ≤ mc ∧ 0 + e_5 + e_14 + e_22 ≤ ms) ∧ PX y_20 s_19 (0 + d_4 + d_13 + d_21) (0 + e_5 + e_14 + e_22))) s_11 a0) (fun (y_12 : Ly) (s_11 : St) (d_13 e_14 : Nat) => ((0 + d_4 + d_13 ≤ mc ∧ 0 + e_5 + e_14 ≤ ms) ∧ PX y_12 s_11 (0 + d_4 + d_13) (0 + e_5 + e_14))) s_9 a0 46)) (fun (y_3 : Ly) (s_2 : St) (d_4 e_5 : Nat) => ((0 + d_4 ≤ mc ∧ 0 + e_5 ≤ ms) ∧ PX y_3 s_2 (0 + d_4) (0 + e_5))) σ a0
set_option maxHeartbeats 4000000 in
set_option maxRecDepth 100000 in
theorem cx_Mo_callWords (l : Launch) (D : va_G) (g : Nat → ClassId) (ad : Nat → Nat) (mc ms : Nat) (y : Ly) (Post : Ly → St → Nat → Nat → Prop) (PX : Ly → St → Nat → Nat → Prop) (σ : St) (a0 : Nat) (sz uz : Nat) (h_a0 : cl a0 = 14) (h : wx_Mo_callWords mc ms y Post PX σ a0) : vx_Met l y_Mo_callWords (mw y_Mo_callWords b_Mo_callWords 2 (none)) (ra_Mo_callWords mc ms) (PCu g D [] [.ref (ad a0)] sz uz (ws g ad y σ)) (va_Qv (fun (u : Ly × St × Nat × Nat) => Post u.1 u.2.1 u.2.2.1 u.2.2.2) (QU D (va_A (ws g ad y σ) sz) (fun u => ws g ad u.1 u.2.1) sz uz (fun u => u.2.2.1) (fun u => u.2.2.2)) (va_A (ws g ad y σ) sz)) (XQ D g ad (va_A (ws g ad y σ) sz) sz uz PX) mc ms (va_A (ws g ad y σ) sz) := by
  refine ofVx (by decide +kernel) (Nat.le_of_ble_eq_true rfl) ?_
  intro p e s m args below meth c A Q ls H locs G hsz hP hD hS hl hret hretX
  subst hsz
  have hl : lv_has ls 2 [(0, .ref (ad a0))] := hl
  have hd : 0 ≤ mc ∧ 0 ≤ ms := ⟨Nat.zero_le _, Nat.zero_le _⟩
  unfold wx_Mo_callWords at h
  refine lv_aload_n G.1 G.2.1 d_Mo_callWords_0 rfl (lv_at hl 0 rfl) ?_
  refine lv_aload_n G.1 G.2.1 d_Mo_callWords_1 rfl (lv_at hl 0 rfl) ?_
  obtain ⟨mc_6, ms_7, hr_8, h⟩ := h
  refine uxVi (As := []) (rest := [.ref (ad a0)]) G hP hD hS (cx_Mo_className l D g ad mc_6 ms_7 y _ _ σ a0 H.size (us H) h_a0 h) (fun _ h => absurd h List.not_mem_nil) w9_Mo_className q3555 ⟨Nat.le_of_ble_eq_true rfl, Nat.le_of_ble_eq_true rfl⟩ rfl rfl h_a0 (q := (RMo, TMo, 131)) rfl rfl hl.1 rfl (Nat.le_of_ble_eq_true rfl) rfl hr_8 d_Mo_callWords_2 (fun y_3 s_2 d_4 e_5 H locs q9 ce h hP hD hS hce hcv hcl => ?_) (fun r_1 y_3 s_2 d_4 e_5 H locs h hP hD hS => ?_)
  · skip
    obtain ⟨hd, h⟩ := h
    exact hretX h hP hD hS hd.1 hd.2 hce hcv hcl
  obtain ⟨hd, h⟩ := h
  refine upf G hP hD hS h 88 putV h_a0 iMo tMo tMo_ok nMo rfl (by decide) rfl q3152 rfl rfl fV rfl rfl d_Mo_callWords_5 (fun s_9 H locs h hP hD hS => ?_)
  refine lv_aload_n G.1 G.2.1 d_Mo_callWords_8 rfl (lv_at hl 0 rfl) ?_
  refine lv_bipush (v := 46) G.1 G.2.1 d_Mo_callWords_9 (by decide) ?_
  obtain ⟨mc_15, ms_16, hr_17, h⟩ := h
  refine uxVv (As := [.int 46]) (rest := []) G hP hD hS (cx_Mo_need l D g ad mc_15 ms_16 y_3 _ _ s_9 a0 46 H.size (us H) h_a0 h) (fun _ h => absurd h List.not_mem_nil) w9_Mo_need q3567 ⟨Nat.le_of_ble_eq_true rfl, Nat.le_of_ble_eq_true rfl⟩ rfl rfl h_a0 (q := (RMo, TMo, 131)) rfl rfl hl.1 rfl (Nat.le_of_ble_eq_true rfl) rfl hr_17 d_Mo_callWords_11 (fun y_12 s_11 d_13 e_14 H locs q9 ce h hP hD hS hce hcv hcl => ?_) (fun y_12 s_11 d_13 e_14 H locs h hP hD hS => ?_)
  · skip
    obtain ⟨hd, h⟩ := h
    exact hretX h hP hD hS hd.1 hd.2 hce hcv hcl
  obtain ⟨hd, h⟩ := h
  refine lv_aload_n G.1 G.2.1 d_Mo_callWords_14 rfl (lv_at hl 0 rfl) ?_
  refine lv_aload_n G.1 G.2.1 d_Mo_callWords_15 rfl (lv_at hl 0 rfl) ?_
  obtain ⟨mc_23, ms_24, hr_25, h⟩ := h
  refine uxVi (As := []) (rest := [.ref (ad a0)]) G hP hD hS (cx_Mo_plainName l D g ad mc_23 ms_24 y_12 _ _ s_11 a0 H.size (us H) h_a0 h) (fun _ h => absurd h List.not_mem_nil) w9_Mo_plainName q3563 ⟨Nat.le_of_ble_eq_true rfl, Nat.le_of_ble_eq_true rfl⟩ rfl rfl h_a0 (q := (RMo, TMo, 131)) rfl rfl hl.1 rfl (Nat.le_of_ble_eq_true rfl) rfl hr_25 d_Mo_callWords_16 (fun y_20 s_19 d_21 e_22 H locs q9 ce h hP hD hS hce hcv hcl => ?_) (fun r_18 y_20 s_19 d_21 e_22 H locs h hP hD hS => ?_)
  · skip
    obtain ⟨hd, h⟩ := h
    exact hretX h hP hD hS hd.1 hd.2 hce hcv hcl
  obtain ⟨hd, h⟩ := h
  refine upf G hP hD hS h 89 putV h_a0 iMo tMo tMo_ok nMo rfl (by decide) rfl q3153 rfl rfl fV rfl rfl d_Mo_callWords_19 (fun s_26 H locs h hP hD hS => ?_)
  refine W.eq (g2 := F0 m 22 ls []) rfl ?_
  refine lv_aload_n G.1 G.2.1 d_Mo_callWords_22 rfl (lv_at hl 0 rfl) ?_
  refine lv_bipush (v := 40) G.1 G.2.1 d_Mo_callWords_23 (by decide) ?_
  obtain ⟨mc_32, ms_33, hr_34, h⟩ := h
  refine uxVv (As := [.int 40]) (rest := []) G hP hD hS (cx_Mo_need l D g ad mc_32 ms_33 y_20 _ _ s_26 a0 40 H.size (us H) h_a0 h) (fun _ h => absurd h List.not_mem_nil) w9_Mo_need q3567 ⟨Nat.le_of_ble_eq_true rfl, Nat.le_of_ble_eq_true rfl⟩ rfl rfl h_a0 (q := (RMo, TMo, 131)) rfl rfl hl.1 rfl (Nat.le_of_ble_eq_true rfl) rfl hr_34 d_Mo_callWords_25 (fun y_29 s_28 d_30 e_31 H locs q9 ce h hP hD hS hce hcv hcl => ?_) (fun y_29 s_28 d_30 e_31 H locs h hP hD hS => ?_)
  · skip
    obtain ⟨hd, h⟩ := h
    exact hretX h hP hD hS hd.1 hd.2 hce hcv hcl
  obtain ⟨hd, h⟩ := h
  refine lv_aload_n G.1 G.2.1 d_Mo_callWords_28 rfl (lv_at hl 0 rfl) ?_
  refine lv_iconst (v := 0) G.1 G.2.1 d_Mo_callWords_29 (by decide) ?_
  refine upf G hP hD hS h 56 putV h_a0 iMo tMo tMo_ok nMo rfl (by decide) rfl q3120 rfl rfl fV rfl rfl d_Mo_callWords_30 (fun s_35 H locs h hP hD hS => ?_)
  refine lv_aload_n G.1 G.2.1 d_Mo_callWords_33 rfl (lv_at hl 0 rfl) ?_
  refine ugf (v := .ref (yP y_29 a0 39)) G hP h_a0 iMo rfl 39 (by decide) rfl q3103 rfl rfl d_Mo_callWords_34 ?_
  refine lv_aload_n G.1 G.2.1 d_Mo_callWords_37 rfl (lv_at hl 0 rfl) ?_
  refine ugf (v := .int (sV s_35 a0 43)) G hP h_a0 iMo rfl 43 (by decide) rfl q3107 rfl rfl d_Mo_callWords_38 ?_
  refine ubald G hP (kdp h_a0 rfl) (typ h_a0 rfl) h d_Mo_callWords_41 (fun x_36 h => ?_)
  refine lv_bipush (v := 41) G.1 G.2.1 d_Mo_callWords_42 (by decide) ?_
  have J_135 : ∀ (y_j135 : Ly) (s_j135 : St) (d_j135 e_j135 : Nat) (H : Heap) (locs : List Loc), wja_Mo_callWords_135 mc ms Post PX a0 y_j135 s_j135 d_j135 e_j135 → va_P D CL (ws g ad y_j135 s_j135) H → va_D A (ws g ad y_j135 s_j135) → va_S A s.heap H locs → ∀ ls, lv_has ls 2 [(0, .ref (ad a0))] → W p l e (ra_Mo_callWords mc ms) s m args below meth c H locs d_j135 e_j135 Q (F0 m 135 ls []) := by
    intro y_j135 s_j135 d_j135 e_j135 H locs h hP hD hS ls hl
    unfold wja_Mo_callWords_135 at h
    obtain ⟨hd, h⟩ := h
    refine lv_aload_n G.1 G.2.1 d_Mo_callWords_135 rfl (lv_at hl 0 rfl) ?_
    refine lv_bipush (v := 41) G.1 G.2.1 d_Mo_callWords_136 (by decide) ?_
    obtain ⟨mc_42, ms_43, hr_44, h⟩ := h
    refine uxVv (As := [.int 41]) (rest := []) G hP hD hS (cx_Mo_need l D g ad mc_42 ms_43 y_j135 _ _ s_j135 a0 41 H.size (us H) h_a0 h) (fun _ h => absurd h List.not_mem_nil) w9_Mo_need q3567 ⟨Nat.le_of_ble_eq_true rfl, Nat.le_of_ble_eq_true rfl⟩ rfl rfl h_a0 (q := (RMo, TMo, 131)) rfl rfl hl.1 rfl (Nat.le_of_ble_eq_true rfl) rfl hr_44 d_Mo_callWords_138 (fun y_39 s_38 d_40 e_41 H locs q9 ce h hP hD hS hce hcv hcl => ?_) (fun y_39 s_38 d_40 e_41 H locs h hP hD hS => ?_)
    · skip
      obtain ⟨hd, h⟩ := h
      exact hretX h hP hD hS hd.1 hd.2 hce hcv hcl
    obtain ⟨hd, h⟩ := h
    refine lv_aload_n G.1 G.2.1 d_Mo_callWords_141 rfl (lv_at hl 0 rfl) ?_
    refine lv_aload_n G.1 G.2.1 d_Mo_callWords_142 rfl (lv_at hl 0 rfl) ?_
    refine lv_aload_n G.1 G.2.1 d_Mo_callWords_143 rfl (lv_at hl 0 rfl) ?_
    refine ugf (v := .ref (yP y_39 a0 55)) G hP h_a0 iMo rfl 55 (by decide) rfl q3119 rfl rfl d_Mo_callWords_144 ?_
    refine lv_aload_n G.1 G.2.1 d_Mo_callWords_147 rfl (lv_at hl 0 rfl) ?_
    refine ugf (v := .int (sV s_38 a0 56)) G hP h_a0 iMo rfl 56 (by decide) rfl q3120 rfl rfl d_Mo_callWords_148 ?_
    refine lv_aload_n G.1 G.2.1 d_Mo_callWords_151 rfl (lv_at hl 0 rfl) ?_
    refine lv_aload_n G.1 G.2.1 d_Mo_callWords_152 rfl (lv_at hl 0 rfl) ?_
    refine W.eq (g2 := F0 m 153 ls [.ref (ad a0), .ref (ad a0), .int (sV s_38 a0 56), .ref (yP y_39 a0 55), .ref (ad a0), .ref (ad a0)]) rfl ?_
    refine ugf (v := .int (sV s_38 a0 21)) G hP h_a0 iMo rfl 21 (by decide) rfl q3085 rfl rfl d_Mo_callWords_153 ?_
    refine ucVi (As := [.int (sV s_38 a0 21)]) (rest := [.int (sV s_38 a0 56), .ref (yP y_39 a0 55), .ref (ad a0), .ref (ad a0)]) G hP hD hS (cu_Mo_takes l D g ad y_39 _ s_38 a0 (sV s_38 a0 21) H.size h_a0 h) w9_Mo_takes q3547 ⟨Nat.le_of_ble_eq_true rfl, Nat.le_of_ble_eq_true rfl⟩ rfl rfl h_a0 (q := (RMo, TMo, 131)) rfl rfl hl.1 rfl (Nat.le_of_ble_eq_true rfl) rfl hd d_Mo_callWords_156 (fun r_45 s_46 H locs h hP hD hS => ?_)
    have J_170 : ∀ (y_j170 : Ly) (s_j170 : St) (d_j170 e_j170 : Nat) (z3j170 : Int32) (z4j170 : Int32) (H : Heap) (locs : List Loc), wja_Mo_callWords_170 mc ms Post PX a0 y_j170 s_j170 d_j170 e_j170 z3j170 z4j170 → va_P D CL (ws g ad y_j170 s_j170) H → va_D A (ws g ad y_j170 s_j170) → va_S A s.heap H locs → ∀ ls, lv_has ls 2 [(0, .ref (ad a0))] → W p l e (ra_Mo_callWords mc ms) s m args below meth c H locs d_j170 e_j170 Q (F0 m 170 ls [.int z4j170, .int z3j170, .ref (yP y_j170 a0 55), .ref (ad a0), .ref (ad a0)]) := by
      intro y_j170 s_j170 d_j170 e_j170 z3j170 z4j170 H locs h hP hD hS ls hl
      unfold wja_Mo_callWords_170 at h
      obtain ⟨hd, h⟩ := h
      obtain ⟨mc_52, ms_53, hr_54, h⟩ := h
      refine uaVi (As := [.ref (yP y_j170 a0 55), .int z3j170, .int z4j170]) (rest := [.ref (ad a0)]) G hP hD hS (ca_Mo_signature l D g ad mc_52 ms_53 y_j170 _ s_j170 a0 a0 55 z3j170 z4j170 H.size (us H) h_a0 ⟨(kdp h_a0 rfl), (typ h_a0 rfl)⟩ h) w9_Mo_signature q2623 ⟨Nat.le_of_ble_eq_true rfl, Nat.le_of_ble_eq_true rfl⟩ rfl rfl h_a0 (q := (RMo, TMo, 131)) rfl rfl hl.1 rfl (Nat.le_of_ble_eq_true rfl) rfl hr_54 d_Mo_callWords_170 (fun r_47 y_49 s_48 d_50 e_51 H locs h hP hD hS => ?_)
      obtain ⟨hd, h⟩ := h
      refine upf G hP hD hS h 90 putV h_a0 iMo tMo tMo_ok nMo rfl (by decide) rfl q3154 rfl rfl fV rfl rfl d_Mo_callWords_173 (fun s_55 H locs h hP hD hS => ?_)
      refine lv_iconst (v := 0) G.1 G.2.1 d_Mo_callWords_176 (by decide) ?_
      refine lv_istore_n (lv' := [(1, .int 0), (0, .ref (ad a0))]) G.1 G.2.1 d_Mo_callWords_177 rfl hl (by decide) rfl (fun ls hl => ?_)
      unfold wla_Mo_callWords_178 at h
      obtain ⟨I_178, μ_178, hI_178, hB_178⟩ := h
      have L_178 : ∀ (n_178 : Nat) (y_h178 : Ly) (s_h178 : St) (d_h178 e_h178 : Nat) (x1h178 : Int32), μ_178 y_h178 s_h178 d_h178 e_h178 x1h178 < n_178 → I_178 y_h178 s_h178 d_h178 e_h178 x1h178 → ∀ (H : Heap) (locs : List Loc), va_P D CL (ws g ad y_h178 s_h178) H → va_D A (ws g ad y_h178 s_h178) → va_S A s.heap H locs → ∀ ls, lv_has ls 2 [(0, .ref (ad a0)), (1, .int x1h178)] → W p l e (ra_Mo_callWords mc ms) s m args below meth c H locs d_h178 e_h178 Q (F0 m 178 ls []) := by
        intro n_178
        induction n_178 with
        | zero => intro y_h178 s_h178 d_h178 e_h178 x1h178 hμ; exact absurd hμ (Nat.not_lt_zero _)
        | succ n_178 ih_178 =>
          intro y_h178 s_h178 d_h178 e_h178 x1h178 hμ_178 hJ H locs hP hD hS ls hl
          obtain ⟨K_178, hK_178, h⟩ : ∃ K : Ly → St → Nat → Nat → Int32 → Prop, (∀ z1 z2 z3 z4 (t0 : Int32), K z1 z2 z3 z4 t0 → I_178 z1 z2 z3 z4 t0 ∧ μ_178 z1 z2 z3 z4 t0 < μ_178 y_h178 s_h178 d_h178 e_h178 x1h178) ∧ wba_Mo_callWords_178 mc ms Post PX K a0 y_h178 s_h178 d_h178 e_h178 x1h178 := ⟨_, fun _ _ _ _ _ h => h, hB_178 y_h178 s_h178 d_h178 e_h178 x1h178 hJ⟩
          unfold wba_Mo_callWords_178 at h
          obtain ⟨hd, h⟩ := h
          refine lv_iload_n G.1 G.2.1 d_Mo_callWords_178 rfl (lv_at hl 1 rfl) ?_
          refine lv_aload_n G.1 G.2.1 d_Mo_callWords_179 rfl (lv_at hl 0 rfl) ?_
          refine ugf (v := .ref (yP y_h178 a0 31)) G hP h_a0 iMo rfl 31 (by decide) rfl q3095 rfl rfl d_Mo_callWords_180 ?_
          refine lv_aload_n G.1 G.2.1 d_Mo_callWords_183 rfl (lv_at hl 0 rfl) ?_
          refine ugf (v := .int (sV s_h178 a0 90)) G hP h_a0 iMo rfl 90 (by decide) rfl q3154 rfl rfl d_Mo_callWords_184 ?_
          refine uiald G hP (kdp h_a0 rfl) (typ h_a0 rfl) h d_Mo_callWords_187 (fun x_56 h => ?_)
          refine lv_icmp_ge (tgt := 228) G.1 G.2.1 d_Mo_callWords_188 (by decide) (fun c188 => ?_) (fun c188 => ?_)
          · skip
            have h := h.1 c188
            refine lv_aload_n G.1 G.2.1 d_Mo_callWords_228 rfl (lv_at hl 0 rfl) ?_
            refine lv_iconst (v := 0) G.1 G.2.1 d_Mo_callWords_229 (by decide) ?_
            obtain ⟨mc_62, ms_63, hr_64, h⟩ := h
            refine uxVv (As := [.int 0]) (rest := []) G hP hD hS (cx_Mo_need l D g ad mc_62 ms_63 y_h178 _ _ s_h178 a0 0 H.size (us H) h_a0 h) (fun _ h => absurd h List.not_mem_nil) w9_Mo_need q3567 ⟨Nat.le_of_ble_eq_true rfl, Nat.le_of_ble_eq_true rfl⟩ rfl rfl h_a0 (q := (RMo, TMo, 131)) rfl rfl hl.1 rfl (Nat.le_of_ble_eq_true rfl) rfl hr_64 d_Mo_callWords_230 (fun y_59 s_58 d_60 e_61 H locs q9 ce h hP hD hS hce hcv hcl => ?_) (fun y_59 s_58 d_60 e_61 H locs h hP hD hS => ?_)
            · skip
              obtain ⟨hd, h⟩ := h
              exact hretX h hP hD hS hd.1 hd.2 hce hcv hcl
            have hl := lv_sub (l' := []) hl [] rfl
            obtain ⟨hd, h⟩ := h
            exact hret (y_59, s_58, d_h178 + d_60, e_h178 + e_61) _ _ _ _ _ ls h hP hD hS (Nat.le_refl _) (Nat.le_refl _) hd.1 hd.2 d_Mo_callWords_233
          · skip
            have h := h.2 c188
            refine lv_aload_n G.1 G.2.1 d_Mo_callWords_191 rfl (lv_at hl 0 rfl) ?_
            refine lv_iload_n G.1 G.2.1 d_Mo_callWords_192 rfl (lv_at hl 1 rfl) ?_
            have J_203 : ∀ (y_j203 : Ly) (s_j203 : St) (d_j203 e_j203 : Nat) (x1j203 : Int32) (z1j203 : Int32) (H : Heap) (locs : List Loc), wja_Mo_callWords_203 mc ms Post PX K_178 a0 y_j203 s_j203 d_j203 e_j203 x1j203 z1j203 → va_P D CL (ws g ad y_j203 s_j203) H → va_D A (ws g ad y_j203 s_j203) → va_S A s.heap H locs → ∀ ls, lv_has ls 2 [(0, .ref (ad a0)), (1, .int x1j203)] → W p l e (ra_Mo_callWords mc ms) s m args below meth c H locs d_j203 e_j203 Q (F0 m 203 ls [.int z1j203, .ref (ad a0)]) := by
              intro y_j203 s_j203 d_j203 e_j203 x1j203 z1j203 H locs h hP hD hS ls hl
              unfold wja_Mo_callWords_203 at h
              obtain ⟨hd, h⟩ := h
              obtain ⟨mc_70, ms_71, hr_72, h⟩ := h
              refine uxVv (As := [.int z1j203]) (rest := []) G hP hD hS (cx_Mo_need l D g ad mc_70 ms_71 y_j203 _ _ s_j203 a0 z1j203 H.size (us H) h_a0 h) (fun _ h => absurd h List.not_mem_nil) w9_Mo_need q3567 ⟨Nat.le_of_ble_eq_true rfl, Nat.le_of_ble_eq_true rfl⟩ rfl rfl h_a0 (q := (RMo, TMo, 131)) rfl rfl hl.1 rfl (Nat.le_of_ble_eq_true rfl) rfl hr_72 d_Mo_callWords_203 (fun y_67 s_66 d_68 e_69 H locs q9 ce h hP hD hS hce hcv hcl => ?_) (fun y_67 s_66 d_68 e_69 H locs h hP hD hS => ?_)
              · skip
                obtain ⟨hd, h⟩ := h
                exact hretX h hP hD hS hd.1 hd.2 hce hcv hcl
              obtain ⟨hd, h⟩ := h
              refine lv_aload_n G.1 G.2.1 d_Mo_callWords_206 rfl (lv_at hl 0 rfl) ?_
              refine ugf (v := .ref (yP y_67 a0 87)) G hP h_a0 iMo rfl 87 (by decide) rfl q3151 rfl rfl d_Mo_callWords_207 ?_
              refine lv_iload_n G.1 G.2.1 d_Mo_callWords_210 rfl (lv_at hl 1 rfl) ?_
              refine lv_aload_n G.1 G.2.1 d_Mo_callWords_211 rfl (lv_at hl 0 rfl) ?_
              refine lv_ldcw (v := (-2147483648)) G.1 G.2.1 G.2.2.2.2.2.2.1 (G.2.2.2.2.2.1 _ q3534) d_Mo_callWords_212 ?_
              refine lv_ldcw (v := 2147483647) G.1 G.2.1 G.2.2.2.2.2.2.1 (G.2.2.2.2.2.1 _ q3591) d_Mo_callWords_215 ?_
              obtain ⟨mc_78, ms_79, hr_80, h⟩ := h
              refine uxVi (As := [.int (-2147483648), .int 2147483647]) (rest := [.int x1j203, .ref (yP y_67 a0 87)]) G hP hD hS (cx_Mo_numberIn l D g ad mc_78 ms_79 y_67 _ _ s_66 a0 (-2147483648) 2147483647 H.size (us H) h_a0 h) (fun _ h => absurd h List.not_mem_nil) w9_Mo_numberIn q3592 ⟨Nat.le_of_ble_eq_true rfl, Nat.le_of_ble_eq_true rfl⟩ rfl rfl h_a0 (q := (RMo, TMo, 131)) rfl rfl hl.1 rfl (Nat.le_of_ble_eq_true rfl) rfl hr_80 d_Mo_callWords_218 (fun y_75 s_74 d_76 e_77 H locs q9 ce h hP hD hS hce hcv hcl => ?_) (fun r_73 y_75 s_74 d_76 e_77 H locs h hP hD hS => ?_)
              · skip
                obtain ⟨hd, h⟩ := h
                exact hretX h hP hD hS hd.1 hd.2 hce hcv hcl
              obtain ⟨hd, h⟩ := h
              obtain ⟨n_81, h⟩ := h
              rw [n_81]
              refine uiast G hP hD hS (kdp h_a0 rfl) (typ h_a0 rfl) h d_Mo_callWords_221 (fun s_82 H locs h hP hD hS => ?_)
              refine lv_iinc (v := x1j203 + 1) (lv' := [(1, .int (x1j203 + 1)), (0, .ref (ad a0))]) G.1 G.2.1 d_Mo_callWords_222 hl (k := 1) rfl rfl (by decide) rfl (fun ls hl => ?_)
              refine lv_goto (tgt := 178) G.1 G.2.1 d_Mo_callWords_225 (by decide) ?_
              have h := hK_178 y_75 s_82 (d_j203 + d_68 + d_76) (e_j203 + e_69 + e_77) (x1j203 + 1) h
              exact ih_178 y_75 s_82 (d_j203 + d_68 + d_76) (e_j203 + e_69 + e_77) (x1j203 + 1) (Nat.lt_of_lt_of_le h.2 (Nat.le_of_lt_succ hμ_178)) h.1 H locs hP hD hS ls (lv_sub hl [1, 0] rfl)
            refine lv_if_ne (tgt := 201) G.1 G.2.1 d_Mo_callWords_193 (by decide) (fun c193 => ?_) (fun c193 => ?_)
            · skip
              have h := h.1 c193
              refine lv_bipush (v := 44) G.1 G.2.1 d_Mo_callWords_201 (by decide) ?_
              exact J_203 y_h178 s_h178 d_h178 e_h178 x1h178 44 H locs h hP hD hS ls (lv_sub hl [0, 1] rfl)
            · skip
              have h := h.2 c193
              refine lv_bipush (v := 58) G.1 G.2.1 d_Mo_callWords_196 (by decide) ?_
              refine W.eq (g2 := F0 m 198 ls [.int 58, .ref (ad a0)]) rfl ?_
              refine lv_goto (tgt := 203) G.1 G.2.1 d_Mo_callWords_198 (by decide) ?_
              exact J_203 y_h178 s_h178 d_h178 e_h178 x1h178 58 H locs h hP hD hS ls (lv_sub hl [0, 1] rfl)
      exact L_178 _ y_49 s_55 (d_j170 + d_50) (e_j170 + e_51) 0 (Nat.lt_succ_self _) hI_178 H locs hP hD hS ls (lv_sub hl [1, 0] rfl)
    refine lv_if_eq (tgt := 166) G.1 G.2.1 d_Mo_callWords_159 (by decide) (fun c159 => ?_) (fun c159 => ?_)
    · skip
      have h := h.1 c159
      refine lv_aload_n G.1 G.2.1 d_Mo_callWords_166 rfl (lv_at hl 0 rfl) ?_
      obtain ⟨mc_88, ms_89, hr_90, h⟩ := h
      refine uxVi (As := []) (rest := [.int (sV s_38 a0 56), .ref (yP y_39 a0 55), .ref (ad a0), .ref (ad a0)]) G hP hD hS (cx_Mo_type l D g ad mc_88 ms_89 y_39 _ _ s_46 a0 H.size (us H) h_a0 h) (fun _ h => absurd h List.not_mem_nil) w9_Mo_type q3587 ⟨Nat.le_of_ble_eq_true rfl, Nat.le_of_ble_eq_true rfl⟩ rfl rfl h_a0 (q := (RMo, TMo, 131)) rfl rfl hl.1 rfl (Nat.le_of_ble_eq_true rfl) rfl hr_90 d_Mo_callWords_167 (fun y_85 s_84 d_86 e_87 H locs q9 ce h hP hD hS hce hcv hcl => ?_) (fun r_83 y_85 s_84 d_86 e_87 H locs h hP hD hS => ?_)
      · skip
        obtain ⟨hd, h⟩ := h
        exact hretX h hP hD hS hd.1 hd.2 hce hcv hcl
      obtain ⟨hd, h⟩ := h
      obtain ⟨n_91, h⟩ := h
      rw [n_91]
      exact J_170 y_85 s_84 (d_j135 + d_40 + d_86) (e_j135 + e_41 + e_87) (sV s_38 a0 56) r_83 H locs h hP hD hS ls (lv_sub hl [0] rfl)
    · skip
      have h := h.2 c159
      refine lv_iconst (v := 0) G.1 G.2.1 d_Mo_callWords_162 (by decide) ?_
      refine lv_goto (tgt := 170) G.1 G.2.1 d_Mo_callWords_163 (by decide) ?_
      exact J_170 y_39 s_46 (d_j135 + d_40) (e_j135 + e_41) (sV s_38 a0 56) 0 H locs h hP hD hS ls (lv_sub hl [0] rfl)
  refine W.eq (g2 := F0 m 44 ls [.int 41, .int x_36]) rfl ?_
  refine lv_icmp_eq (tgt := 135) G.1 G.2.1 d_Mo_callWords_44 (by decide) (fun c44 => ?_) (fun c44 => ?_)
  · skip
    have h := h.1 c44
    exact J_135 y_29 s_35 (0 + d_4 + d_13 + d_21 + d_30) (0 + e_5 + e_14 + e_22 + e_31) H locs h hP hD hS ls (lv_sub hl [0] rfl)
  · skip
    have h := h.2 c44
    refine lv_iconst (v := 1) G.1 G.2.1 d_Mo_callWords_47 (by decide) ?_
    refine lv_istore_n (lv' := [(1, .int 1), (0, .ref (ad a0))]) G.1 G.2.1 d_Mo_callWords_48 rfl hl (by decide) rfl (fun ls hl => ?_)
    unfold wla_Mo_callWords_49 at h
    obtain ⟨I_49, μ_49, hI_49, hB_49⟩ := h
    have L_49 : ∀ (n_49 : Nat) (y_h49 : Ly) (s_h49 : St) (d_h49 e_h49 : Nat) (x1h49 : Int32), μ_49 y_h49 s_h49 d_h49 e_h49 x1h49 < n_49 → I_49 y_h49 s_h49 d_h49 e_h49 x1h49 → ∀ (H : Heap) (locs : List Loc), va_P D CL (ws g ad y_h49 s_h49) H → va_D A (ws g ad y_h49 s_h49) → va_S A s.heap H locs → ∀ ls, lv_has ls 2 [(0, .ref (ad a0)), (1, .int x1h49)] → W p l e (ra_Mo_callWords mc ms) s m args below meth c H locs d_h49 e_h49 Q (F0 m 49 ls []) := by
      intro n_49
      induction n_49 with
      | zero => intro y_h49 s_h49 d_h49 e_h49 x1h49 hμ; exact absurd hμ (Nat.not_lt_zero _)
      | succ n_49 ih_49 =>
        intro y_h49 s_h49 d_h49 e_h49 x1h49 hμ_49 hJ H locs hP hD hS ls hl
        obtain ⟨K_49, hK_49, h⟩ : ∃ K : Ly → St → Nat → Nat → Int32 → Prop, (∀ z1 z2 z3 z4 (t0 : Int32), K z1 z2 z3 z4 t0 → I_49 z1 z2 z3 z4 t0 ∧ μ_49 z1 z2 z3 z4 t0 < μ_49 y_h49 s_h49 d_h49 e_h49 x1h49) ∧ wba_Mo_callWords_49 mc ms Post PX K a0 y_h49 s_h49 d_h49 e_h49 x1h49 := ⟨_, fun _ _ _ _ _ h => h, hB_49 y_h49 s_h49 d_h49 e_h49 x1h49 hJ⟩
        unfold wba_Mo_callWords_49 at h
        obtain ⟨hd, h⟩ := h
        refine lv_iload_n G.1 G.2.1 d_Mo_callWords_49 rfl (lv_at hl 1 rfl) ?_
        refine lv_if_eq (tgt := 135) G.1 G.2.1 d_Mo_callWords_50 (by decide) (fun c50 => ?_) (fun c50 => ?_)
        · skip
          have h := h.1 c50
          exact J_135 y_h49 s_h49 d_h49 e_h49 H locs h hP hD hS ls (lv_sub hl [0] rfl)
        · skip
          have h := h.2 c50
          refine lv_aload_n G.1 G.2.1 d_Mo_callWords_53 rfl (lv_at hl 0 rfl) ?_
          refine ugf (v := .int (sV s_h49 a0 56)) G hP h_a0 iMo rfl 56 (by decide) rfl q3120 rfl rfl d_Mo_callWords_54 ?_
          refine lv_bipush (v := 6) G.1 G.2.1 d_Mo_callWords_57 (by decide) ?_
          have J_66 : ∀ (y_j66 : Ly) (s_j66 : St) (d_j66 e_j66 : Nat) (H : Heap) (locs : List Loc), wja_Mo_callWords_66 mc ms Post PX K_49 a0 y_j66 s_j66 d_j66 e_j66 → va_P D CL (ws g ad y_j66 s_j66) H → va_D A (ws g ad y_j66 s_j66) → va_S A s.heap H locs → ∀ ls, lv_has ls 2 [(0, .ref (ad a0))] → W p l e (ra_Mo_callWords mc ms) s m args below meth c H locs d_j66 e_j66 Q (F0 m 66 ls []) := by
            intro y_j66 s_j66 d_j66 e_j66 H locs h hP hD hS ls hl
            unfold wja_Mo_callWords_66 at h
            obtain ⟨hd, h⟩ := h
            refine lv_aload_n G.1 G.2.1 d_Mo_callWords_66 rfl (lv_at hl 0 rfl) ?_
            refine lv_aload_n G.1 G.2.1 d_Mo_callWords_67 rfl (lv_at hl 0 rfl) ?_
            refine ugf (v := .int (sV s_j66 a0 27)) G hP h_a0 iMo rfl 27 (by decide) rfl q3091 rfl rfl d_Mo_callWords_68 ?_
            obtain ⟨mc_97, ms_98, hr_99, h⟩ := h
            refine uxVv (As := [.int (sV s_j66 a0 27)]) (rest := []) G hP hD hS (cx_Mo_needWord l D g ad mc_97 ms_98 y_j66 _ _ s_j66 a0 (sV s_j66 a0 27) H.size (us H) h_a0 h) (fun _ h => absurd h List.not_mem_nil) w9_Mo_needWord q3543 ⟨Nat.le_of_ble_eq_true rfl, Nat.le_of_ble_eq_true rfl⟩ rfl rfl h_a0 (q := (RMo, TMo, 131)) rfl rfl hl.1 rfl (Nat.le_of_ble_eq_true rfl) rfl hr_99 d_Mo_callWords_71 (fun y_94 s_93 d_95 e_96 H locs q9 ce h hP hD hS hce hcv hcl => ?_) (fun y_94 s_93 d_95 e_96 H locs h hP hD hS => ?_)
            · skip
              obtain ⟨hd, h⟩ := h
              exact hretX h hP hD hS hd.1 hd.2 hce hcv hcl
            obtain ⟨hd, h⟩ := h
            refine lv_aload_n G.1 G.2.1 d_Mo_callWords_74 rfl (lv_at hl 0 rfl) ?_
            refine ugf (v := .ref (yP y_94 a0 55)) G hP h_a0 iMo rfl 55 (by decide) rfl q3119 rfl rfl d_Mo_callWords_75 ?_
            refine lv_aload_n G.1 G.2.1 d_Mo_callWords_78 rfl (lv_at hl 0 rfl) ?_
            refine ugf (v := .int (sV s_93 a0 56)) G hP h_a0 iMo rfl 56 (by decide) rfl q3120 rfl rfl d_Mo_callWords_79 ?_
            refine lv_iconst (v := 1) G.1 G.2.1 d_Mo_callWords_82 (by decide) ?_
            refine uiast G hP hD hS (kdp h_a0 rfl) (typ h_a0 rfl) h d_Mo_callWords_83 (fun s_100 H locs h hP hD hS => ?_)
            refine lv_aload_n G.1 G.2.1 d_Mo_callWords_84 rfl (lv_at hl 0 rfl) ?_
            refine W.eq (g2 := F0 m 85 ls [.ref (ad a0)]) rfl ?_
            refine lv_dup G.1 G.2.1 d_Mo_callWords_85 rfl ?_
            refine ugf (v := .int (sV s_100 a0 56)) G hP h_a0 iMo rfl 56 (by decide) rfl q3120 rfl rfl d_Mo_callWords_86 ?_
            refine lv_iconst (v := 1) G.1 G.2.1 d_Mo_callWords_89 (by decide) ?_
            refine lv_iadd G.1 G.2.1 d_Mo_callWords_90 ?_
            refine upf G hP hD hS h 56 putV h_a0 iMo tMo tMo_ok nMo rfl (by decide) rfl q3120 rfl rfl fV rfl rfl d_Mo_callWords_91 (fun s_101 H locs h hP hD hS => ?_)
            refine lv_aload_n G.1 G.2.1 d_Mo_callWords_94 rfl (lv_at hl 0 rfl) ?_
            refine ugf (v := .ref (yP y_94 a0 39)) G hP h_a0 iMo rfl 39 (by decide) rfl q3103 rfl rfl d_Mo_callWords_95 ?_
            refine lv_aload_n G.1 G.2.1 d_Mo_callWords_98 rfl (lv_at hl 0 rfl) ?_
            refine ugf (v := .int (sV s_101 a0 43)) G hP h_a0 iMo rfl 43 (by decide) rfl q3107 rfl rfl d_Mo_callWords_99 ?_
            refine ubald G hP (kdp h_a0 rfl) (typ h_a0 rfl) h d_Mo_callWords_102 (fun x_102 h => ?_)
            refine lv_bipush (v := 44) G.1 G.2.1 d_Mo_callWords_103 (by decide) ?_
            have J_113 : ∀ (y_j113 : Ly) (s_j113 : St) (d_j113 e_j113 : Nat) (z0j113 : Int32) (H : Heap) (locs : List Loc), wja_Mo_callWords_113 mc ms Post PX K_49 a0 y_j113 s_j113 d_j113 e_j113 z0j113 → va_P D CL (ws g ad y_j113 s_j113) H → va_D A (ws g ad y_j113 s_j113) → va_S A s.heap H locs → ∀ ls, lv_has ls 2 [(0, .ref (ad a0))] → W p l e (ra_Mo_callWords mc ms) s m args below meth c H locs d_j113 e_j113 Q (F0 m 113 ls [.int z0j113]) := by
              intro y_j113 s_j113 d_j113 e_j113 z0j113 H locs h hP hD hS ls hl
              unfold wja_Mo_callWords_113 at h
              obtain ⟨hd, h⟩ := h
              refine lv_istore_n (lv' := [(1, .int z0j113), (0, .ref (ad a0))]) G.1 G.2.1 d_Mo_callWords_113 rfl hl (by decide) rfl (fun ls hl => ?_)
              refine lv_aload_n G.1 G.2.1 d_Mo_callWords_114 rfl (lv_at hl 1 rfl) ?_
              refine lv_dup G.1 G.2.1 d_Mo_callWords_115 rfl ?_
              refine ugf (v := .int (sV s_j113 a0 43)) G hP h_a0 iMo rfl 43 (by decide) rfl q3107 rfl rfl d_Mo_callWords_116 ?_
              refine lv_iload_n G.1 G.2.1 d_Mo_callWords_119 rfl (lv_at hl 0 rfl) ?_
              have J_128 : ∀ (y_j128 : Ly) (s_j128 : St) (d_j128 e_j128 : Nat) (x1j128 : Int32) (z1j128 : Int32) (z2j128 : Int32) (H : Heap) (locs : List Loc), wja_Mo_callWords_128 mc ms Post PX K_49 a0 y_j128 s_j128 d_j128 e_j128 x1j128 z1j128 z2j128 → va_P D CL (ws g ad y_j128 s_j128) H → va_D A (ws g ad y_j128 s_j128) → va_S A s.heap H locs → ∀ ls, lv_has ls 2 [(0, .ref (ad a0)), (1, .int x1j128)] → W p l e (ra_Mo_callWords mc ms) s m args below meth c H locs d_j128 e_j128 Q (F0 m 128 ls [.int z2j128, .int z1j128, .ref (ad a0)]) := by
                intro y_j128 s_j128 d_j128 e_j128 x1j128 z1j128 z2j128 H locs h hP hD hS ls hl
                unfold wja_Mo_callWords_128 at h
                obtain ⟨hd, h⟩ := h
                refine lv_iadd G.1 G.2.1 d_Mo_callWords_128 ?_
                refine upf G hP hD hS h 43 putV h_a0 iMo tMo tMo_ok nMo rfl (by decide) rfl q3107 rfl rfl fV rfl rfl d_Mo_callWords_129 (fun s_103 H locs h hP hD hS => ?_)
                refine lv_goto (tgt := 49) G.1 G.2.1 d_Mo_callWords_132 (by decide) ?_
                have h := hK_49 y_j128 s_103 d_j128 e_j128 x1j128 h
                exact ih_49 y_j128 s_103 d_j128 e_j128 x1j128 (Nat.lt_of_lt_of_le h.2 (Nat.le_of_lt_succ hμ_49)) h.1 H locs hP hD hS ls (lv_sub hl [0, 1] rfl)
              refine lv_if_eq (tgt := 127) G.1 G.2.1 d_Mo_callWords_120 (by decide) (fun c120 => ?_) (fun c120 => ?_)
              · skip
                have h := h.1 c120
                refine lv_iconst (v := 0) G.1 G.2.1 d_Mo_callWords_127 (by decide) ?_
                exact J_128 y_j113 s_j113 d_j113 e_j113 z0j113 (sV s_j113 a0 43) 0 H locs h hP hD hS ls (lv_sub hl [1, 0] rfl)
              · skip
                have h := h.2 c120
                refine lv_iconst (v := 1) G.1 G.2.1 d_Mo_callWords_123 (by decide) ?_
                refine lv_goto (tgt := 128) G.1 G.2.1 d_Mo_callWords_124 (by decide) ?_
                exact J_128 y_j113 s_j113 d_j113 e_j113 z0j113 (sV s_j113 a0 43) 1 H locs h hP hD hS ls (lv_sub hl [1, 0] rfl)
            refine lv_icmp_ne (tgt := 112) G.1 G.2.1 d_Mo_callWords_105 (by decide) (fun c105 => ?_) (fun c105 => ?_)
            · skip
              have h := h.1 c105
              refine W.eq (g2 := F0 m 112 ls []) rfl ?_
              refine lv_iconst (v := 0) G.1 G.2.1 d_Mo_callWords_112 (by decide) ?_
              exact J_113 y_94 s_101 (d_j66 + d_95) (e_j66 + e_96) 0 H locs h hP hD hS ls (lv_sub hl [0] rfl)
            · skip
              have h := h.2 c105
              refine W.eq (g2 := F0 m 108 ls []) rfl ?_
              refine lv_iconst (v := 1) G.1 G.2.1 d_Mo_callWords_108 (by decide) ?_
              refine lv_goto (tgt := 113) G.1 G.2.1 d_Mo_callWords_109 (by decide) ?_
              exact J_113 y_94 s_101 (d_j66 + d_95) (e_j66 + e_96) 1 H locs h hP hD hS ls (lv_sub hl [0] rfl)
          refine lv_icmp_ne (tgt := 66) G.1 G.2.1 d_Mo_callWords_59 (by decide) (fun c59 => ?_) (fun c59 => ?_)
          · skip
            have h := h.1 c59
            exact J_66 y_h49 s_h49 d_h49 e_h49 H locs h hP hD hS ls (lv_sub hl [0] rfl)
          · skip
            have h := h.2 c59
            refine lv_aload_n G.1 G.2.1 d_Mo_callWords_62 rfl (lv_at hl 0 rfl) ?_
            obtain ⟨mc_109, ms_110, hr_111, h⟩ := h
            refine uxVv (As := []) (rest := []) G hP hD hS (cx_Mo_wrong l D g ad mc_109 ms_110 y_h49 _ _ s_h49 a0 H.size (us H) h_a0 h) (fun _ h => absurd h List.not_mem_nil) w9_Mo_wrong q3551 ⟨Nat.le_of_ble_eq_true rfl, Nat.le_of_ble_eq_true rfl⟩ rfl rfl h_a0 (q := (RMo, TMo, 131)) rfl rfl hl.1 rfl (Nat.le_of_ble_eq_true rfl) rfl hr_111 d_Mo_callWords_63 (fun y_106 s_105 d_107 e_108 H locs q9 ce h hP hD hS hce hcv hcl => ?_) (fun y_106 s_105 d_107 e_108 H locs h hP hD hS => ?_)
            · skip
              obtain ⟨hd, h⟩ := h
              exact hretX h hP hD hS hd.1 hd.2 hce hcv hcl
            have hl := lv_sub (l' := [(0, .ref (ad a0))]) hl [0] rfl
            obtain ⟨hd, h⟩ := h
            exact J_66 y_106 s_105 (d_h49 + d_107) (e_h49 + e_108) H locs h hP hD hS ls (lv_sub hl [0] rfl)
    exact L_49 _ y_29 s_35 (0 + d_4 + d_13 + d_21 + d_30) (0 + e_5 + e_14 + e_22 + e_31) 1 (Nat.lt_succ_self _) hI_49 H locs hP hD hS ls (lv_sub hl [1, 0] rfl)
def y_Mo_methodWords : MethodName := ⟨"ClassWorksModel", "methodWords", "()V"⟩
abbrev b_Mo_methodWords : ByteArray := prog_14_method_141_code
theorem q3155 : Cond.fieldLink "ClassWorksModel" 1147 "ClassWorksModel" "askedName" "I" ∈ lw_ok := lw_okmem (List.mem_of_getElem? (i := 3155) (by decide +kernel)) rfl
theorem q3156 : Cond.fieldLink "ClassWorksModel" 1150 "ClassWorksModel" "askedSig" "I" ∈ lw_ok := lw_okmem (List.mem_of_getElem? (i := 3156) (by decide +kernel)) rfl
theorem d_Mo_methodWords_0 : decode b_Mo_methodWords 0 = .ok (.aload_n 0, 1) := by decide +kernel
theorem d_Mo_methodWords_1 : decode b_Mo_methodWords 1 = .ok (.aload_n 0, 1) := by decide +kernel
theorem d_Mo_methodWords_2 : decode b_Mo_methodWords 2 = .ok (.invokevirtual 554, 3) := by decide +kernel
theorem d_Mo_methodWords_5 : decode b_Mo_methodWords 5 = .ok (.putfield 1132, 3) := by decide +kernel
theorem d_Mo_methodWords_8 : decode b_Mo_methodWords 8 = .ok (.aload_n 0, 1) := by decide +kernel
theorem d_Mo_methodWords_9 : decode b_Mo_methodWords 9 = .ok (.bipush 46, 2) := by decide +kernel
theorem d_Mo_methodWords_11 : decode b_Mo_methodWords 11 = .ok (.invokevirtual 544, 3) := by decide +kernel
theorem d_Mo_methodWords_14 : decode b_Mo_methodWords 14 = .ok (.aload_n 0, 1) := by decide +kernel
theorem d_Mo_methodWords_15 : decode b_Mo_methodWords 15 = .ok (.aload_n 0, 1) := by decide +kernel
theorem d_Mo_methodWords_16 : decode b_Mo_methodWords 16 = .ok (.invokevirtual 551, 3) := by decide +kernel
theorem d_Mo_methodWords_19 : decode b_Mo_methodWords 19 = .ok (.putfield 1147, 3) := by decide +kernel
theorem d_Mo_methodWords_22 : decode b_Mo_methodWords 22 = .ok (.aload_n 0, 1) := by decide +kernel
theorem d_Mo_methodWords_23 : decode b_Mo_methodWords 23 = .ok (.bipush 40, 2) := by decide +kernel
theorem d_Mo_methodWords_25 : decode b_Mo_methodWords 25 = .ok (.invokevirtual 544, 3) := by decide +kernel
theorem d_Mo_methodWords_28 : decode b_Mo_methodWords 28 = .ok (.aload_n 0, 1) := by decide +kernel
theorem d_Mo_methodWords_29 : decode b_Mo_methodWords 29 = .ok (.iconst 0, 1) := by decide +kernel
theorem d_Mo_methodWords_30 : decode b_Mo_methodWords 30 = .ok (.putfield 557, 3) := by decide +kernel
theorem d_Mo_methodWords_33 : decode b_Mo_methodWords 33 = .ok (.aload_n 0, 1) := by decide +kernel
theorem d_Mo_methodWords_34 : decode b_Mo_methodWords 34 = .ok (.getfield 92, 3) := by decide +kernel
theorem d_Mo_methodWords_37 : decode b_Mo_methodWords 37 = .ok (.aload_n 0, 1) := by decide +kernel
theorem d_Mo_methodWords_38 : decode b_Mo_methodWords 38 = .ok (.getfield 104, 3) := by decide +kernel
theorem d_Mo_methodWords_41 : decode b_Mo_methodWords 41 = .ok (.baload, 1) := by decide +kernel
theorem d_Mo_methodWords_42 : decode b_Mo_methodWords 42 = .ok (.bipush 41, 2) := by decide +kernel
theorem d_Mo_methodWords_44 : decode b_Mo_methodWords 44 = .ok (.if_icmp .eq 67, 3) := by decide +kernel
theorem d_Mo_methodWords_47 : decode b_Mo_methodWords 47 = .ok (.iconst 1, 1) := by decide +kernel
theorem d_Mo_methodWords_48 : decode b_Mo_methodWords 48 = .ok (.istore_n 1, 1) := by decide +kernel
theorem d_Mo_methodWords_49 : decode b_Mo_methodWords 49 = .ok (.iload_n 1, 1) := by decide +kernel
theorem d_Mo_methodWords_50 : decode b_Mo_methodWords 50 = .ok (.ifCond .eq 61, 3) := by decide +kernel
theorem d_Mo_methodWords_53 : decode b_Mo_methodWords 53 = .ok (.aload_n 0, 1) := by decide +kernel
theorem d_Mo_methodWords_54 : decode b_Mo_methodWords 54 = .ok (.getfield 557, 3) := by decide +kernel
theorem d_Mo_methodWords_57 : decode b_Mo_methodWords 57 = .ok (.bipush 6, 2) := by decide +kernel
theorem d_Mo_methodWords_59 : decode b_Mo_methodWords 59 = .ok (.if_icmp .ne 7, 3) := by decide +kernel
theorem d_Mo_methodWords_62 : decode b_Mo_methodWords 62 = .ok (.aload_n 0, 1) := by decide +kernel
theorem d_Mo_methodWords_63 : decode b_Mo_methodWords 63 = .ok (.invokevirtual 535, 3) := by decide +kernel
theorem d_Mo_methodWords_66 : decode b_Mo_methodWords 66 = .ok (.aload_n 0, 1) := by decide +kernel
theorem d_Mo_methodWords_67 : decode b_Mo_methodWords 67 = .ok (.invokevirtual 560, 3) := by decide +kernel
theorem d_Mo_methodWords_70 : decode b_Mo_methodWords 70 = .ok (.aload_n 0, 1) := by decide +kernel
theorem d_Mo_methodWords_71 : decode b_Mo_methodWords 71 = .ok (.getfield 92, 3) := by decide +kernel
theorem d_Mo_methodWords_74 : decode b_Mo_methodWords 74 = .ok (.aload_n 0, 1) := by decide +kernel
theorem d_Mo_methodWords_75 : decode b_Mo_methodWords 75 = .ok (.getfield 104, 3) := by decide +kernel
theorem d_Mo_methodWords_78 : decode b_Mo_methodWords 78 = .ok (.baload, 1) := by decide +kernel
theorem d_Mo_methodWords_79 : decode b_Mo_methodWords 79 = .ok (.bipush 44, 2) := by decide +kernel
theorem d_Mo_methodWords_81 : decode b_Mo_methodWords 81 = .ok (.if_icmp .ne 7, 3) := by decide +kernel
theorem d_Mo_methodWords_84 : decode b_Mo_methodWords 84 = .ok (.iconst 1, 1) := by decide +kernel
theorem d_Mo_methodWords_85 : decode b_Mo_methodWords 85 = .ok (.goto 4, 3) := by decide +kernel
theorem d_Mo_methodWords_88 : decode b_Mo_methodWords 88 = .ok (.iconst 0, 1) := by decide +kernel
theorem d_Mo_methodWords_89 : decode b_Mo_methodWords 89 = .ok (.istore_n 1, 1) := by decide +kernel
theorem d_Mo_methodWords_90 : decode b_Mo_methodWords 90 = .ok (.aload_n 0, 1) := by decide +kernel
theorem d_Mo_methodWords_91 : decode b_Mo_methodWords 91 = .ok (.dup, 1) := by decide +kernel
theorem d_Mo_methodWords_92 : decode b_Mo_methodWords 92 = .ok (.getfield 104, 3) := by decide +kernel
theorem d_Mo_methodWords_95 : decode b_Mo_methodWords 95 = .ok (.iload_n 1, 1) := by decide +kernel
theorem d_Mo_methodWords_96 : decode b_Mo_methodWords 96 = .ok (.ifCond .eq 7, 3) := by decide +kernel
theorem d_Mo_methodWords_99 : decode b_Mo_methodWords 99 = .ok (.iconst 1, 1) := by decide +kernel
theorem d_Mo_methodWords_100 : decode b_Mo_methodWords 100 = .ok (.goto 4, 3) := by decide +kernel
theorem d_Mo_methodWords_103 : decode b_Mo_methodWords 103 = .ok (.iconst 0, 1) := by decide +kernel
theorem d_Mo_methodWords_104 : decode b_Mo_methodWords 104 = .ok (.iadd, 1) := by decide +kernel
theorem d_Mo_methodWords_105 : decode b_Mo_methodWords 105 = .ok (.putfield 104, 3) := by decide +kernel
theorem d_Mo_methodWords_108 : decode b_Mo_methodWords 108 = .ok (.goto (-59), 3) := by decide +kernel
theorem d_Mo_methodWords_111 : decode b_Mo_methodWords 111 = .ok (.aload_n 0, 1) := by decide +kernel
theorem d_Mo_methodWords_112 : decode b_Mo_methodWords 112 = .ok (.bipush 41, 2) := by decide +kernel
theorem d_Mo_methodWords_114 : decode b_Mo_methodWords 114 = .ok (.invokevirtual 544, 3) := by decide +kernel
theorem d_Mo_methodWords_117 : decode b_Mo_methodWords 117 = .ok (.aload_n 0, 1) := by decide +kernel
theorem d_Mo_methodWords_118 : decode b_Mo_methodWords 118 = .ok (.aload_n 0, 1) := by decide +kernel
theorem d_Mo_methodWords_119 : decode b_Mo_methodWords 119 = .ok (.aload_n 0, 1) := by decide +kernel
theorem d_Mo_methodWords_120 : decode b_Mo_methodWords 120 = .ok (.getfield 277, 3) := by decide +kernel
theorem d_Mo_methodWords_123 : decode b_Mo_methodWords 123 = .ok (.aload_n 0, 1) := by decide +kernel
theorem d_Mo_methodWords_124 : decode b_Mo_methodWords 124 = .ok (.getfield 557, 3) := by decide +kernel
theorem d_Mo_methodWords_127 : decode b_Mo_methodWords 127 = .ok (.aload_n 0, 1) := by decide +kernel
theorem d_Mo_methodWords_128 : decode b_Mo_methodWords 128 = .ok (.aload_n 0, 1) := by decide +kernel
theorem d_Mo_methodWords_129 : decode b_Mo_methodWords 129 = .ok (.getfield 217, 3) := by decide +kernel
theorem d_Mo_methodWords_132 : decode b_Mo_methodWords 132 = .ok (.invokevirtual 541, 3) := by decide +kernel
theorem d_Mo_methodWords_135 : decode b_Mo_methodWords 135 = .ok (.ifCond .eq 7, 3) := by decide +kernel
theorem d_Mo_methodWords_138 : decode b_Mo_methodWords 138 = .ok (.iconst 0, 1) := by decide +kernel
theorem d_Mo_methodWords_139 : decode b_Mo_methodWords 139 = .ok (.goto 7, 3) := by decide +kernel
theorem d_Mo_methodWords_142 : decode b_Mo_methodWords 142 = .ok (.aload_n 0, 1) := by decide +kernel
theorem d_Mo_methodWords_143 : decode b_Mo_methodWords 143 = .ok (.invokevirtual 563, 3) := by decide +kernel
theorem d_Mo_methodWords_146 : decode b_Mo_methodWords 146 = .ok (.invokevirtual 254, 3) := by decide +kernel
theorem d_Mo_methodWords_149 : decode b_Mo_methodWords 149 = .ok (.putfield 1150, 3) := by decide +kernel
theorem d_Mo_methodWords_152 : decode b_Mo_methodWords 152 = .ok (.aload_n 0, 1) := by decide +kernel
theorem d_Mo_methodWords_153 : decode b_Mo_methodWords 153 = .ok (.iconst 0, 1) := by decide +kernel
theorem d_Mo_methodWords_154 : decode b_Mo_methodWords 154 = .ok (.invokevirtual 544, 3) := by decide +kernel
theorem d_Mo_methodWords_157 : decode b_Mo_methodWords 157 = .ok (.return_, 1) := by decide +kernel
abbrev ra_Mo_methodWords (mc ms : Nat) : Room := { frames := 6, cells := mc, slots := ms, locals := 176 }
def wja_Mo_methodWords_146 (mc ms : Nat) (Post : Ly → St → Nat → Nat → Prop) (PX : Ly → St → Nat → Nat → Prop) (a0 : Nat) (y_j146 : Ly) (s_j146 : St) (d_j146 e_j146 : Nat) (z3j146 : Int32) (z4j146 : Int32) : Prop := (d_j146 ≤ mc ∧ e_j146 ≤ ms) ∧ ∃ mc_52 ms_53 : Nat, (d_j146 + mc_52 ≤ mc ∧ e_j146 + ms_53 ≤ ms) ∧ wa_Mo_signature mc_52 ms_53 y_j146 (fun (y_49 : Ly) (s_48 : St) (r_47 : Int32) (d_50 e_51 : Nat) => (d_j146 + d_50 ≤ mc ∧ e_j146 + e_51 ≤ ms) ∧ xP (uV s_48 a0 92 r_47) (fun s_55 : St => ∃ mc_61 ms_62 : Nat, (d_j146 + d_50 + mc_61 ≤ mc ∧ e_j146 + e_51 + ms_62 ≤ ms) ∧ wx_Mo_need mc_61 ms_62 y_49 (fun (y_58 : Ly) (s_57 : St) (d_59 e_60 : Nat) => (d_j146 + d_50 + d_59 ≤ mc ∧ e_j146 + e_51 + e_60 ≤ ms) ∧ Post y_58 s_57 (d_j146 + d_50 + d_59) (e_j146 + e_51 + e_60)) (fun (y_58 : Ly) (s_57 : St) (d_59 e_60 : Nat) => ((d_j146 + d_50 + d_59 ≤ mc ∧ e_j146 + e_51 + e_60 ≤ ms) ∧ PX y_58 s_57 (d_j146 + d_50 + d_59) (e_j146 + e_51 + e_60))) s_55 a0 0)) s_j146 a0 a0 55 z3j146 z4j146
def wja_Mo_methodWords_111 (mc ms : Nat) (Post : Ly → St → Nat → Nat → Prop) (PX : Ly → St → Nat → Nat → Prop) (a0 : Nat) (y_j111 : Ly) (s_j111 : St) (d_j111 e_j111 : Nat) : Prop := (d_j111 ≤ mc ∧ e_j111 ≤ ms) ∧ ∃ mc_42 ms_43 : Nat, (d_j111 + mc_42 ≤ mc ∧ e_j111 + ms_43 ≤ ms) ∧ wx_Mo_need mc_42 ms_43 y_j111 (fun (y_39 : Ly) (s_38 : St) (d_40 e_41 : Nat) => (d_j111 + d_40 ≤ mc ∧ e_j111 + e_41 ≤ ms) ∧ wu_Mo_takes y_39 (fun (s_46 : St) (r_45 : Int32) => ((r_45 = 0 → ∃ mc_69 ms_70 : Nat, (d_j111 + d_40 + mc_69 ≤ mc ∧ e_j111 + e_41 + ms_70 ≤ ms) ∧ wx_Mo_type mc_69 ms_70 y_39 (fun (y_66 : Ly) (s_65 : St) (r_64 : Int32) (d_67 e_68 : Nat) => (d_j111 + d_40 + d_67 ≤ mc ∧ e_j111 + e_41 + e_68 ≤ ms) ∧ yP y_39 a0 55 = yP y_66 a0 55 ∧ wja_Mo_methodWords_146 mc ms Post PX a0 y_66 s_65 (d_j111 + d_40 + d_67) (e_j111 + e_41 + e_68) (sV s_38 a0 56) r_64) (fun (y_66 : Ly) (s_65 : St) (d_67 e_68 : Nat) => ((d_j111 + d_40 + d_67 ≤ mc ∧ e_j111 + e_41 + e_68 ≤ ms) ∧ PX y_66 s_65 (d_j111 + d_40 + d_67) (e_j111 + e_41 + e_68))) s_46 a0) ∧ (¬ (r_45 = 0) → wja_Mo_methodWords_146 mc ms Post PX a0 y_39 s_46 (d_j111 + d_40) (e_j111 + e_41) (sV s_38 a0 56) 0))) s_38 a0 (sV s_38 a0 21)) (fun (y_39 : Ly) (s_38 : St) (d_40 e_41 : Nat) => ((d_j111 + d_40 ≤ mc ∧ e_j111 + e_41 ≤ ms) ∧ PX y_39 s_38 (d_j111 + d_40) (e_j111 + e_41))) s_j111 a0 41
def wja_Mo_methodWords_104 (mc ms : Nat) (Post : Ly → St → Nat → Nat → Prop) (PX : Ly → St → Nat → Nat → Prop) (K_49 : Ly → St → Nat → Nat → Int32 → Prop) (a0 : Nat) (y_j104 : Ly) (s_j104 : St) (d_j104 e_j104 : Nat) (x1j104 : Int32) (z1j104 : Int32) (z2j104 : Int32) : Prop := (d_j104 ≤ mc ∧ e_j104 ≤ ms) ∧ xP (uV s_j104 a0 43 (z1j104 + z2j104)) (fun s_82 : St => K_49 y_j104 s_82 d_j104 e_j104 x1j104)
def wja_Mo_methodWords_89 (mc ms : Nat) (Post : Ly → St → Nat → Nat → Prop) (PX : Ly → St → Nat → Nat → Prop) (K_49 : Ly → St → Nat → Nat → Int32 → Prop) (a0 : Nat) (y_j89 : Ly) (s_j89 : St) (d_j89 e_j89 : Nat) (z0j89 : Int32) : Prop := (d_j89 ≤ mc ∧ e_j89 ≤ ms) ∧ ((z0j89 = 0 → wja_Mo_methodWords_104 mc ms Post PX K_49 a0 y_j89 s_j89 d_j89 e_j89 z0j89 (sV s_j89 a0 43) 0) ∧ (¬ (z0j89 = 0) → wja_Mo_methodWords_104 mc ms Post PX K_49 a0 y_j89 s_j89 d_j89 e_j89 z0j89 (sV s_j89 a0 43) 1))
def wja_Mo_methodWords_66 (mc ms : Nat) (Post : Ly → St → Nat → Nat → Prop) (PX : Ly → St → Nat → Nat → Prop) (K_49 : Ly → St → Nat → Nat → Int32 → Prop) (a0 : Nat) (y_j66 : Ly) (s_j66 : St) (d_j66 e_j66 : Nat) : Prop := (d_j66 ≤ mc ∧ e_j66 ≤ ms) ∧ ∃ mc_78 ms_79 : Nat, (d_j66 + mc_78 ≤ mc ∧ e_j66 + ms_79 ≤ ms) ∧ wx_Mo_addType mc_78 ms_79 y_j66 (fun (y_75 : Ly) (s_74 : St) (d_76 e_77 : Nat) => (d_j66 + d_76 ≤ mc ∧ e_j66 + e_77 ≤ ms) ∧ xA y_75 s_74 a0 39 (sV s_74 a0 43) (fun x_81 : Int32 => ((¬ x_81 = 44 → wja_Mo_methodWords_89 mc ms Post PX K_49 a0 y_75 s_74 (d_j66 + d_76) (e_j66 + e_77) 0) ∧ (x_81 = 44 → wja_Mo_methodWords_89 mc ms Post PX K_49 a0 y_75 s_74 (d_j66 + d_76) (e_j66 + e_77) 1)))) (fun (y_75 : Ly) (s_74 : St) (d_76 e_77 : Nat) => ((d_j66 + d_76 ≤ mc ∧ e_j66 + e_77 ≤ ms) ∧ PX y_75 s_74 (d_j66 + d_76) (e_j66 + e_77))) s_j66 a0
def wba_Mo_methodWords_49 (mc ms : Nat) (Post : Ly → St → Nat → Nat → Prop) (PX : Ly → St → Nat → Nat → Prop) (K_49 : Ly → St → Nat → Nat → Int32 → Prop) (a0 : Nat) (y_h49 : Ly) (s_h49 : St) (d_h49 e_h49 : Nat) (x1h49 : Int32) : Prop := (d_h49 ≤ mc ∧ e_h49 ≤ ms) ∧ ((x1h49 = 0 → wja_Mo_methodWords_111 mc ms Post PX a0 y_h49 s_h49 d_h49 e_h49) ∧ (¬ (x1h49 = 0) → ((¬ (sV s_h49 a0 56) = 6 → wja_Mo_methodWords_66 mc ms Post PX K_49 a0 y_h49 s_h49 d_h49 e_h49) ∧ ((sV s_h49 a0 56) = 6 → ∃ mc_88 ms_89 : Nat, (d_h49 + mc_88 ≤ mc ∧ e_h49 + ms_89 ≤ ms) ∧ wx_Mo_wrong mc_88 ms_89 y_h49 (fun (y_85 : Ly) (s_84 : St) (d_86 e_87 : Nat) => (d_h49 + d_86 ≤ mc ∧ e_h49 + e_87 ≤ ms) ∧ wja_Mo_methodWords_66 mc ms Post PX K_49 a0 y_85 s_84 (d_h49 + d_86) (e_h49 + e_87)) (fun (y_85 : Ly) (s_84 : St) (d_86 e_87 : Nat) => ((d_h49 + d_86 ≤ mc ∧ e_h49 + e_87 ≤ ms) ∧ PX y_85 s_84 (d_h49 + d_86) (e_h49 + e_87))) s_h49 a0))))
def wla_Mo_methodWords_49 (mc ms : Nat) (Post : Ly → St → Nat → Nat → Prop) (PX : Ly → St → Nat → Nat → Prop) (a0 : Nat) (y_h49 : Ly) (s_h49 : St) (d_h49 e_h49 : Nat) (x1h49 : Int32) : Prop := ∃ (I : Ly → St → Nat → Nat → Int32 → Prop) (μ : Ly → St → Nat → Nat → Int32 → Nat), I y_h49 s_h49 d_h49 e_h49 x1h49 ∧ ∀ (u1 : Ly) (u2 : St) (u3 u4 : Nat) (t0 : Int32), I u1 u2 u3 u4 t0 → wba_Mo_methodWords_49 mc ms Post PX (fun z1 z2 z3 z4 t0q => I z1 z2 z3 z4 t0q ∧ μ z1 z2 z3 z4 t0q < μ u1 u2 u3 u4 t0) a0 u1 u2 u3 u4 t0
def wx_Mo_methodWords (mc ms : Nat) (y : Ly) (Post : Ly → St → Nat → Nat → Prop) (PX : Ly → St → Nat → Nat → Prop) (σ : St) (a0 : Nat) : Prop := ∃ mc_6 ms_7 : Nat, (0 + mc_6 ≤ mc ∧ 0 + ms_7 ≤ ms) ∧ wx_Mo_className mc_6 ms_7 y (fun (y_3 : Ly) (s_2 : St) (r_1 : Int32) (d_4 e_5 : Nat) => (0 + d_4 ≤ mc ∧ 0 + e_5 ≤ ms) ∧ xP (uV s_2 a0 88 r_1) (fun s_9 : St => ∃ mc_15 ms_16 : Nat, (0 + d_4 + mc_15 ≤ mc ∧ 0 + e_5 + ms_16 ≤ ms) ∧ wx_Mo_need mc_15 ms_16 y_3 (fun (y_12 : Ly) (s_11 : St) (d_13 e_14 : Nat) => (0 + d_4 + d_13 ≤ mc ∧ 0 + e_5 + e_14 ≤ ms) ∧ ∃ mc_23 ms_24 : Nat, (0 + d_4 + d_13 + mc_23 ≤ mc ∧ 0 + e_5 + e_14 + ms_24 ≤ ms) ∧ wx_Mo_plainName mc_23 ms_24 y_12 (fun (y_20 : Ly) (s_19 : St) (r_18 : Int32) (d_21 e_22 : Nat) => (0 + d_4 + d_13 + d_21 ≤ mc ∧ 0 + e_5 + e_14 + e_22 ≤ ms) ∧ xP (uV s_19 a0 91 r_18) (fun s_26 : St => ∃ mc_32 ms_33 : Nat, (0 + d_4 + d_13 + d_21 + mc_32 ≤ mc ∧ 0 + e_5 + e_14 + e_22 + ms_33 ≤ ms) ∧ wx_Mo_need mc_32 ms_33 y_20 (fun (y_29 : Ly) (s_28 : St) (d_30 e_31 : Nat) => (0 + d_4 + d_13 + d_21 + d_30 ≤ mc ∧ 0 + e_5 + e_14 + e_22 + e_31 ≤ ms) ∧ xP (uV s_28 a0 56 0) (fun s_35 : St => xA y_29 s_35 a0 39 (sV s_35 a0 43) (fun x_36 : Int32 => ((x_36 = 41 → wja_Mo_methodWords_111 mc ms Post PX a0 y_29 s_35 (0 + d_4 + d_13 + d_21 + d_30) (0 + e_5 + e_14 + e_22 + e_31)) ∧ (¬ (x_36 = 41) → wla_Mo_methodWords_49 mc ms Post PX a0 y_29 s_35 (0 + d_4 + d_13 + d_21 + d_30) (0 + e_5 + e_14 + e_22 + e_31) 1))))) (fun (y_29 : Ly) (s_28 : St) (d_30 e_31 : Nat) => ((0 + d_4 + d_13 + d_21 + d_30 ≤ mc ∧ 0 + e_5 + e_14 + e_22 + e_31 ≤ ms) ∧ PX y_29 s_28 (0 + d_4 + d_13 + d_21 + d_30) (0 + e_5 + e_14 + e_22 + e_31))) s_26 a0 40)) (fun (y_20 : Ly) (s_19 : St) (d_21 e_22 : Nat) => ((0 + d_4 + d_13 + d_21 ≤ mc ∧ 0 + e_5 + e_14 + e_22 ≤ ms) ∧ PX y_20 s_19 (0 + d_4 + d_13 + d_21) (0 + e_5 + e_14 + e_22))) s_11 a0) (fun (y_12 : Ly) (s_11 : St) (d_13 e_14 : Nat) => ((0 + d_4 + d_13 ≤ mc ∧ 0 + e_5 + e_14 ≤ ms) ∧ PX y_12 s_11 (0 + d_4 + d_13) (0 + e_5 + e_14))) s_9 a0 46)) (fun (y_3 : Ly) (s_2 : St) (d_4 e_5 : Nat) => ((0 + d_4 ≤ mc ∧ 0 + e_5 ≤ ms) ∧ PX y_3 s_2 (0 + d_4) (0 + e_5))) σ a0
set_option maxHeartbeats 4000000 in
set_option maxRecDepth 100000 in
theorem cx_Mo_methodWords (l : Launch) (D : va_G) (g : Nat → ClassId) (ad : Nat → Nat) (mc ms : Nat) (y : Ly) (Post : Ly → St → Nat → Nat → Prop) (PX : Ly → St → Nat → Nat → Prop) (σ : St) (a0 : Nat) (sz uz : Nat) (h_a0 : cl a0 = 14) (h : wx_Mo_methodWords mc ms y Post PX σ a0) : vx_Met l y_Mo_methodWords (mw y_Mo_methodWords b_Mo_methodWords 2 (none)) (ra_Mo_methodWords mc ms) (PCu g D [] [.ref (ad a0)] sz uz (ws g ad y σ)) (va_Qv (fun (u : Ly × St × Nat × Nat) => Post u.1 u.2.1 u.2.2.1 u.2.2.2) (QU D (va_A (ws g ad y σ) sz) (fun u => ws g ad u.1 u.2.1) sz uz (fun u => u.2.2.1) (fun u => u.2.2.2)) (va_A (ws g ad y σ) sz)) (XQ D g ad (va_A (ws g ad y σ) sz) sz uz PX) mc ms (va_A (ws g ad y σ) sz) := by
  refine ofVx (by decide +kernel) (Nat.le_of_ble_eq_true rfl) ?_
  intro p e s m args below meth c A Q ls H locs G hsz hP hD hS hl hret hretX
  subst hsz
  have hl : lv_has ls 2 [(0, .ref (ad a0))] := hl
  have hd : 0 ≤ mc ∧ 0 ≤ ms := ⟨Nat.zero_le _, Nat.zero_le _⟩
  unfold wx_Mo_methodWords at h
  refine lv_aload_n G.1 G.2.1 d_Mo_methodWords_0 rfl (lv_at hl 0 rfl) ?_
  refine lv_aload_n G.1 G.2.1 d_Mo_methodWords_1 rfl (lv_at hl 0 rfl) ?_
  obtain ⟨mc_6, ms_7, hr_8, h⟩ := h
  refine uxVi (As := []) (rest := [.ref (ad a0)]) G hP hD hS (cx_Mo_className l D g ad mc_6 ms_7 y _ _ σ a0 H.size (us H) h_a0 h) (fun _ h => absurd h List.not_mem_nil) w9_Mo_className q3555 ⟨Nat.le_of_ble_eq_true rfl, Nat.le_of_ble_eq_true rfl⟩ rfl rfl h_a0 (q := (RMo, TMo, 131)) rfl rfl hl.1 rfl (Nat.le_of_ble_eq_true rfl) rfl hr_8 d_Mo_methodWords_2 (fun y_3 s_2 d_4 e_5 H locs q9 ce h hP hD hS hce hcv hcl => ?_) (fun r_1 y_3 s_2 d_4 e_5 H locs h hP hD hS => ?_)
  · skip
    obtain ⟨hd, h⟩ := h
    exact hretX h hP hD hS hd.1 hd.2 hce hcv hcl
  obtain ⟨hd, h⟩ := h
  refine upf G hP hD hS h 88 putV h_a0 iMo tMo tMo_ok nMo rfl (by decide) rfl q3152 rfl rfl fV rfl rfl d_Mo_methodWords_5 (fun s_9 H locs h hP hD hS => ?_)
  refine lv_aload_n G.1 G.2.1 d_Mo_methodWords_8 rfl (lv_at hl 0 rfl) ?_
  refine lv_bipush (v := 46) G.1 G.2.1 d_Mo_methodWords_9 (by decide) ?_
  obtain ⟨mc_15, ms_16, hr_17, h⟩ := h
  refine uxVv (As := [.int 46]) (rest := []) G hP hD hS (cx_Mo_need l D g ad mc_15 ms_16 y_3 _ _ s_9 a0 46 H.size (us H) h_a0 h) (fun _ h => absurd h List.not_mem_nil) w9_Mo_need q3567 ⟨Nat.le_of_ble_eq_true rfl, Nat.le_of_ble_eq_true rfl⟩ rfl rfl h_a0 (q := (RMo, TMo, 131)) rfl rfl hl.1 rfl (Nat.le_of_ble_eq_true rfl) rfl hr_17 d_Mo_methodWords_11 (fun y_12 s_11 d_13 e_14 H locs q9 ce h hP hD hS hce hcv hcl => ?_) (fun y_12 s_11 d_13 e_14 H locs h hP hD hS => ?_)
  · skip
    obtain ⟨hd, h⟩ := h
    exact hretX h hP hD hS hd.1 hd.2 hce hcv hcl
  obtain ⟨hd, h⟩ := h
  refine lv_aload_n G.1 G.2.1 d_Mo_methodWords_14 rfl (lv_at hl 0 rfl) ?_
  refine lv_aload_n G.1 G.2.1 d_Mo_methodWords_15 rfl (lv_at hl 0 rfl) ?_
  obtain ⟨mc_23, ms_24, hr_25, h⟩ := h
  refine uxVi (As := []) (rest := [.ref (ad a0)]) G hP hD hS (cx_Mo_plainName l D g ad mc_23 ms_24 y_12 _ _ s_11 a0 H.size (us H) h_a0 h) (fun _ h => absurd h List.not_mem_nil) w9_Mo_plainName q3563 ⟨Nat.le_of_ble_eq_true rfl, Nat.le_of_ble_eq_true rfl⟩ rfl rfl h_a0 (q := (RMo, TMo, 131)) rfl rfl hl.1 rfl (Nat.le_of_ble_eq_true rfl) rfl hr_25 d_Mo_methodWords_16 (fun y_20 s_19 d_21 e_22 H locs q9 ce h hP hD hS hce hcv hcl => ?_) (fun r_18 y_20 s_19 d_21 e_22 H locs h hP hD hS => ?_)
  · skip
    obtain ⟨hd, h⟩ := h
    exact hretX h hP hD hS hd.1 hd.2 hce hcv hcl
  obtain ⟨hd, h⟩ := h
  refine upf G hP hD hS h 91 putV h_a0 iMo tMo tMo_ok nMo rfl (by decide) rfl q3155 rfl rfl fV rfl rfl d_Mo_methodWords_19 (fun s_26 H locs h hP hD hS => ?_)
  refine W.eq (g2 := F0 m 22 ls []) rfl ?_
  refine lv_aload_n G.1 G.2.1 d_Mo_methodWords_22 rfl (lv_at hl 0 rfl) ?_
  refine lv_bipush (v := 40) G.1 G.2.1 d_Mo_methodWords_23 (by decide) ?_
  obtain ⟨mc_32, ms_33, hr_34, h⟩ := h
  refine uxVv (As := [.int 40]) (rest := []) G hP hD hS (cx_Mo_need l D g ad mc_32 ms_33 y_20 _ _ s_26 a0 40 H.size (us H) h_a0 h) (fun _ h => absurd h List.not_mem_nil) w9_Mo_need q3567 ⟨Nat.le_of_ble_eq_true rfl, Nat.le_of_ble_eq_true rfl⟩ rfl rfl h_a0 (q := (RMo, TMo, 131)) rfl rfl hl.1 rfl (Nat.le_of_ble_eq_true rfl) rfl hr_34 d_Mo_methodWords_25 (fun y_29 s_28 d_30 e_31 H locs q9 ce h hP hD hS hce hcv hcl => ?_) (fun y_29 s_28 d_30 e_31 H locs h hP hD hS => ?_)
  · skip
    obtain ⟨hd, h⟩ := h
    exact hretX h hP hD hS hd.1 hd.2 hce hcv hcl
  obtain ⟨hd, h⟩ := h
  refine lv_aload_n G.1 G.2.1 d_Mo_methodWords_28 rfl (lv_at hl 0 rfl) ?_
  refine lv_iconst (v := 0) G.1 G.2.1 d_Mo_methodWords_29 (by decide) ?_
  refine upf G hP hD hS h 56 putV h_a0 iMo tMo tMo_ok nMo rfl (by decide) rfl q3120 rfl rfl fV rfl rfl d_Mo_methodWords_30 (fun s_35 H locs h hP hD hS => ?_)
  refine lv_aload_n G.1 G.2.1 d_Mo_methodWords_33 rfl (lv_at hl 0 rfl) ?_
  refine ugf (v := .ref (yP y_29 a0 39)) G hP h_a0 iMo rfl 39 (by decide) rfl q3103 rfl rfl d_Mo_methodWords_34 ?_
  refine lv_aload_n G.1 G.2.1 d_Mo_methodWords_37 rfl (lv_at hl 0 rfl) ?_
  refine ugf (v := .int (sV s_35 a0 43)) G hP h_a0 iMo rfl 43 (by decide) rfl q3107 rfl rfl d_Mo_methodWords_38 ?_
  refine ubald G hP (kdp h_a0 rfl) (typ h_a0 rfl) h d_Mo_methodWords_41 (fun x_36 h => ?_)
  refine lv_bipush (v := 41) G.1 G.2.1 d_Mo_methodWords_42 (by decide) ?_
  have J_111 : ∀ (y_j111 : Ly) (s_j111 : St) (d_j111 e_j111 : Nat) (H : Heap) (locs : List Loc), wja_Mo_methodWords_111 mc ms Post PX a0 y_j111 s_j111 d_j111 e_j111 → va_P D CL (ws g ad y_j111 s_j111) H → va_D A (ws g ad y_j111 s_j111) → va_S A s.heap H locs → ∀ ls, lv_has ls 2 [(0, .ref (ad a0))] → W p l e (ra_Mo_methodWords mc ms) s m args below meth c H locs d_j111 e_j111 Q (F0 m 111 ls []) := by
    intro y_j111 s_j111 d_j111 e_j111 H locs h hP hD hS ls hl
    unfold wja_Mo_methodWords_111 at h
    obtain ⟨hd, h⟩ := h
    refine lv_aload_n G.1 G.2.1 d_Mo_methodWords_111 rfl (lv_at hl 0 rfl) ?_
    refine lv_bipush (v := 41) G.1 G.2.1 d_Mo_methodWords_112 (by decide) ?_
    obtain ⟨mc_42, ms_43, hr_44, h⟩ := h
    refine uxVv (As := [.int 41]) (rest := []) G hP hD hS (cx_Mo_need l D g ad mc_42 ms_43 y_j111 _ _ s_j111 a0 41 H.size (us H) h_a0 h) (fun _ h => absurd h List.not_mem_nil) w9_Mo_need q3567 ⟨Nat.le_of_ble_eq_true rfl, Nat.le_of_ble_eq_true rfl⟩ rfl rfl h_a0 (q := (RMo, TMo, 131)) rfl rfl hl.1 rfl (Nat.le_of_ble_eq_true rfl) rfl hr_44 d_Mo_methodWords_114 (fun y_39 s_38 d_40 e_41 H locs q9 ce h hP hD hS hce hcv hcl => ?_) (fun y_39 s_38 d_40 e_41 H locs h hP hD hS => ?_)
    · skip
      obtain ⟨hd, h⟩ := h
      exact hretX h hP hD hS hd.1 hd.2 hce hcv hcl
    obtain ⟨hd, h⟩ := h
    refine lv_aload_n G.1 G.2.1 d_Mo_methodWords_117 rfl (lv_at hl 0 rfl) ?_
    refine lv_aload_n G.1 G.2.1 d_Mo_methodWords_118 rfl (lv_at hl 0 rfl) ?_
    refine lv_aload_n G.1 G.2.1 d_Mo_methodWords_119 rfl (lv_at hl 0 rfl) ?_
    refine ugf (v := .ref (yP y_39 a0 55)) G hP h_a0 iMo rfl 55 (by decide) rfl q3119 rfl rfl d_Mo_methodWords_120 ?_
    refine lv_aload_n G.1 G.2.1 d_Mo_methodWords_123 rfl (lv_at hl 0 rfl) ?_
    refine ugf (v := .int (sV s_38 a0 56)) G hP h_a0 iMo rfl 56 (by decide) rfl q3120 rfl rfl d_Mo_methodWords_124 ?_
    refine lv_aload_n G.1 G.2.1 d_Mo_methodWords_127 rfl (lv_at hl 0 rfl) ?_
    refine lv_aload_n G.1 G.2.1 d_Mo_methodWords_128 rfl (lv_at hl 0 rfl) ?_
    refine W.eq (g2 := F0 m 129 ls [.ref (ad a0), .ref (ad a0), .int (sV s_38 a0 56), .ref (yP y_39 a0 55), .ref (ad a0), .ref (ad a0)]) rfl ?_
    refine ugf (v := .int (sV s_38 a0 21)) G hP h_a0 iMo rfl 21 (by decide) rfl q3085 rfl rfl d_Mo_methodWords_129 ?_
    refine ucVi (As := [.int (sV s_38 a0 21)]) (rest := [.int (sV s_38 a0 56), .ref (yP y_39 a0 55), .ref (ad a0), .ref (ad a0)]) G hP hD hS (cu_Mo_takes l D g ad y_39 _ s_38 a0 (sV s_38 a0 21) H.size h_a0 h) w9_Mo_takes q3547 ⟨Nat.le_of_ble_eq_true rfl, Nat.le_of_ble_eq_true rfl⟩ rfl rfl h_a0 (q := (RMo, TMo, 131)) rfl rfl hl.1 rfl (Nat.le_of_ble_eq_true rfl) rfl hd d_Mo_methodWords_132 (fun r_45 s_46 H locs h hP hD hS => ?_)
    have J_146 : ∀ (y_j146 : Ly) (s_j146 : St) (d_j146 e_j146 : Nat) (z3j146 : Int32) (z4j146 : Int32) (H : Heap) (locs : List Loc), wja_Mo_methodWords_146 mc ms Post PX a0 y_j146 s_j146 d_j146 e_j146 z3j146 z4j146 → va_P D CL (ws g ad y_j146 s_j146) H → va_D A (ws g ad y_j146 s_j146) → va_S A s.heap H locs → ∀ ls, lv_has ls 2 [(0, .ref (ad a0))] → W p l e (ra_Mo_methodWords mc ms) s m args below meth c H locs d_j146 e_j146 Q (F0 m 146 ls [.int z4j146, .int z3j146, .ref (yP y_j146 a0 55), .ref (ad a0), .ref (ad a0)]) := by
      intro y_j146 s_j146 d_j146 e_j146 z3j146 z4j146 H locs h hP hD hS ls hl
      unfold wja_Mo_methodWords_146 at h
      obtain ⟨hd, h⟩ := h
      obtain ⟨mc_52, ms_53, hr_54, h⟩ := h
      refine uaVi (As := [.ref (yP y_j146 a0 55), .int z3j146, .int z4j146]) (rest := [.ref (ad a0)]) G hP hD hS (ca_Mo_signature l D g ad mc_52 ms_53 y_j146 _ s_j146 a0 a0 55 z3j146 z4j146 H.size (us H) h_a0 ⟨(kdp h_a0 rfl), (typ h_a0 rfl)⟩ h) w9_Mo_signature q2623 ⟨Nat.le_of_ble_eq_true rfl, Nat.le_of_ble_eq_true rfl⟩ rfl rfl h_a0 (q := (RMo, TMo, 131)) rfl rfl hl.1 rfl (Nat.le_of_ble_eq_true rfl) rfl hr_54 d_Mo_methodWords_146 (fun r_47 y_49 s_48 d_50 e_51 H locs h hP hD hS => ?_)
      obtain ⟨hd, h⟩ := h
      refine upf G hP hD hS h 92 putV h_a0 iMo tMo tMo_ok nMo rfl (by decide) rfl q3156 rfl rfl fV rfl rfl d_Mo_methodWords_149 (fun s_55 H locs h hP hD hS => ?_)
      refine lv_aload_n G.1 G.2.1 d_Mo_methodWords_152 rfl (lv_at hl 0 rfl) ?_
      refine lv_iconst (v := 0) G.1 G.2.1 d_Mo_methodWords_153 (by decide) ?_
      obtain ⟨mc_61, ms_62, hr_63, h⟩ := h
      refine uxVv (As := [.int 0]) (rest := []) G hP hD hS (cx_Mo_need l D g ad mc_61 ms_62 y_49 _ _ s_55 a0 0 H.size (us H) h_a0 h) (fun _ h => absurd h List.not_mem_nil) w9_Mo_need q3567 ⟨Nat.le_of_ble_eq_true rfl, Nat.le_of_ble_eq_true rfl⟩ rfl rfl h_a0 (q := (RMo, TMo, 131)) rfl rfl hl.1 rfl (Nat.le_of_ble_eq_true rfl) rfl hr_63 d_Mo_methodWords_154 (fun y_58 s_57 d_59 e_60 H locs q9 ce h hP hD hS hce hcv hcl => ?_) (fun y_58 s_57 d_59 e_60 H locs h hP hD hS => ?_)
      · skip
        obtain ⟨hd, h⟩ := h
        exact hretX h hP hD hS hd.1 hd.2 hce hcv hcl
      have hl := lv_sub (l' := []) hl [] rfl
      obtain ⟨hd, h⟩ := h
      exact hret (y_58, s_57, d_j146 + d_50 + d_59, e_j146 + e_51 + e_60) _ _ _ _ _ ls h hP hD hS (Nat.le_refl _) (Nat.le_refl _) hd.1 hd.2 d_Mo_methodWords_157
    refine lv_if_eq (tgt := 142) G.1 G.2.1 d_Mo_methodWords_135 (by decide) (fun c135 => ?_) (fun c135 => ?_)
    · skip
      have h := h.1 c135
      refine lv_aload_n G.1 G.2.1 d_Mo_methodWords_142 rfl (lv_at hl 0 rfl) ?_
      obtain ⟨mc_69, ms_70, hr_71, h⟩ := h
      refine uxVi (As := []) (rest := [.int (sV s_38 a0 56), .ref (yP y_39 a0 55), .ref (ad a0), .ref (ad a0)]) G hP hD hS (cx_Mo_type l D g ad mc_69 ms_70 y_39 _ _ s_46 a0 H.size (us H) h_a0 h) (fun _ h => absurd h List.not_mem_nil) w9_Mo_type q3587 ⟨Nat.le_of_ble_eq_true rfl, Nat.le_of_ble_eq_true rfl⟩ rfl rfl h_a0 (q := (RMo, TMo, 131)) rfl rfl hl.1 rfl (Nat.le_of_ble_eq_true rfl) rfl hr_71 d_Mo_methodWords_143 (fun y_66 s_65 d_67 e_68 H locs q9 ce h hP hD hS hce hcv hcl => ?_) (fun r_64 y_66 s_65 d_67 e_68 H locs h hP hD hS => ?_)
      · skip
        obtain ⟨hd, h⟩ := h
        exact hretX h hP hD hS hd.1 hd.2 hce hcv hcl
      obtain ⟨hd, h⟩ := h
      obtain ⟨n_72, h⟩ := h
      rw [n_72]
      exact J_146 y_66 s_65 (d_j111 + d_40 + d_67) (e_j111 + e_41 + e_68) (sV s_38 a0 56) r_64 H locs h hP hD hS ls (lv_sub hl [0] rfl)
    · skip
      have h := h.2 c135
      refine lv_iconst (v := 0) G.1 G.2.1 d_Mo_methodWords_138 (by decide) ?_
      refine lv_goto (tgt := 146) G.1 G.2.1 d_Mo_methodWords_139 (by decide) ?_
      exact J_146 y_39 s_46 (d_j111 + d_40) (e_j111 + e_41) (sV s_38 a0 56) 0 H locs h hP hD hS ls (lv_sub hl [0] rfl)
  refine W.eq (g2 := F0 m 44 ls [.int 41, .int x_36]) rfl ?_
  refine lv_icmp_eq (tgt := 111) G.1 G.2.1 d_Mo_methodWords_44 (by decide) (fun c44 => ?_) (fun c44 => ?_)
  · skip
    have h := h.1 c44
    exact J_111 y_29 s_35 (0 + d_4 + d_13 + d_21 + d_30) (0 + e_5 + e_14 + e_22 + e_31) H locs h hP hD hS ls (lv_sub hl [0] rfl)
  · skip
    have h := h.2 c44
    refine lv_iconst (v := 1) G.1 G.2.1 d_Mo_methodWords_47 (by decide) ?_
    refine lv_istore_n (lv' := [(1, .int 1), (0, .ref (ad a0))]) G.1 G.2.1 d_Mo_methodWords_48 rfl hl (by decide) rfl (fun ls hl => ?_)
    unfold wla_Mo_methodWords_49 at h
    obtain ⟨I_49, μ_49, hI_49, hB_49⟩ := h
    have L_49 : ∀ (n_49 : Nat) (y_h49 : Ly) (s_h49 : St) (d_h49 e_h49 : Nat) (x1h49 : Int32), μ_49 y_h49 s_h49 d_h49 e_h49 x1h49 < n_49 → I_49 y_h49 s_h49 d_h49 e_h49 x1h49 → ∀ (H : Heap) (locs : List Loc), va_P D CL (ws g ad y_h49 s_h49) H → va_D A (ws g ad y_h49 s_h49) → va_S A s.heap H locs → ∀ ls, lv_has ls 2 [(0, .ref (ad a0)), (1, .int x1h49)] → W p l e (ra_Mo_methodWords mc ms) s m args below meth c H locs d_h49 e_h49 Q (F0 m 49 ls []) := by
      intro n_49
      induction n_49 with
      | zero => intro y_h49 s_h49 d_h49 e_h49 x1h49 hμ; exact absurd hμ (Nat.not_lt_zero _)
      | succ n_49 ih_49 =>
        intro y_h49 s_h49 d_h49 e_h49 x1h49 hμ_49 hJ H locs hP hD hS ls hl
        obtain ⟨K_49, hK_49, h⟩ : ∃ K : Ly → St → Nat → Nat → Int32 → Prop, (∀ z1 z2 z3 z4 (t0 : Int32), K z1 z2 z3 z4 t0 → I_49 z1 z2 z3 z4 t0 ∧ μ_49 z1 z2 z3 z4 t0 < μ_49 y_h49 s_h49 d_h49 e_h49 x1h49) ∧ wba_Mo_methodWords_49 mc ms Post PX K a0 y_h49 s_h49 d_h49 e_h49 x1h49 := ⟨_, fun _ _ _ _ _ h => h, hB_49 y_h49 s_h49 d_h49 e_h49 x1h49 hJ⟩
        unfold wba_Mo_methodWords_49 at h
        obtain ⟨hd, h⟩ := h
        refine lv_iload_n G.1 G.2.1 d_Mo_methodWords_49 rfl (lv_at hl 1 rfl) ?_
        refine lv_if_eq (tgt := 111) G.1 G.2.1 d_Mo_methodWords_50 (by decide) (fun c50 => ?_) (fun c50 => ?_)
        · skip
          have h := h.1 c50
          exact J_111 y_h49 s_h49 d_h49 e_h49 H locs h hP hD hS ls (lv_sub hl [0] rfl)
        · skip
          have h := h.2 c50
          refine lv_aload_n G.1 G.2.1 d_Mo_methodWords_53 rfl (lv_at hl 0 rfl) ?_
          refine ugf (v := .int (sV s_h49 a0 56)) G hP h_a0 iMo rfl 56 (by decide) rfl q3120 rfl rfl d_Mo_methodWords_54 ?_
          refine lv_bipush (v := 6) G.1 G.2.1 d_Mo_methodWords_57 (by decide) ?_
          have J_66 : ∀ (y_j66 : Ly) (s_j66 : St) (d_j66 e_j66 : Nat) (H : Heap) (locs : List Loc), wja_Mo_methodWords_66 mc ms Post PX K_49 a0 y_j66 s_j66 d_j66 e_j66 → va_P D CL (ws g ad y_j66 s_j66) H → va_D A (ws g ad y_j66 s_j66) → va_S A s.heap H locs → ∀ ls, lv_has ls 2 [(0, .ref (ad a0))] → W p l e (ra_Mo_methodWords mc ms) s m args below meth c H locs d_j66 e_j66 Q (F0 m 66 ls []) := by
            intro y_j66 s_j66 d_j66 e_j66 H locs h hP hD hS ls hl
            unfold wja_Mo_methodWords_66 at h
            obtain ⟨hd, h⟩ := h
            refine lv_aload_n G.1 G.2.1 d_Mo_methodWords_66 rfl (lv_at hl 0 rfl) ?_
            obtain ⟨mc_78, ms_79, hr_80, h⟩ := h
            refine uxVv (As := []) (rest := []) G hP hD hS (cx_Mo_addType l D g ad mc_78 ms_79 y_j66 _ _ s_j66 a0 H.size (us H) h_a0 h) (fun _ h => absurd h List.not_mem_nil) w9_Mo_addType q3604 ⟨Nat.le_of_ble_eq_true rfl, Nat.le_of_ble_eq_true rfl⟩ rfl rfl h_a0 (q := (RMo, TMo, 131)) rfl rfl hl.1 rfl (Nat.le_of_ble_eq_true rfl) rfl hr_80 d_Mo_methodWords_67 (fun y_75 s_74 d_76 e_77 H locs q9 ce h hP hD hS hce hcv hcl => ?_) (fun y_75 s_74 d_76 e_77 H locs h hP hD hS => ?_)
            · skip
              obtain ⟨hd, h⟩ := h
              exact hretX h hP hD hS hd.1 hd.2 hce hcv hcl
            obtain ⟨hd, h⟩ := h
            refine lv_aload_n G.1 G.2.1 d_Mo_methodWords_70 rfl (lv_at hl 0 rfl) ?_
            refine ugf (v := .ref (yP y_75 a0 39)) G hP h_a0 iMo rfl 39 (by decide) rfl q3103 rfl rfl d_Mo_methodWords_71 ?_
            refine lv_aload_n G.1 G.2.1 d_Mo_methodWords_74 rfl (lv_at hl 0 rfl) ?_
            refine ugf (v := .int (sV s_74 a0 43)) G hP h_a0 iMo rfl 43 (by decide) rfl q3107 rfl rfl d_Mo_methodWords_75 ?_
            refine ubald G hP (kdp h_a0 rfl) (typ h_a0 rfl) h d_Mo_methodWords_78 (fun x_81 h => ?_)
            refine lv_bipush (v := 44) G.1 G.2.1 d_Mo_methodWords_79 (by decide) ?_
            have J_89 : ∀ (y_j89 : Ly) (s_j89 : St) (d_j89 e_j89 : Nat) (z0j89 : Int32) (H : Heap) (locs : List Loc), wja_Mo_methodWords_89 mc ms Post PX K_49 a0 y_j89 s_j89 d_j89 e_j89 z0j89 → va_P D CL (ws g ad y_j89 s_j89) H → va_D A (ws g ad y_j89 s_j89) → va_S A s.heap H locs → ∀ ls, lv_has ls 2 [(0, .ref (ad a0))] → W p l e (ra_Mo_methodWords mc ms) s m args below meth c H locs d_j89 e_j89 Q (F0 m 89 ls [.int z0j89]) := by
              intro y_j89 s_j89 d_j89 e_j89 z0j89 H locs h hP hD hS ls hl
              unfold wja_Mo_methodWords_89 at h
              obtain ⟨hd, h⟩ := h
              refine lv_istore_n (lv' := [(1, .int z0j89), (0, .ref (ad a0))]) G.1 G.2.1 d_Mo_methodWords_89 rfl hl (by decide) rfl (fun ls hl => ?_)
              refine lv_aload_n G.1 G.2.1 d_Mo_methodWords_90 rfl (lv_at hl 1 rfl) ?_
              refine lv_dup G.1 G.2.1 d_Mo_methodWords_91 rfl ?_
              refine ugf (v := .int (sV s_j89 a0 43)) G hP h_a0 iMo rfl 43 (by decide) rfl q3107 rfl rfl d_Mo_methodWords_92 ?_
              refine lv_iload_n G.1 G.2.1 d_Mo_methodWords_95 rfl (lv_at hl 0 rfl) ?_
              have J_104 : ∀ (y_j104 : Ly) (s_j104 : St) (d_j104 e_j104 : Nat) (x1j104 : Int32) (z1j104 : Int32) (z2j104 : Int32) (H : Heap) (locs : List Loc), wja_Mo_methodWords_104 mc ms Post PX K_49 a0 y_j104 s_j104 d_j104 e_j104 x1j104 z1j104 z2j104 → va_P D CL (ws g ad y_j104 s_j104) H → va_D A (ws g ad y_j104 s_j104) → va_S A s.heap H locs → ∀ ls, lv_has ls 2 [(0, .ref (ad a0)), (1, .int x1j104)] → W p l e (ra_Mo_methodWords mc ms) s m args below meth c H locs d_j104 e_j104 Q (F0 m 104 ls [.int z2j104, .int z1j104, .ref (ad a0)]) := by
                intro y_j104 s_j104 d_j104 e_j104 x1j104 z1j104 z2j104 H locs h hP hD hS ls hl
                unfold wja_Mo_methodWords_104 at h
                obtain ⟨hd, h⟩ := h
                refine lv_iadd G.1 G.2.1 d_Mo_methodWords_104 ?_
                refine upf G hP hD hS h 43 putV h_a0 iMo tMo tMo_ok nMo rfl (by decide) rfl q3107 rfl rfl fV rfl rfl d_Mo_methodWords_105 (fun s_82 H locs h hP hD hS => ?_)
                refine lv_goto (tgt := 49) G.1 G.2.1 d_Mo_methodWords_108 (by decide) ?_
                have h := hK_49 y_j104 s_82 d_j104 e_j104 x1j104 h
                exact ih_49 y_j104 s_82 d_j104 e_j104 x1j104 (Nat.lt_of_lt_of_le h.2 (Nat.le_of_lt_succ hμ_49)) h.1 H locs hP hD hS ls (lv_sub hl [0, 1] rfl)
              refine lv_if_eq (tgt := 103) G.1 G.2.1 d_Mo_methodWords_96 (by decide) (fun c96 => ?_) (fun c96 => ?_)
              · skip
                have h := h.1 c96
                refine lv_iconst (v := 0) G.1 G.2.1 d_Mo_methodWords_103 (by decide) ?_
                exact J_104 y_j89 s_j89 d_j89 e_j89 z0j89 (sV s_j89 a0 43) 0 H locs h hP hD hS ls (lv_sub hl [1, 0] rfl)
              · skip
                have h := h.2 c96
                refine lv_iconst (v := 1) G.1 G.2.1 d_Mo_methodWords_99 (by decide) ?_
                refine lv_goto (tgt := 104) G.1 G.2.1 d_Mo_methodWords_100 (by decide) ?_
                exact J_104 y_j89 s_j89 d_j89 e_j89 z0j89 (sV s_j89 a0 43) 1 H locs h hP hD hS ls (lv_sub hl [1, 0] rfl)
            refine lv_icmp_ne (tgt := 88) G.1 G.2.1 d_Mo_methodWords_81 (by decide) (fun c81 => ?_) (fun c81 => ?_)
            · skip
              have h := h.1 c81
              refine lv_iconst (v := 0) G.1 G.2.1 d_Mo_methodWords_88 (by decide) ?_
              exact J_89 y_75 s_74 (d_j66 + d_76) (e_j66 + e_77) 0 H locs h hP hD hS ls (lv_sub hl [0] rfl)
            · skip
              have h := h.2 c81
              refine lv_iconst (v := 1) G.1 G.2.1 d_Mo_methodWords_84 (by decide) ?_
              refine lv_goto (tgt := 89) G.1 G.2.1 d_Mo_methodWords_85 (by decide) ?_
              exact J_89 y_75 s_74 (d_j66 + d_76) (e_j66 + e_77) 1 H locs h hP hD hS ls (lv_sub hl [0] rfl)
          refine lv_icmp_ne (tgt := 66) G.1 G.2.1 d_Mo_methodWords_59 (by decide) (fun c59 => ?_) (fun c59 => ?_)
          · skip
            have h := h.1 c59
            exact J_66 y_h49 s_h49 d_h49 e_h49 H locs h hP hD hS ls (lv_sub hl [0] rfl)
          · skip
            have h := h.2 c59
            refine lv_aload_n G.1 G.2.1 d_Mo_methodWords_62 rfl (lv_at hl 0 rfl) ?_
            obtain ⟨mc_88, ms_89, hr_90, h⟩ := h
            refine uxVv (As := []) (rest := []) G hP hD hS (cx_Mo_wrong l D g ad mc_88 ms_89 y_h49 _ _ s_h49 a0 H.size (us H) h_a0 h) (fun _ h => absurd h List.not_mem_nil) w9_Mo_wrong q3551 ⟨Nat.le_of_ble_eq_true rfl, Nat.le_of_ble_eq_true rfl⟩ rfl rfl h_a0 (q := (RMo, TMo, 131)) rfl rfl hl.1 rfl (Nat.le_of_ble_eq_true rfl) rfl hr_90 d_Mo_methodWords_63 (fun y_85 s_84 d_86 e_87 H locs q9 ce h hP hD hS hce hcv hcl => ?_) (fun y_85 s_84 d_86 e_87 H locs h hP hD hS => ?_)
            · skip
              obtain ⟨hd, h⟩ := h
              exact hretX h hP hD hS hd.1 hd.2 hce hcv hcl
            have hl := lv_sub (l' := [(0, .ref (ad a0))]) hl [0] rfl
            obtain ⟨hd, h⟩ := h
            exact J_66 y_85 s_84 (d_h49 + d_86) (e_h49 + e_87) H locs h hP hD hS ls (lv_sub hl [0] rfl)
    exact L_49 _ y_29 s_35 (0 + d_4 + d_13 + d_21 + d_30) (0 + e_5 + e_14 + e_22 + e_31) 1 (Nat.lt_succ_self _) hI_49 H locs hP hD hS ls (lv_sub hl [1, 0] rfl)
theorem q3806 : Cond.methodLink "ClassWorksModel" 1144 y_Mo_methodWords ∈ lw_ok := lw_okmem (List.mem_of_getElem? (i := 3806) (by decide +kernel)) rfl
theorem q3809 : Cond.code y_Mo_methodWords b_Mo_methodWords 2 (none) ∈ lw_ok := lw_okmem (List.mem_of_getElem? (i := 3809) (by decide +kernel)) rfl
theorem q3808 : Cond.instanceMethod y_Mo_methodWords ∈ lw_ok := lw_okmem (List.mem_of_getElem? (i := 3808) (by decide +kernel)) rfl
theorem q244 : Cond.selects y_Mo_methodWords.cls y_Mo_methodWords y_Mo_methodWords ∈ lw_ok := lw_okmem (List.mem_of_getElem? (i := 244) (by decide +kernel)) rfl
theorem w9_Mo_methodWords : CWv y_Mo_methodWords b_Mo_methodWords 2 (none) 0 ∧ Cond.instanceMethod y_Mo_methodWords ∈ lw_ok ∧ Cond.selects y_Mo_methodWords.cls y_Mo_methodWords y_Mo_methodWords ∈ lw_ok := ⟨⟨q3809, q348, by decide +kernel, by decide +kernel, by decide +kernel⟩, q3808, q244⟩
theorem q3802 : Cond.methodLink "ClassWorksModel" 1141 y_Mo_callWords ∈ lw_ok := lw_okmem (List.mem_of_getElem? (i := 3802) (by decide +kernel)) rfl
theorem q3805 : Cond.code y_Mo_callWords b_Mo_callWords 2 (none) ∈ lw_ok := lw_okmem (List.mem_of_getElem? (i := 3805) (by decide +kernel)) rfl
theorem q3804 : Cond.instanceMethod y_Mo_callWords ∈ lw_ok := lw_okmem (List.mem_of_getElem? (i := 3804) (by decide +kernel)) rfl
theorem q243 : Cond.selects y_Mo_callWords.cls y_Mo_callWords y_Mo_callWords ∈ lw_ok := lw_okmem (List.mem_of_getElem? (i := 243) (by decide +kernel)) rfl
theorem w9_Mo_callWords : CWv y_Mo_callWords b_Mo_callWords 2 (none) 0 ∧ Cond.instanceMethod y_Mo_callWords ∈ lw_ok ∧ Cond.selects y_Mo_callWords.cls y_Mo_callWords y_Mo_callWords ∈ lw_ok := ⟨⟨q3805, q348, by decide +kernel, by decide +kernel, by decide +kernel⟩, q3804, q243⟩
def y_Mo_takesLine : MethodName := ⟨"ClassWorksModel", "takesLine", "(I)Z"⟩
abbrev b_Mo_takesLine : ByteArray := prog_14_method_140_code
theorem d_Mo_takesLine_0 : decode b_Mo_takesLine 0 = .ok (.aload_n 0, 1) := by decide +kernel
theorem d_Mo_takesLine_1 : decode b_Mo_takesLine 1 = .ok (.getfield 1112, 3) := by decide +kernel
theorem d_Mo_takesLine_4 : decode b_Mo_takesLine 4 = .ok (.istore_n 2, 1) := by decide +kernel
theorem d_Mo_takesLine_5 : decode b_Mo_takesLine 5 = .ok (.aload_n 0, 1) := by decide +kernel
theorem d_Mo_takesLine_6 : decode b_Mo_takesLine 6 = .ok (.iconst 0, 1) := by decide +kernel
theorem d_Mo_takesLine_7 : decode b_Mo_takesLine 7 = .ok (.putfield 1112, 3) := by decide +kernel
theorem d_Mo_takesLine_10 : decode b_Mo_takesLine 10 = .ok (.aload_n 0, 1) := by decide +kernel
theorem d_Mo_takesLine_11 : decode b_Mo_takesLine 11 = .ok (.bipush (-2), 2) := by decide +kernel
theorem d_Mo_takesLine_13 : decode b_Mo_takesLine 13 = .ok (.putfield 317, 3) := by decide +kernel
theorem d_Mo_takesLine_16 : decode b_Mo_takesLine 16 = .ok (.iconst 0, 1) := by decide +kernel
theorem d_Mo_takesLine_17 : decode b_Mo_takesLine 17 = .ok (.istore_n 3, 1) := by decide +kernel
theorem d_Mo_takesLine_18 : decode b_Mo_takesLine 18 = .ok (.iconst 0, 1) := by decide +kernel
theorem d_Mo_takesLine_19 : decode b_Mo_takesLine 19 = .ok (.istore 4, 2) := by decide +kernel
theorem d_Mo_takesLine_21 : decode b_Mo_takesLine 21 = .ok (.iload 4, 2) := by decide +kernel
theorem d_Mo_takesLine_23 : decode b_Mo_takesLine 23 = .ok (.iload_n 2, 1) := by decide +kernel
theorem d_Mo_takesLine_24 : decode b_Mo_takesLine 24 = .ok (.if_icmp .gt 80, 3) := by decide +kernel
theorem d_Mo_takesLine_27 : decode b_Mo_takesLine 27 = .ok (.iload 4, 2) := by decide +kernel
theorem d_Mo_takesLine_29 : decode b_Mo_takesLine 29 = .ok (.istore 5, 2) := by decide +kernel
theorem d_Mo_takesLine_31 : decode b_Mo_takesLine 31 = .ok (.iload 5, 2) := by decide +kernel
theorem d_Mo_takesLine_33 : decode b_Mo_takesLine 33 = .ok (.iload_n 2, 1) := by decide +kernel
theorem d_Mo_takesLine_34 : decode b_Mo_takesLine 34 = .ok (.if_icmp .ge 21, 3) := by decide +kernel
theorem d_Mo_takesLine_37 : decode b_Mo_takesLine 37 = .ok (.aload_n 0, 1) := by decide +kernel
theorem d_Mo_takesLine_38 : decode b_Mo_takesLine 38 = .ok (.getfield 314, 3) := by decide +kernel
theorem d_Mo_takesLine_41 : decode b_Mo_takesLine 41 = .ok (.iload 5, 2) := by decide +kernel
theorem d_Mo_takesLine_43 : decode b_Mo_takesLine 43 = .ok (.baload, 1) := by decide +kernel
theorem d_Mo_takesLine_44 : decode b_Mo_takesLine 44 = .ok (.bipush 10, 2) := by decide +kernel
theorem d_Mo_takesLine_46 : decode b_Mo_takesLine 46 = .ok (.if_icmp .eq 9, 3) := by decide +kernel
theorem d_Mo_takesLine_49 : decode b_Mo_takesLine 49 = .ok (.iinc 5 1, 3) := by decide +kernel
theorem d_Mo_takesLine_52 : decode b_Mo_takesLine 52 = .ok (.goto (-21), 3) := by decide +kernel
theorem d_Mo_takesLine_55 : decode b_Mo_takesLine 55 = .ok (.aload_n 0, 1) := by decide +kernel
theorem d_Mo_takesLine_56 : decode b_Mo_takesLine 56 = .ok (.aload_n 0, 1) := by decide +kernel
theorem d_Mo_takesLine_57 : decode b_Mo_takesLine 57 = .ok (.getfield 314, 3) := by decide +kernel
theorem d_Mo_takesLine_60 : decode b_Mo_takesLine 60 = .ok (.iload 4, 2) := by decide +kernel
theorem d_Mo_takesLine_62 : decode b_Mo_takesLine 62 = .ok (.iload 5, 2) := by decide +kernel
theorem d_Mo_takesLine_64 : decode b_Mo_takesLine 64 = .ok (.invokevirtual 569, 3) := by decide +kernel
theorem d_Mo_takesLine_67 : decode b_Mo_takesLine 67 = .ok (.ifCond .eq 28, 3) := by decide +kernel
theorem d_Mo_takesLine_70 : decode b_Mo_takesLine 70 = .ok (.iload_n 3, 1) := by decide +kernel
theorem d_Mo_takesLine_71 : decode b_Mo_takesLine 71 = .ok (.ifCond .eq 7, 3) := by decide +kernel
theorem d_Mo_takesLine_74 : decode b_Mo_takesLine 74 = .ok (.aload_n 0, 1) := by decide +kernel
theorem d_Mo_takesLine_75 : decode b_Mo_takesLine 75 = .ok (.invokevirtual 535, 3) := by decide +kernel
theorem d_Mo_takesLine_78 : decode b_Mo_takesLine 78 = .ok (.iconst 1, 1) := by decide +kernel
theorem d_Mo_takesLine_79 : decode b_Mo_takesLine 79 = .ok (.istore_n 3, 1) := by decide +kernel
theorem d_Mo_takesLine_80 : decode b_Mo_takesLine 80 = .ok (.iload_n 1, 1) := by decide +kernel
theorem d_Mo_takesLine_81 : decode b_Mo_takesLine 81 = .ok (.ifCond .ne 10, 3) := by decide +kernel
theorem d_Mo_takesLine_84 : decode b_Mo_takesLine 84 = .ok (.aload_n 0, 1) := by decide +kernel
theorem d_Mo_takesLine_85 : decode b_Mo_takesLine 85 = .ok (.invokevirtual 1141, 3) := by decide +kernel
theorem d_Mo_takesLine_88 : decode b_Mo_takesLine 88 = .ok (.goto 7, 3) := by decide +kernel
theorem d_Mo_takesLine_91 : decode b_Mo_takesLine 91 = .ok (.aload_n 0, 1) := by decide +kernel
theorem d_Mo_takesLine_92 : decode b_Mo_takesLine 92 = .ok (.invokevirtual 1144, 3) := by decide +kernel
theorem d_Mo_takesLine_95 : decode b_Mo_takesLine 95 = .ok (.iload 5, 2) := by decide +kernel
theorem d_Mo_takesLine_97 : decode b_Mo_takesLine 97 = .ok (.iconst 1, 1) := by decide +kernel
theorem d_Mo_takesLine_98 : decode b_Mo_takesLine 98 = .ok (.iadd, 1) := by decide +kernel
theorem d_Mo_takesLine_99 : decode b_Mo_takesLine 99 = .ok (.istore 4, 2) := by decide +kernel
theorem d_Mo_takesLine_101 : decode b_Mo_takesLine 101 = .ok (.goto (-80), 3) := by decide +kernel
theorem d_Mo_takesLine_104 : decode b_Mo_takesLine 104 = .ok (.iload_n 3, 1) := by decide +kernel
theorem d_Mo_takesLine_105 : decode b_Mo_takesLine 105 = .ok (.ifCond .ne 9, 3) := by decide +kernel
theorem d_Mo_takesLine_108 : decode b_Mo_takesLine 108 = .ok (.aload_n 0, 1) := by decide +kernel
theorem d_Mo_takesLine_109 : decode b_Mo_takesLine 109 = .ok (.iconst 1, 1) := by decide +kernel
theorem d_Mo_takesLine_110 : decode b_Mo_takesLine 110 = .ok (.iload_n 2, 1) := by decide +kernel
theorem d_Mo_takesLine_111 : decode b_Mo_takesLine 111 = .ok (.invokevirtual 576, 3) := by decide +kernel
theorem d_Mo_takesLine_114 : decode b_Mo_takesLine 114 = .ok (.goto 15, 3) := by decide +kernel
theorem d_Mo_takesLine_117 : decode b_Mo_takesLine 117 = .ok (.astore 4, 2) := by decide +kernel
theorem d_Mo_takesLine_119 : decode b_Mo_takesLine 119 = .ok (.aload_n 0, 1) := by decide +kernel
theorem d_Mo_takesLine_120 : decode b_Mo_takesLine 120 = .ok (.aload_n 0, 1) := by decide +kernel
theorem d_Mo_takesLine_121 : decode b_Mo_takesLine 121 = .ok (.getfield 529, 3) := by decide +kernel
theorem d_Mo_takesLine_124 : decode b_Mo_takesLine 124 = .ok (.putfield 317, 3) := by decide +kernel
theorem d_Mo_takesLine_127 : decode b_Mo_takesLine 127 = .ok (.iconst 0, 1) := by decide +kernel
theorem d_Mo_takesLine_128 : decode b_Mo_takesLine 128 = .ok (.ireturn, 1) := by decide +kernel
theorem d_Mo_takesLine_129 : decode b_Mo_takesLine 129 = .ok (.iconst 1, 1) := by decide +kernel
theorem d_Mo_takesLine_130 : decode b_Mo_takesLine 130 = .ok (.ireturn, 1) := by decide +kernel
abbrev ra_Mo_takesLine (mc ms : Nat) : Room := { frames := 7, cells := mc, slots := ms, locals := 203 }
abbrev hh_Mo_takesLine : List (Nat × Nat × Nat × Nat) := [(18, 114, 117, 267)]
def wja_Mo_takesLine_117 (mc ms : Nat) (Post : Ly → St → Int32 → Nat → Nat → Prop) (a0 : Nat) (y_j117 : Ly) (s_j117 : St) (d_j117 e_j117 : Nat) (z0j117 : Nat) : Prop := (d_j117 ≤ mc ∧ e_j117 ≤ ms) ∧ xP (uV s_j117 a0 86 (sV s_j117 a0 50)) (fun s_3 : St => (nb 0 ∧ Post y_j117 s_3 0 d_j117 e_j117))
def wja_Mo_takesLine_114 (mc ms : Nat) (Post : Ly → St → Int32 → Nat → Nat → Prop) (a0 : Nat) (y_j114 : Ly) (s_j114 : St) (d_j114 e_j114 : Nat) : Prop := (d_j114 ≤ mc ∧ e_j114 ≤ ms) ∧ (nb 1 ∧ Post y_j114 s_j114 1 d_j114 e_j114)
def wja_Mo_takesLine_95 (mc ms : Nat) (Post : Ly → St → Int32 → Nat → Nat → Prop) (K_21 : Ly → St → Nat → Nat → Int32 → Int32 → Int32 → Int32 → Prop) (a0 : Nat) (y_j95 : Ly) (s_j95 : St) (d_j95 e_j95 : Nat) (x1j95 : Int32) (x2j95 : Int32) (x3j95 : Int32) (x5j95 : Int32) : Prop := (d_j95 ≤ mc ∧ e_j95 ≤ ms) ∧ K_21 y_j95 s_j95 d_j95 e_j95 x1j95 x2j95 x3j95 (x5j95 + 1)
def wja_Mo_takesLine_78 (mc ms : Nat) (Post : Ly → St → Int32 → Nat → Nat → Prop) (K_21 : Ly → St → Nat → Nat → Int32 → Int32 → Int32 → Int32 → Prop) (a0 : Nat) (y_j78 : Ly) (s_j78 : St) (d_j78 e_j78 : Nat) (x1j78 : Int32) (x2j78 : Int32) (x5j78 : Int32) : Prop := (d_j78 ≤ mc ∧ e_j78 ≤ ms) ∧ ((¬ x1j78 = 0 → ∃ mc_25 ms_26 : Nat, (d_j78 + mc_25 ≤ mc ∧ e_j78 + ms_26 ≤ ms) ∧ wx_Mo_methodWords mc_25 ms_26 y_j78 (fun (y_22 : Ly) (s_21 : St) (d_23 e_24 : Nat) => (d_j78 + d_23 ≤ mc ∧ e_j78 + e_24 ≤ ms) ∧ wja_Mo_takesLine_95 mc ms Post K_21 a0 y_22 s_21 (d_j78 + d_23) (e_j78 + e_24) x1j78 x2j78 1 x5j78) (fun (y_22 : Ly) (s_21 : St) (d_23 e_24 : Nat) => ∀ q9 : Nat, wja_Mo_takesLine_117 mc ms Post a0 y_22 s_21 (d_j78 + d_23) (e_j78 + e_24) q9) s_j78 a0) ∧ (x1j78 = 0 → ∃ mc_33 ms_34 : Nat, (d_j78 + mc_33 ≤ mc ∧ e_j78 + ms_34 ≤ ms) ∧ wx_Mo_callWords mc_33 ms_34 y_j78 (fun (y_30 : Ly) (s_29 : St) (d_31 e_32 : Nat) => (d_j78 + d_31 ≤ mc ∧ e_j78 + e_32 ≤ ms) ∧ wja_Mo_takesLine_95 mc ms Post K_21 a0 y_30 s_29 (d_j78 + d_31) (e_j78 + e_32) x1j78 x2j78 1 x5j78) (fun (y_30 : Ly) (s_29 : St) (d_31 e_32 : Nat) => ∀ q9 : Nat, wja_Mo_takesLine_117 mc ms Post a0 y_30 s_29 (d_j78 + d_31) (e_j78 + e_32) q9) s_j78 a0))
def wja_Mo_takesLine_55 (mc ms : Nat) (Post : Ly → St → Int32 → Nat → Nat → Prop) (K_21 : Ly → St → Nat → Nat → Int32 → Int32 → Int32 → Int32 → Prop) (a0 : Nat) (y_j55 : Ly) (s_j55 : St) (d_j55 e_j55 : Nat) (x1j55 : Int32) (x2j55 : Int32) (x3j55 : Int32) (x4j55 : Int32) (x5j55 : Int32) : Prop := (d_j55 ≤ mc ∧ e_j55 ≤ ms) ∧ ∃ mc_17 ms_18 : Nat, (d_j55 + mc_17 ≤ mc ∧ e_j55 + ms_18 ≤ ms) ∧ wa_Mo_cutLine mc_17 ms_18 y_j55 (fun (y_14 : Ly) (s_13 : St) (r_12 : Int32) (d_15 e_16 : Nat) => (d_j55 + d_15 ≤ mc ∧ e_j55 + e_16 ≤ ms) ∧ ((r_12 = 0 → wja_Mo_takesLine_95 mc ms Post K_21 a0 y_14 s_13 (d_j55 + d_15) (e_j55 + e_16) x1j55 x2j55 x3j55 x5j55) ∧ (¬ (r_12 = 0) → ((x3j55 = 0 → wja_Mo_takesLine_78 mc ms Post K_21 a0 y_14 s_13 (d_j55 + d_15) (e_j55 + e_16) x1j55 x2j55 x5j55) ∧ (¬ (x3j55 = 0) → ∃ mc_41 ms_42 : Nat, (d_j55 + d_15 + mc_41 ≤ mc ∧ e_j55 + e_16 + ms_42 ≤ ms) ∧ wx_Mo_wrong mc_41 ms_42 y_14 (fun (y_38 : Ly) (s_37 : St) (d_39 e_40 : Nat) => (d_j55 + d_15 + d_39 ≤ mc ∧ e_j55 + e_16 + e_40 ≤ ms) ∧ wja_Mo_takesLine_78 mc ms Post K_21 a0 y_38 s_37 (d_j55 + d_15 + d_39) (e_j55 + e_16 + e_40) x1j55 x2j55 x5j55) (fun (y_38 : Ly) (s_37 : St) (d_39 e_40 : Nat) => ∀ q9 : Nat, wja_Mo_takesLine_117 mc ms Post a0 y_38 s_37 (d_j55 + d_15 + d_39) (e_j55 + e_16 + e_40) q9) s_13 a0))))) s_j55 a0 a0 84 x4j55 x5j55
def wba_Mo_takesLine_31 (mc ms : Nat) (Post : Ly → St → Int32 → Nat → Nat → Prop) (K_21 : Ly → St → Nat → Nat → Int32 → Int32 → Int32 → Int32 → Prop) (K_31 : Ly → St → Nat → Nat → Int32 → Int32 → Int32 → Int32 → Int32 → Prop) (a0 : Nat) (y_h31 : Ly) (s_h31 : St) (d_h31 e_h31 : Nat) (x1h31 : Int32) (x2h31 : Int32) (x3h31 : Int32) (x4h31 : Int32) (x5h31 : Int32) : Prop := (d_h31 ≤ mc ∧ e_h31 ≤ ms) ∧ ((x2h31 ≤ x5h31 → wja_Mo_takesLine_55 mc ms Post K_21 a0 y_h31 s_h31 d_h31 e_h31 x1h31 x2h31 x3h31 x4h31 x5h31) ∧ (¬ (x2h31 ≤ x5h31) → xA y_h31 s_h31 a0 84 x5h31 (fun x_44 : Int32 => ((x_44 = 10 → wja_Mo_takesLine_55 mc ms Post K_21 a0 y_h31 s_h31 d_h31 e_h31 x1h31 x2h31 x3h31 x4h31 x5h31) ∧ (¬ (x_44 = 10) → K_31 y_h31 s_h31 d_h31 e_h31 x1h31 x2h31 x3h31 x4h31 (x5h31 + 1))))))
def wla_Mo_takesLine_31 (mc ms : Nat) (Post : Ly → St → Int32 → Nat → Nat → Prop) (K_21 : Ly → St → Nat → Nat → Int32 → Int32 → Int32 → Int32 → Prop) (a0 : Nat) (y_h31 : Ly) (s_h31 : St) (d_h31 e_h31 : Nat) (x1h31 : Int32) (x2h31 : Int32) (x3h31 : Int32) (x4h31 : Int32) (x5h31 : Int32) : Prop := ∃ (I : Ly → St → Nat → Nat → Int32 → Int32 → Int32 → Int32 → Int32 → Prop) (μ : Ly → St → Nat → Nat → Int32 → Int32 → Int32 → Int32 → Int32 → Nat), I y_h31 s_h31 d_h31 e_h31 x1h31 x2h31 x3h31 x4h31 x5h31 ∧ ∀ (u1 : Ly) (u2 : St) (u3 u4 : Nat) (t0 : Int32) (t1 : Int32) (t2 : Int32) (t3 : Int32) (t4 : Int32), I u1 u2 u3 u4 t0 t1 t2 t3 t4 → wba_Mo_takesLine_31 mc ms Post K_21 (fun z1 z2 z3 z4 t0q t1q t2q t3q t4q => I z1 z2 z3 z4 t0q t1q t2q t3q t4q ∧ μ z1 z2 z3 z4 t0q t1q t2q t3q t4q < μ u1 u2 u3 u4 t0 t1 t2 t3 t4) a0 u1 u2 u3 u4 t0 t1 t2 t3 t4
def wba_Mo_takesLine_21 (mc ms : Nat) (Post : Ly → St → Int32 → Nat → Nat → Prop) (K_21 : Ly → St → Nat → Nat → Int32 → Int32 → Int32 → Int32 → Prop) (a0 : Nat) (y_h21 : Ly) (s_h21 : St) (d_h21 e_h21 : Nat) (x1h21 : Int32) (x2h21 : Int32) (x3h21 : Int32) (x4h21 : Int32) : Prop := (d_h21 ≤ mc ∧ e_h21 ≤ ms) ∧ ((x2h21 < x4h21 → ((¬ x3h21 = 0 → wja_Mo_takesLine_114 mc ms Post a0 y_h21 s_h21 d_h21 e_h21) ∧ (x3h21 = 0 → ∃ mc_9 ms_10 : Nat, (d_h21 + mc_9 ≤ mc ∧ e_h21 + ms_10 ≤ ms) ∧ wx_Mo_refuse mc_9 ms_10 y_h21 (fun (y_6 : Ly) (s_5 : St) (d_7 e_8 : Nat) => (d_h21 + d_7 ≤ mc ∧ e_h21 + e_8 ≤ ms) ∧ wja_Mo_takesLine_114 mc ms Post a0 y_6 s_5 (d_h21 + d_7) (e_h21 + e_8)) (fun (y_6 : Ly) (s_5 : St) (d_7 e_8 : Nat) => ∀ q9 : Nat, wja_Mo_takesLine_117 mc ms Post a0 y_6 s_5 (d_h21 + d_7) (e_h21 + e_8) q9) s_h21 a0 1 x2h21))) ∧ (¬ (x2h21 < x4h21) → wla_Mo_takesLine_31 mc ms Post K_21 a0 y_h21 s_h21 d_h21 e_h21 x1h21 x2h21 x3h21 x4h21 x4h21))
def wla_Mo_takesLine_21 (mc ms : Nat) (Post : Ly → St → Int32 → Nat → Nat → Prop) (a0 : Nat) (y_h21 : Ly) (s_h21 : St) (d_h21 e_h21 : Nat) (x1h21 : Int32) (x2h21 : Int32) (x3h21 : Int32) (x4h21 : Int32) : Prop := ∃ (I : Ly → St → Nat → Nat → Int32 → Int32 → Int32 → Int32 → Prop) (μ : Ly → St → Nat → Nat → Int32 → Int32 → Int32 → Int32 → Nat), I y_h21 s_h21 d_h21 e_h21 x1h21 x2h21 x3h21 x4h21 ∧ ∀ (u1 : Ly) (u2 : St) (u3 u4 : Nat) (t0 : Int32) (t1 : Int32) (t2 : Int32) (t3 : Int32), I u1 u2 u3 u4 t0 t1 t2 t3 → wba_Mo_takesLine_21 mc ms Post (fun z1 z2 z3 z4 t0q t1q t2q t3q => I z1 z2 z3 z4 t0q t1q t2q t3q ∧ μ z1 z2 z3 z4 t0q t1q t2q t3q < μ u1 u2 u3 u4 t0 t1 t2 t3) a0 u1 u2 u3 u4 t0 t1 t2 t3
def wa_Mo_takesLine (mc ms : Nat) (y : Ly) (Post : Ly → St → Int32 → Nat → Nat → Prop) (σ : St) (a0 : Nat) (v1 : Int32) : Prop := xP (uV σ a0 85 0) (fun s_1 : St => xP (uV s_1 a0 86 (-2)) (fun s_2 : St => wla_Mo_takesLine_21 mc ms Post a0 y s_2 0 0 v1 (sV σ a0 85) 0 0))
set_option maxHeartbeats 4000000 in
set_option maxRecDepth 100000 in
theorem ca_Mo_takesLine (l : Launch) (D : va_G) (g : Nat → ClassId) (ad : Nat → Nat) (mc ms : Nat) (y : Ly) (Post : Ly → St → Int32 → Nat → Nat → Prop) (σ : St) (a0 : Nat) (v1 : Int32) (sz uz : Nat) (h_a0 : cl a0 = 14) (h : wa_Mo_takesLine mc ms y Post σ a0 v1) : Met l y_Mo_takesLine (mww y_Mo_takesLine b_Mo_takesLine 6 (some (.boolean)) hh_Mo_takesLine) (ra_Mo_takesLine mc ms) (PCu g D [] [.ref (ad a0), .int v1] sz uz (ws g ad y σ)) (va_Qi (fun (r : Int32) (u : Ly × St × Nat × Nat) => Post u.1 u.2.1 r u.2.2.1 u.2.2.2) (QU D (va_A (ws g ad y σ) sz) (fun u => ws g ad u.1 u.2.1) sz uz (fun u => u.2.2.1) (fun u => u.2.2.2)) (va_A (ws g ad y σ) sz)) mc ms (va_A (ws g ad y σ) sz) := by
  refine ofZuW (by decide +kernel) (Nat.le_of_ble_eq_true rfl) ?_
  intro p e s m args below meth c A Q ls H locs G htab hsz hP hD hS hl hret
  subst hsz
  have hl : lv_has ls 6 [(0, .ref (ad a0)), (1, .int v1)] := hl
  have hd : 0 ≤ mc ∧ 0 ≤ ms := ⟨Nat.zero_le _, Nat.zero_le _⟩
  unfold wa_Mo_takesLine at h
  refine lv_aload_n G.1 G.2.1 d_Mo_takesLine_0 rfl (lv_at hl 0 rfl) ?_
  refine ugf (v := .int (sV σ a0 85)) G hP h_a0 iMo rfl 85 (by decide) rfl q3149 rfl rfl d_Mo_takesLine_1 ?_
  refine lv_istore_n (lv' := [(2, .int (sV σ a0 85)), (0, .ref (ad a0)), (1, .int v1)]) G.1 G.2.1 d_Mo_takesLine_4 rfl hl (by decide) rfl (fun ls hl => ?_)
  refine lv_aload_n G.1 G.2.1 d_Mo_takesLine_5 rfl (lv_at hl 1 rfl) ?_
  refine lv_iconst (v := 0) G.1 G.2.1 d_Mo_takesLine_6 (by decide) ?_
  refine upf G hP hD hS h 85 putV h_a0 iMo tMo tMo_ok nMo rfl (by decide) rfl q3149 rfl rfl fV rfl rfl d_Mo_takesLine_7 (fun s_1 H locs h hP hD hS => ?_)
  refine lv_aload_n G.1 G.2.1 d_Mo_takesLine_10 rfl (lv_at hl 1 rfl) ?_
  refine lv_bipush (v := (-2)) G.1 G.2.1 d_Mo_takesLine_11 (by decide) ?_
  refine upf G hP hD hS h 86 putV h_a0 iMo tMo tMo_ok nMo rfl (by decide) rfl q3150 rfl rfl fV rfl rfl d_Mo_takesLine_13 (fun s_2 H locs h hP hD hS => ?_)
  refine lv_iconst (v := 0) G.1 G.2.1 d_Mo_takesLine_16 (by decide) ?_
  refine lv_istore_n (lv' := [(3, .int 0), (2, .int (sV σ a0 85)), (0, .ref (ad a0)), (1, .int v1)]) G.1 G.2.1 d_Mo_takesLine_17 rfl hl (by decide) rfl (fun ls hl => ?_)
  refine W.eq (g2 := F0 m 18 ls []) rfl ?_
  refine lv_iconst (v := 0) G.1 G.2.1 d_Mo_takesLine_18 (by decide) ?_
  refine lv_istore (lv' := [(4, .int 0), (3, .int 0), (2, .int (sV σ a0 85)), (0, .ref (ad a0)), (1, .int v1)]) G.1 G.2.1 d_Mo_takesLine_19 hl (by decide) rfl (fun ls hl => ?_)
  unfold wla_Mo_takesLine_21 at h
  obtain ⟨I_21, μ_21, hI_21, hB_21⟩ := h
  have L_21 : ∀ (n_21 : Nat) (y_h21 : Ly) (s_h21 : St) (d_h21 e_h21 : Nat) (x1h21 : Int32) (x2h21 : Int32) (x3h21 : Int32) (x4h21 : Int32), μ_21 y_h21 s_h21 d_h21 e_h21 x1h21 x2h21 x3h21 x4h21 < n_21 → I_21 y_h21 s_h21 d_h21 e_h21 x1h21 x2h21 x3h21 x4h21 → ∀ (H : Heap) (locs : List Loc), va_P D CL (ws g ad y_h21 s_h21) H → va_D A (ws g ad y_h21 s_h21) → va_S A s.heap H locs → ∀ ls, lv_has ls 6 [(0, .ref (ad a0)), (1, .int x1h21), (2, .int x2h21), (3, .int x3h21), (4, .int x4h21)] → W p l e (ra_Mo_takesLine mc ms) s m args below meth c H locs d_h21 e_h21 Q (F0 m 21 ls []) := by
    intro n_21
    induction n_21 with
    | zero => intro y_h21 s_h21 d_h21 e_h21 x1h21 x2h21 x3h21 x4h21 hμ; exact absurd hμ (Nat.not_lt_zero _)
    | succ n_21 ih_21 =>
      intro y_h21 s_h21 d_h21 e_h21 x1h21 x2h21 x3h21 x4h21 hμ_21 hJ H locs hP hD hS ls hl
      obtain ⟨K_21, hK_21, h⟩ : ∃ K : Ly → St → Nat → Nat → Int32 → Int32 → Int32 → Int32 → Prop, (∀ z1 z2 z3 z4 (t0 : Int32) (t1 : Int32) (t2 : Int32) (t3 : Int32), K z1 z2 z3 z4 t0 t1 t2 t3 → I_21 z1 z2 z3 z4 t0 t1 t2 t3 ∧ μ_21 z1 z2 z3 z4 t0 t1 t2 t3 < μ_21 y_h21 s_h21 d_h21 e_h21 x1h21 x2h21 x3h21 x4h21) ∧ wba_Mo_takesLine_21 mc ms Post K a0 y_h21 s_h21 d_h21 e_h21 x1h21 x2h21 x3h21 x4h21 := ⟨_, fun _ _ _ _ _ _ _ _ h => h, hB_21 y_h21 s_h21 d_h21 e_h21 x1h21 x2h21 x3h21 x4h21 hJ⟩
      unfold wba_Mo_takesLine_21 at h
      obtain ⟨hd, h⟩ := h
      refine lv_iload G.1 G.2.1 d_Mo_takesLine_21 (lv_at hl 4 rfl) ?_
      refine lv_iload_n G.1 G.2.1 d_Mo_takesLine_23 rfl (lv_at hl 2 rfl) ?_
      have J_117 : ∀ (y_j117 : Ly) (s_j117 : St) (d_j117 e_j117 : Nat) (z0j117 : Nat) (H : Heap) (locs : List Loc), wja_Mo_takesLine_117 mc ms Post a0 y_j117 s_j117 d_j117 e_j117 z0j117 → va_P D CL (ws g ad y_j117 s_j117) H → va_D A (ws g ad y_j117 s_j117) → va_S A s.heap H locs → ∀ ls, lv_has ls 6 [(0, .ref (ad a0))] → W p l e (ra_Mo_takesLine mc ms) s m args below meth c H locs d_j117 e_j117 Q (F0 m 117 ls [.ref z0j117]) := by
        intro y_j117 s_j117 d_j117 e_j117 z0j117 H locs h hP hD hS ls hl
        unfold wja_Mo_takesLine_117 at h
        obtain ⟨hd, h⟩ := h
        refine lv_astore (lv' := [(4, .ref z0j117), (0, .ref (ad a0))]) G.1 G.2.1 d_Mo_takesLine_117 hl (by decide) rfl (fun ls hl => ?_)
        refine lv_aload_n G.1 G.2.1 d_Mo_takesLine_119 rfl (lv_at hl 1 rfl) ?_
        refine lv_aload_n G.1 G.2.1 d_Mo_takesLine_120 rfl (lv_at hl 1 rfl) ?_
        refine ugf (v := .int (sV s_j117 a0 50)) G hP h_a0 iMo rfl 50 (by decide) rfl q3114 rfl rfl d_Mo_takesLine_121 ?_
        refine upf G hP hD hS h 86 putV h_a0 iMo tMo tMo_ok nMo rfl (by decide) rfl q3150 rfl rfl fV rfl rfl d_Mo_takesLine_124 (fun s_3 H locs h hP hD hS => ?_)
        refine lv_iconst (v := 0) G.1 G.2.1 d_Mo_takesLine_127 (by decide) ?_
        exact hret _ (y_j117, s_3, d_j117, e_j117) _ _ _ _ _ ls (nb_n h.1) h.2 hP hD hS (Nat.le_refl _) (Nat.le_refl _) hd.1 hd.2 d_Mo_takesLine_128
      refine lv_icmp_gt (tgt := 104) G.1 G.2.1 d_Mo_takesLine_24 (by decide) (fun c24 => ?_) (fun c24 => ?_)
      · skip
        have h := h.1 c24
        refine lv_iload_n G.1 G.2.1 d_Mo_takesLine_104 rfl (lv_at hl 3 rfl) ?_
        have J_114 : ∀ (y_j114 : Ly) (s_j114 : St) (d_j114 e_j114 : Nat) (H : Heap) (locs : List Loc), wja_Mo_takesLine_114 mc ms Post a0 y_j114 s_j114 d_j114 e_j114 → va_P D CL (ws g ad y_j114 s_j114) H → va_D A (ws g ad y_j114 s_j114) → va_S A s.heap H locs → ∀ ls, lv_has ls 6 [] → W p l e (ra_Mo_takesLine mc ms) s m args below meth c H locs d_j114 e_j114 Q (F0 m 114 ls []) := by
          intro y_j114 s_j114 d_j114 e_j114 H locs h hP hD hS ls hl
          unfold wja_Mo_takesLine_114 at h
          obtain ⟨hd, h⟩ := h
          refine lv_goto (tgt := 129) G.1 G.2.1 d_Mo_takesLine_114 (by decide) ?_
          refine lv_iconst (v := 1) G.1 G.2.1 d_Mo_takesLine_129 (by decide) ?_
          exact hret _ (y_j114, s_j114, d_j114, e_j114) _ _ _ _ _ ls (nb_n h.1) h.2 hP hD hS (Nat.le_refl _) (Nat.le_refl _) hd.1 hd.2 d_Mo_takesLine_130
        refine lv_if_ne (tgt := 114) G.1 G.2.1 d_Mo_takesLine_105 (by decide) (fun c105 => ?_) (fun c105 => ?_)
        · skip
          have h := h.1 c105
          exact J_114 y_h21 s_h21 d_h21 e_h21 H locs h hP hD hS ls (lv_sub hl [] rfl)
        · skip
          have h := h.2 c105
          refine lv_aload_n G.1 G.2.1 d_Mo_takesLine_108 rfl (lv_at hl 0 rfl) ?_
          refine lv_iconst (v := 1) G.1 G.2.1 d_Mo_takesLine_109 (by decide) ?_
          refine lv_iload_n G.1 G.2.1 d_Mo_takesLine_110 rfl (lv_at hl 2 rfl) ?_
          obtain ⟨mc_9, ms_10, hr_11, h⟩ := h
          refine uxVv (As := [.int 1, .int x2h21]) (rest := []) G hP hD hS (cx_Mo_refuse l D g ad mc_9 ms_10 y_h21 _ _ s_h21 a0 1 x2h21 H.size (us H) h_a0 h) (fun _ h => absurd h List.not_mem_nil) w9_Mo_refuse q3535 ⟨Nat.le_of_ble_eq_true rfl, Nat.le_of_ble_eq_true rfl⟩ rfl rfl h_a0 (q := (RMo, TMo, 131)) rfl rfl hl.1 rfl (Nat.le_of_ble_eq_true rfl) rfl hr_11 d_Mo_takesLine_111 (fun y_6 s_5 d_7 e_8 H locs q9 ce h hP hD hS hce hcv hcl => ?_) (fun y_6 s_5 d_7 e_8 H locs h hP hD hS => ?_)
          · skip
            refine vx_catch (own := "ClassWorksModel") (name := "java/lang/IllegalStateException") (E := "java/lang/IllegalStateException") G.2.2.2.2.2.2.1 [] ⟨18, 114, 117, 267⟩ [] htab (fun z hz => absurd hz List.not_mem_nil) (by decide) (by decide) (G.2.2.2.2.2.1 _ q2633) (G.2.2.2.2.2.2.2.2.2.1.use (w := Cond.castable "java/lang/IllegalStateException" "java/lang/IllegalStateException") (lw_nestmem (List.mem_of_getElem? (i := 2635) (by decide +kernel)) rfl) rfl) hce hcv hcl ?_
            refine W.eq (g2 := F0 m 117 ls [.ref q9]) rfl ?_
            have h := h q9
            exact J_117 y_6 s_5 (d_h21 + d_7) (e_h21 + e_8) q9 H locs h hP hD hS ls (lv_sub hl [0] rfl)
          have hl := lv_sub (l' := []) hl [] rfl
          obtain ⟨hd, h⟩ := h
          exact J_114 y_6 s_5 (d_h21 + d_7) (e_h21 + e_8) H locs h hP hD hS ls (lv_sub hl [] rfl)
      · skip
        have h := h.2 c24
        refine lv_iload G.1 G.2.1 d_Mo_takesLine_27 (lv_at hl 4 rfl) ?_
        refine lv_istore (lv' := [(5, .int x4h21), (0, .ref (ad a0)), (1, .int x1h21), (2, .int x2h21), (3, .int x3h21), (4, .int x4h21)]) G.1 G.2.1 d_Mo_takesLine_29 hl (by decide) rfl (fun ls hl => ?_)
        unfold wla_Mo_takesLine_31 at h
        obtain ⟨I_31, μ_31, hI_31, hB_31⟩ := h
        have L_31 : ∀ (n_31 : Nat) (y_h31 : Ly) (s_h31 : St) (d_h31 e_h31 : Nat) (x1h31 : Int32) (x2h31 : Int32) (x3h31 : Int32) (x4h31 : Int32) (x5h31 : Int32), μ_31 y_h31 s_h31 d_h31 e_h31 x1h31 x2h31 x3h31 x4h31 x5h31 < n_31 → I_31 y_h31 s_h31 d_h31 e_h31 x1h31 x2h31 x3h31 x4h31 x5h31 → ∀ (H : Heap) (locs : List Loc), va_P D CL (ws g ad y_h31 s_h31) H → va_D A (ws g ad y_h31 s_h31) → va_S A s.heap H locs → ∀ ls, lv_has ls 6 [(0, .ref (ad a0)), (1, .int x1h31), (2, .int x2h31), (3, .int x3h31), (4, .int x4h31), (5, .int x5h31)] → W p l e (ra_Mo_takesLine mc ms) s m args below meth c H locs d_h31 e_h31 Q (F0 m 31 ls []) := by
          intro n_31
          induction n_31 with
          | zero => intro y_h31 s_h31 d_h31 e_h31 x1h31 x2h31 x3h31 x4h31 x5h31 hμ; exact absurd hμ (Nat.not_lt_zero _)
          | succ n_31 ih_31 =>
            intro y_h31 s_h31 d_h31 e_h31 x1h31 x2h31 x3h31 x4h31 x5h31 hμ_31 hJ H locs hP hD hS ls hl
            obtain ⟨K_31, hK_31, h⟩ : ∃ K : Ly → St → Nat → Nat → Int32 → Int32 → Int32 → Int32 → Int32 → Prop, (∀ z1 z2 z3 z4 (t0 : Int32) (t1 : Int32) (t2 : Int32) (t3 : Int32) (t4 : Int32), K z1 z2 z3 z4 t0 t1 t2 t3 t4 → I_31 z1 z2 z3 z4 t0 t1 t2 t3 t4 ∧ μ_31 z1 z2 z3 z4 t0 t1 t2 t3 t4 < μ_31 y_h31 s_h31 d_h31 e_h31 x1h31 x2h31 x3h31 x4h31 x5h31) ∧ wba_Mo_takesLine_31 mc ms Post K_21 K a0 y_h31 s_h31 d_h31 e_h31 x1h31 x2h31 x3h31 x4h31 x5h31 := ⟨_, fun _ _ _ _ _ _ _ _ _ h => h, hB_31 y_h31 s_h31 d_h31 e_h31 x1h31 x2h31 x3h31 x4h31 x5h31 hJ⟩
            unfold wba_Mo_takesLine_31 at h
            obtain ⟨hd, h⟩ := h
            refine lv_iload G.1 G.2.1 d_Mo_takesLine_31 (lv_at hl 5 rfl) ?_
            refine lv_iload_n G.1 G.2.1 d_Mo_takesLine_33 rfl (lv_at hl 2 rfl) ?_
            have J_55 : ∀ (y_j55 : Ly) (s_j55 : St) (d_j55 e_j55 : Nat) (x1j55 : Int32) (x2j55 : Int32) (x3j55 : Int32) (x4j55 : Int32) (x5j55 : Int32) (H : Heap) (locs : List Loc), wja_Mo_takesLine_55 mc ms Post K_21 a0 y_j55 s_j55 d_j55 e_j55 x1j55 x2j55 x3j55 x4j55 x5j55 → va_P D CL (ws g ad y_j55 s_j55) H → va_D A (ws g ad y_j55 s_j55) → va_S A s.heap H locs → ∀ ls, lv_has ls 6 [(0, .ref (ad a0)), (1, .int x1j55), (2, .int x2j55), (3, .int x3j55), (4, .int x4j55), (5, .int x5j55)] → W p l e (ra_Mo_takesLine mc ms) s m args below meth c H locs d_j55 e_j55 Q (F0 m 55 ls []) := by
              intro y_j55 s_j55 d_j55 e_j55 x1j55 x2j55 x3j55 x4j55 x5j55 H locs h hP hD hS ls hl
              unfold wja_Mo_takesLine_55 at h
              obtain ⟨hd, h⟩ := h
              refine lv_aload_n G.1 G.2.1 d_Mo_takesLine_55 rfl (lv_at hl 0 rfl) ?_
              refine lv_aload_n G.1 G.2.1 d_Mo_takesLine_56 rfl (lv_at hl 0 rfl) ?_
              refine ugf (v := .ref (yP y_j55 a0 84)) G hP h_a0 iMo rfl 84 (by decide) rfl q3148 rfl rfl d_Mo_takesLine_57 ?_
              refine lv_iload G.1 G.2.1 d_Mo_takesLine_60 (lv_at hl 4 rfl) ?_
              refine lv_iload G.1 G.2.1 d_Mo_takesLine_62 (lv_at hl 5 rfl) ?_
              obtain ⟨mc_17, ms_18, hr_19, h⟩ := h
              refine uaVi (As := [.ref (yP y_j55 a0 84), .int x4j55, .int x5j55]) (rest := []) G hP hD hS (ca_Mo_cutLine l D g ad mc_17 ms_18 y_j55 _ s_j55 a0 a0 84 x4j55 x5j55 H.size (us H) h_a0 ⟨(kdp h_a0 rfl), (typ h_a0 rfl)⟩ h) w9_Mo_cutLine q3494 ⟨Nat.le_of_ble_eq_true rfl, Nat.le_of_ble_eq_true rfl⟩ rfl rfl h_a0 (q := (RMo, TMo, 131)) rfl rfl hl.1 rfl (Nat.le_of_ble_eq_true rfl) rfl hr_19 d_Mo_takesLine_64 (fun r_12 y_14 s_13 d_15 e_16 H locs h hP hD hS => ?_)
              have hl := lv_sub (l' := [(0, .ref (ad a0)), (1, .int x1j55), (2, .int x2j55), (3, .int x3j55), (5, .int x5j55)]) hl [0, 1, 2, 3, 5] rfl
              obtain ⟨hd, h⟩ := h
              have J_95 : ∀ (y_j95 : Ly) (s_j95 : St) (d_j95 e_j95 : Nat) (x1j95 : Int32) (x2j95 : Int32) (x3j95 : Int32) (x5j95 : Int32) (H : Heap) (locs : List Loc), wja_Mo_takesLine_95 mc ms Post K_21 a0 y_j95 s_j95 d_j95 e_j95 x1j95 x2j95 x3j95 x5j95 → va_P D CL (ws g ad y_j95 s_j95) H → va_D A (ws g ad y_j95 s_j95) → va_S A s.heap H locs → ∀ ls, lv_has ls 6 [(0, .ref (ad a0)), (1, .int x1j95), (2, .int x2j95), (3, .int x3j95), (5, .int x5j95)] → W p l e (ra_Mo_takesLine mc ms) s m args below meth c H locs d_j95 e_j95 Q (F0 m 95 ls []) := by
                intro y_j95 s_j95 d_j95 e_j95 x1j95 x2j95 x3j95 x5j95 H locs h hP hD hS ls hl
                unfold wja_Mo_takesLine_95 at h
                obtain ⟨hd, h⟩ := h
                refine lv_iload G.1 G.2.1 d_Mo_takesLine_95 (lv_at hl 4 rfl) ?_
                refine lv_iconst (v := 1) G.1 G.2.1 d_Mo_takesLine_97 (by decide) ?_
                refine lv_iadd G.1 G.2.1 d_Mo_takesLine_98 ?_
                refine lv_istore (lv' := [(4, .int (x5j95 + 1)), (0, .ref (ad a0)), (1, .int x1j95), (2, .int x2j95), (3, .int x3j95), (5, .int x5j95)]) G.1 G.2.1 d_Mo_takesLine_99 hl (by decide) rfl (fun ls hl => ?_)
                refine lv_goto (tgt := 21) G.1 G.2.1 d_Mo_takesLine_101 (by decide) ?_
                have h := hK_21 y_j95 s_j95 d_j95 e_j95 x1j95 x2j95 x3j95 (x5j95 + 1) h
                exact ih_21 y_j95 s_j95 d_j95 e_j95 x1j95 x2j95 x3j95 (x5j95 + 1) (Nat.lt_of_lt_of_le h.2 (Nat.le_of_lt_succ hμ_21)) h.1 H locs hP hD hS ls (lv_sub hl [1, 2, 3, 4, 0] rfl)
              refine lv_if_eq (tgt := 95) G.1 G.2.1 d_Mo_takesLine_67 (by decide) (fun c67 => ?_) (fun c67 => ?_)
              · skip
                have h := h.1 c67
                exact J_95 y_14 s_13 (d_j55 + d_15) (e_j55 + e_16) x1j55 x2j55 x3j55 x5j55 H locs h hP hD hS ls (lv_sub hl [0, 1, 2, 3, 4] rfl)
              · skip
                have h := h.2 c67
                refine lv_iload_n G.1 G.2.1 d_Mo_takesLine_70 rfl (lv_at hl 3 rfl) ?_
                have J_78 : ∀ (y_j78 : Ly) (s_j78 : St) (d_j78 e_j78 : Nat) (x1j78 : Int32) (x2j78 : Int32) (x5j78 : Int32) (H : Heap) (locs : List Loc), wja_Mo_takesLine_78 mc ms Post K_21 a0 y_j78 s_j78 d_j78 e_j78 x1j78 x2j78 x5j78 → va_P D CL (ws g ad y_j78 s_j78) H → va_D A (ws g ad y_j78 s_j78) → va_S A s.heap H locs → ∀ ls, lv_has ls 6 [(0, .ref (ad a0)), (1, .int x1j78), (2, .int x2j78), (5, .int x5j78)] → W p l e (ra_Mo_takesLine mc ms) s m args below meth c H locs d_j78 e_j78 Q (F0 m 78 ls []) := by
                  intro y_j78 s_j78 d_j78 e_j78 x1j78 x2j78 x5j78 H locs h hP hD hS ls hl
                  unfold wja_Mo_takesLine_78 at h
                  obtain ⟨hd, h⟩ := h
                  refine lv_iconst (v := 1) G.1 G.2.1 d_Mo_takesLine_78 (by decide) ?_
                  refine lv_istore_n (lv' := [(3, .int 1), (0, .ref (ad a0)), (1, .int x1j78), (2, .int x2j78), (5, .int x5j78)]) G.1 G.2.1 d_Mo_takesLine_79 rfl hl (by decide) rfl (fun ls hl => ?_)
                  refine lv_iload_n G.1 G.2.1 d_Mo_takesLine_80 rfl (lv_at hl 2 rfl) ?_
                  refine lv_if_ne (tgt := 91) G.1 G.2.1 d_Mo_takesLine_81 (by decide) (fun c81 => ?_) (fun c81 => ?_)
                  · skip
                    have h := h.1 c81
                    refine lv_aload_n G.1 G.2.1 d_Mo_takesLine_91 rfl (lv_at hl 1 rfl) ?_
                    obtain ⟨mc_25, ms_26, hr_27, h⟩ := h
                    refine uxVv (As := []) (rest := []) G hP hD hS (cx_Mo_methodWords l D g ad mc_25 ms_26 y_j78 _ _ s_j78 a0 H.size (us H) h_a0 h) (fun _ h => absurd h List.not_mem_nil) w9_Mo_methodWords q3806 ⟨Nat.le_of_ble_eq_true rfl, Nat.le_of_ble_eq_true rfl⟩ rfl rfl h_a0 (q := (RMo, TMo, 131)) rfl rfl hl.1 rfl (Nat.le_of_ble_eq_true rfl) rfl hr_27 d_Mo_takesLine_92 (fun y_22 s_21 d_23 e_24 H locs q9 ce h hP hD hS hce hcv hcl => ?_) (fun y_22 s_21 d_23 e_24 H locs h hP hD hS => ?_)
                    · skip
                      refine vx_catch (own := "ClassWorksModel") (name := "java/lang/IllegalStateException") (E := "java/lang/IllegalStateException") G.2.2.2.2.2.2.1 [] ⟨18, 114, 117, 267⟩ [] htab (fun z hz => absurd hz List.not_mem_nil) (by decide) (by decide) (G.2.2.2.2.2.1 _ q2633) (G.2.2.2.2.2.2.2.2.2.1.use (w := Cond.castable "java/lang/IllegalStateException" "java/lang/IllegalStateException") (lw_nestmem (List.mem_of_getElem? (i := 2635) (by decide +kernel)) rfl) rfl) hce hcv hcl ?_
                      refine W.eq (g2 := F0 m 117 ls [.ref q9]) rfl ?_
                      have h := h q9
                      exact J_117 y_22 s_21 (d_j78 + d_23) (e_j78 + e_24) q9 H locs h hP hD hS ls (lv_sub hl [1] rfl)
                    obtain ⟨hd, h⟩ := h
                    exact J_95 y_22 s_21 (d_j78 + d_23) (e_j78 + e_24) x1j78 x2j78 1 x5j78 H locs h hP hD hS ls (lv_sub hl [1, 2, 3, 0, 4] rfl)
                  · skip
                    have h := h.2 c81
                    refine lv_aload_n G.1 G.2.1 d_Mo_takesLine_84 rfl (lv_at hl 1 rfl) ?_
                    obtain ⟨mc_33, ms_34, hr_35, h⟩ := h
                    refine uxVv (As := []) (rest := []) G hP hD hS (cx_Mo_callWords l D g ad mc_33 ms_34 y_j78 _ _ s_j78 a0 H.size (us H) h_a0 h) (fun _ h => absurd h List.not_mem_nil) w9_Mo_callWords q3802 ⟨Nat.le_of_ble_eq_true rfl, Nat.le_of_ble_eq_true rfl⟩ rfl rfl h_a0 (q := (RMo, TMo, 131)) rfl rfl hl.1 rfl (Nat.le_of_ble_eq_true rfl) rfl hr_35 d_Mo_takesLine_85 (fun y_30 s_29 d_31 e_32 H locs q9 ce h hP hD hS hce hcv hcl => ?_) (fun y_30 s_29 d_31 e_32 H locs h hP hD hS => ?_)
                    · skip
                      refine vx_catch (own := "ClassWorksModel") (name := "java/lang/IllegalStateException") (E := "java/lang/IllegalStateException") G.2.2.2.2.2.2.1 [] ⟨18, 114, 117, 267⟩ [] htab (fun z hz => absurd hz List.not_mem_nil) (by decide) (by decide) (G.2.2.2.2.2.1 _ q2633) (G.2.2.2.2.2.2.2.2.2.1.use (w := Cond.castable "java/lang/IllegalStateException" "java/lang/IllegalStateException") (lw_nestmem (List.mem_of_getElem? (i := 2635) (by decide +kernel)) rfl) rfl) hce hcv hcl ?_
                      refine W.eq (g2 := F0 m 117 ls [.ref q9]) rfl ?_
                      have h := h q9
                      exact J_117 y_30 s_29 (d_j78 + d_31) (e_j78 + e_32) q9 H locs h hP hD hS ls (lv_sub hl [1] rfl)
                    obtain ⟨hd, h⟩ := h
                    refine lv_goto (tgt := 95) G.1 G.2.1 d_Mo_takesLine_88 (by decide) ?_
                    exact J_95 y_30 s_29 (d_j78 + d_31) (e_j78 + e_32) x1j78 x2j78 1 x5j78 H locs h hP hD hS ls (lv_sub hl [1, 2, 3, 0, 4] rfl)
                refine lv_if_eq (tgt := 78) G.1 G.2.1 d_Mo_takesLine_71 (by decide) (fun c71 => ?_) (fun c71 => ?_)
                · skip
                  have h := h.1 c71
                  exact J_78 y_14 s_13 (d_j55 + d_15) (e_j55 + e_16) x1j55 x2j55 x5j55 H locs h hP hD hS ls (lv_sub hl [0, 1, 2, 4] rfl)
                · skip
                  have h := h.2 c71
                  refine lv_aload_n G.1 G.2.1 d_Mo_takesLine_74 rfl (lv_at hl 0 rfl) ?_
                  obtain ⟨mc_41, ms_42, hr_43, h⟩ := h
                  refine uxVv (As := []) (rest := []) G hP hD hS (cx_Mo_wrong l D g ad mc_41 ms_42 y_14 _ _ s_13 a0 H.size (us H) h_a0 h) (fun _ h => absurd h List.not_mem_nil) w9_Mo_wrong q3551 ⟨Nat.le_of_ble_eq_true rfl, Nat.le_of_ble_eq_true rfl⟩ rfl rfl h_a0 (q := (RMo, TMo, 131)) rfl rfl hl.1 rfl (Nat.le_of_ble_eq_true rfl) rfl hr_43 d_Mo_takesLine_75 (fun y_38 s_37 d_39 e_40 H locs q9 ce h hP hD hS hce hcv hcl => ?_) (fun y_38 s_37 d_39 e_40 H locs h hP hD hS => ?_)
                  · skip
                    refine vx_catch (own := "ClassWorksModel") (name := "java/lang/IllegalStateException") (E := "java/lang/IllegalStateException") G.2.2.2.2.2.2.1 [] ⟨18, 114, 117, 267⟩ [] htab (fun z hz => absurd hz List.not_mem_nil) (by decide) (by decide) (G.2.2.2.2.2.1 _ q2633) (G.2.2.2.2.2.2.2.2.2.1.use (w := Cond.castable "java/lang/IllegalStateException" "java/lang/IllegalStateException") (lw_nestmem (List.mem_of_getElem? (i := 2635) (by decide +kernel)) rfl) rfl) hce hcv hcl ?_
                    refine W.eq (g2 := F0 m 117 ls [.ref q9]) rfl ?_
                    have h := h q9
                    exact J_117 y_38 s_37 (d_j55 + d_15 + d_39) (e_j55 + e_16 + e_40) q9 H locs h hP hD hS ls (lv_sub hl [0] rfl)
                  have hl := lv_sub (l' := [(0, .ref (ad a0)), (1, .int x1j55), (2, .int x2j55), (5, .int x5j55)]) hl [0, 1, 2, 4] rfl
                  obtain ⟨hd, h⟩ := h
                  exact J_78 y_38 s_37 (d_j55 + d_15 + d_39) (e_j55 + e_16 + e_40) x1j55 x2j55 x5j55 H locs h hP hD hS ls (lv_sub hl [0, 1, 2, 3] rfl)
            refine lv_icmp_ge (tgt := 55) G.1 G.2.1 d_Mo_takesLine_34 (by decide) (fun c34 => ?_) (fun c34 => ?_)
            · skip
              have h := h.1 c34
              exact J_55 y_h31 s_h31 d_h31 e_h31 x1h31 x2h31 x3h31 x4h31 x5h31 H locs h hP hD hS ls (lv_sub hl [0, 1, 2, 3, 4, 5] rfl)
            · skip
              have h := h.2 c34
              refine lv_aload_n G.1 G.2.1 d_Mo_takesLine_37 rfl (lv_at hl 0 rfl) ?_
              refine ugf (v := .ref (yP y_h31 a0 84)) G hP h_a0 iMo rfl 84 (by decide) rfl q3148 rfl rfl d_Mo_takesLine_38 ?_
              refine lv_iload G.1 G.2.1 d_Mo_takesLine_41 (lv_at hl 5 rfl) ?_
              refine ubald G hP (kdp h_a0 rfl) (typ h_a0 rfl) h d_Mo_takesLine_43 (fun x_44 h => ?_)
              refine lv_bipush (v := 10) G.1 G.2.1 d_Mo_takesLine_44 (by decide) ?_
              refine lv_icmp_eq (tgt := 55) G.1 G.2.1 d_Mo_takesLine_46 (by decide) (fun c46 => ?_) (fun c46 => ?_)
              · skip
                have h := h.1 c46
                exact J_55 y_h31 s_h31 d_h31 e_h31 x1h31 x2h31 x3h31 x4h31 x5h31 H locs h hP hD hS ls (lv_sub hl [0, 1, 2, 3, 4, 5] rfl)
              · skip
                have h := h.2 c46
                refine lv_iinc (v := x5h31 + 1) (lv' := [(5, .int (x5h31 + 1)), (0, .ref (ad a0)), (1, .int x1h31), (2, .int x2h31), (3, .int x3h31), (4, .int x4h31)]) G.1 G.2.1 d_Mo_takesLine_49 hl (k := 5) rfl rfl (by decide) rfl (fun ls hl => ?_)
                refine lv_goto (tgt := 31) G.1 G.2.1 d_Mo_takesLine_52 (by decide) ?_
                have h := hK_31 y_h31 s_h31 d_h31 e_h31 x1h31 x2h31 x3h31 x4h31 (x5h31 + 1) h
                exact ih_31 y_h31 s_h31 d_h31 e_h31 x1h31 x2h31 x3h31 x4h31 (x5h31 + 1) (Nat.lt_of_lt_of_le h.2 (Nat.le_of_lt_succ hμ_31)) h.1 H locs hP hD hS ls (lv_sub hl [1, 2, 3, 4, 5, 0] rfl)
        exact L_31 _ y_h21 s_h21 d_h21 e_h21 x1h21 x2h21 x3h21 x4h21 x4h21 (Nat.lt_succ_self _) hI_31 H locs hP hD hS ls (lv_sub hl [1, 2, 3, 4, 5, 0] rfl)
  exact L_21 _ y s_2 0 0 v1 (sV σ a0 85) 0 0 (Nat.lt_succ_self _) hI_21 H locs hP hD hS ls (lv_sub hl [3, 4, 2, 1, 0] rfl)
theorem q3798 : Cond.methodLink "ClassWorksModel" 1156 y_Mo_takesLine ∈ lw_ok := lw_okmem (List.mem_of_getElem? (i := 3798) (by decide +kernel)) rfl
theorem q3801 : Cond.codeWith y_Mo_takesLine b_Mo_takesLine 6 (some (.boolean)) hh_Mo_takesLine ∈ lw_ok := lw_okmem (List.mem_of_getElem? (i := 3801) (by decide +kernel)) rfl
theorem q3800 : Cond.instanceMethod y_Mo_takesLine ∈ lw_ok := lw_okmem (List.mem_of_getElem? (i := 3800) (by decide +kernel)) rfl
theorem q242 : Cond.selects y_Mo_takesLine.cls y_Mo_takesLine y_Mo_takesLine ∈ lw_ok := lw_okmem (List.mem_of_getElem? (i := 242) (by decide +kernel)) rfl
theorem w9_Mo_takesLine : (Cond.codeWith y_Mo_takesLine b_Mo_takesLine 6 (some (.boolean)) hh_Mo_takesLine ∈ lw_ok ∧ Cond.initialized y_Mo_takesLine.cls ∈ lw_ok ∧ y_Mo_takesLine.cls ≠ "java/lang/invoke/MethodHandle" ∧ y_Mo_takesLine.cls ≠ "java/lang/invoke/VarHandle" ∧ (parseMethodDescriptor y_Mo_takesLine.desc).map (fun d => d.parameters.length) = some 1) ∧ Cond.instanceMethod y_Mo_takesLine ∈ lw_ok ∧ Cond.selects y_Mo_takesLine.cls y_Mo_takesLine y_Mo_takesLine ∈ lw_ok := ⟨⟨q3801, q348, by decide +kernel, by decide +kernel, by decide +kernel⟩, q3800, q242⟩
theorem q3810 : Cond.methodLink "ClassWorksModel" 1159 y_Mo_beginRun ∈ lw_ok := lw_okmem (List.mem_of_getElem? (i := 3810) (by decide +kernel)) rfl
theorem q3813 : Cond.code y_Mo_beginRun b_Mo_beginRun 3 (none) ∈ lw_ok := lw_okmem (List.mem_of_getElem? (i := 3813) (by decide +kernel)) rfl
theorem q3812 : Cond.instanceMethod y_Mo_beginRun ∈ lw_ok := lw_okmem (List.mem_of_getElem? (i := 3812) (by decide +kernel)) rfl
theorem q245 : Cond.selects y_Mo_beginRun.cls y_Mo_beginRun y_Mo_beginRun ∈ lw_ok := lw_okmem (List.mem_of_getElem? (i := 245) (by decide +kernel)) rfl
theorem w9_Mo_beginRun : CWv y_Mo_beginRun b_Mo_beginRun 3 (none) 1 ∧ Cond.instanceMethod y_Mo_beginRun ∈ lw_ok ∧ Cond.selects y_Mo_beginRun.cls y_Mo_beginRun y_Mo_beginRun ∈ lw_ok := ⟨⟨q3813, q348, by decide +kernel, by decide +kernel, by decide +kernel⟩, q3812, q245⟩
def y_Mo_call : MethodName := ⟨"ClassWorksModel", "call", "(II)I"⟩
abbrev b_Mo_call : ByteArray := prog_14_method_144_code
theorem d_Mo_call_0 : decode b_Mo_call 0 = .ok (.aload_n 0, 1) := by decide +kernel
theorem d_Mo_call_1 : decode b_Mo_call 1 = .ok (.iload_n 1, 1) := by decide +kernel
theorem d_Mo_call_2 : decode b_Mo_call 2 = .ok (.invokevirtual 1118, 3) := by decide +kernel
theorem d_Mo_call_5 : decode b_Mo_call 5 = .ok (.ifCond .eq 10, 3) := by decide +kernel
theorem d_Mo_call_8 : decode b_Mo_call 8 = .ok (.iload_n 2, 1) := by decide +kernel
theorem d_Mo_call_9 : decode b_Mo_call 9 = .ok (.invokestatic 1153, 3) := by decide +kernel
theorem d_Mo_call_12 : decode b_Mo_call 12 = .ok (.ifCond .ne 5, 3) := by decide +kernel
theorem d_Mo_call_15 : decode b_Mo_call 15 = .ok (.iconst (-1), 1) := by decide +kernel
theorem d_Mo_call_16 : decode b_Mo_call 16 = .ok (.ireturn, 1) := by decide +kernel
theorem d_Mo_call_17 : decode b_Mo_call 17 = .ok (.aload_n 0, 1) := by decide +kernel
theorem d_Mo_call_18 : decode b_Mo_call 18 = .ok (.getfield 263, 3) := by decide +kernel
theorem d_Mo_call_21 : decode b_Mo_call 21 = .ok (.iload_n 1, 1) := by decide +kernel
theorem d_Mo_call_22 : decode b_Mo_call 22 = .ok (.aaload, 1) := by decide +kernel
theorem d_Mo_call_23 : decode b_Mo_call 23 = .ok (.getfield 406, 3) := by decide +kernel
theorem d_Mo_call_26 : decode b_Mo_call 26 = .ok (.iload_n 2, 1) := by decide +kernel
theorem d_Mo_call_27 : decode b_Mo_call 27 = .ok (.aaload, 1) := by decide +kernel
theorem d_Mo_call_28 : decode b_Mo_call 28 = .ok (.getfield 486, 3) := by decide +kernel
theorem d_Mo_call_31 : decode b_Mo_call 31 = .ok (.iconst 1, 1) := by decide +kernel
theorem d_Mo_call_32 : decode b_Mo_call 32 = .ok (.if_icmp .ne 6, 3) := by decide +kernel
theorem d_Mo_call_35 : decode b_Mo_call 35 = .ok (.bipush (-2), 2) := by decide +kernel
theorem d_Mo_call_37 : decode b_Mo_call 37 = .ok (.ireturn, 1) := by decide +kernel
theorem d_Mo_call_38 : decode b_Mo_call 38 = .ok (.aload_n 0, 1) := by decide +kernel
theorem d_Mo_call_39 : decode b_Mo_call 39 = .ok (.iconst 0, 1) := by decide +kernel
theorem d_Mo_call_40 : decode b_Mo_call 40 = .ok (.invokevirtual 1156, 3) := by decide +kernel
theorem d_Mo_call_43 : decode b_Mo_call 43 = .ok (.ifCond .ne 22, 3) := by decide +kernel
theorem d_Mo_call_46 : decode b_Mo_call 46 = .ok (.aload_n 0, 1) := by decide +kernel
theorem d_Mo_call_47 : decode b_Mo_call 47 = .ok (.getfield 263, 3) := by decide +kernel
theorem d_Mo_call_50 : decode b_Mo_call 50 = .ok (.iload_n 1, 1) := by decide +kernel
theorem d_Mo_call_51 : decode b_Mo_call 51 = .ok (.aaload, 1) := by decide +kernel
theorem d_Mo_call_52 : decode b_Mo_call 52 = .ok (.getfield 406, 3) := by decide +kernel
theorem d_Mo_call_55 : decode b_Mo_call 55 = .ok (.iload_n 2, 1) := by decide +kernel
theorem d_Mo_call_56 : decode b_Mo_call 56 = .ok (.aaload, 1) := by decide +kernel
theorem d_Mo_call_57 : decode b_Mo_call 57 = .ok (.bipush (-2), 2) := by decide +kernel
theorem d_Mo_call_59 : decode b_Mo_call 59 = .ok (.putfield 486, 3) := by decide +kernel
theorem d_Mo_call_62 : decode b_Mo_call 62 = .ok (.bipush (-11), 2) := by decide +kernel
theorem d_Mo_call_64 : decode b_Mo_call 64 = .ok (.ireturn, 1) := by decide +kernel
theorem d_Mo_call_65 : decode b_Mo_call 65 = .ok (.aload_n 0, 1) := by decide +kernel
theorem d_Mo_call_66 : decode b_Mo_call 66 = .ok (.aload_n 0, 1) := by decide +kernel
theorem d_Mo_call_67 : decode b_Mo_call 67 = .ok (.getfield 263, 3) := by decide +kernel
theorem d_Mo_call_70 : decode b_Mo_call 70 = .ok (.iload_n 1, 1) := by decide +kernel
theorem d_Mo_call_71 : decode b_Mo_call 71 = .ok (.aaload, 1) := by decide +kernel
theorem d_Mo_call_72 : decode b_Mo_call 72 = .ok (.getfield 406, 3) := by decide +kernel
theorem d_Mo_call_75 : decode b_Mo_call 75 = .ok (.iload_n 2, 1) := by decide +kernel
theorem d_Mo_call_76 : decode b_Mo_call 76 = .ok (.aaload, 1) := by decide +kernel
theorem d_Mo_call_77 : decode b_Mo_call 77 = .ok (.invokevirtual 1159, 3) := by decide +kernel
theorem d_Mo_call_80 : decode b_Mo_call 80 = .ok (.iconst 0, 1) := by decide +kernel
theorem d_Mo_call_81 : decode b_Mo_call 81 = .ok (.ireturn, 1) := by decide +kernel
abbrev ra_Mo_call (mc ms : Nat) : Room := { frames := 8, cells := mc, slots := ms, locals := 228 }
def wja_Mo_call_15 (mc ms : Nat) (Post : Ly → St → Int32 → Nat → Nat → Prop) (a0 : Nat) (y_j15 : Ly) (s_j15 : St) (d_j15 e_j15 : Nat) : Prop := (d_j15 ≤ mc ∧ e_j15 ≤ ms) ∧ Post y_j15 s_j15 (-1) d_j15 e_j15
def wa_Mo_call (mc ms : Nat) (y : Ly) (Post : Ly → St → Int32 → Nat → Nat → Prop) (σ : St) (a0 : Nat) (v1 : Int32) (v2 : Int32) : Prop := wu_Mo_isWorld y (fun (s_2 : St) (r_1 : Int32) => ((r_1 = 0 → wja_Mo_call_15 mc ms Post a0 y s_2 0 0) ∧ (¬ (r_1 = 0) → wu_Mo_isThread y (fun (s_4 : St) (r_3 : Int32) => ((¬ r_3 = 0 → xQ y a0 44 v1 (fun b_5 : Nat => xQ y b_5 62 v2 (fun b_7 : Nat => ((¬ (sV s_4 b_7 0) = 1 → ∃ mc_14 ms_15 : Nat, (0 + mc_14 ≤ mc ∧ 0 + ms_15 ≤ ms) ∧ wa_Mo_takesLine mc_14 ms_15 y (fun (y_11 : Ly) (s_10 : St) (r_9 : Int32) (d_12 e_13 : Nat) => (0 + d_12 ≤ mc ∧ 0 + e_13 ≤ ms) ∧ ((¬ r_9 = 0 → xQ y_11 a0 44 v1 (fun b_17 : Nat => xQ y_11 b_17 62 v2 (fun b_19 : Nat => wu_Mo_beginRun y_11 (fun (s_22 : St) => Post y_11 s_22 0 (0 + d_12) (0 + e_13)) s_10 a0 b_19))) ∧ (r_9 = 0 → xQ y_11 a0 44 v1 (fun b_23 : Nat => xQ y_11 b_23 62 v2 (fun b_25 : Nat => xP (uV s_10 b_25 0 (-2)) (fun s_27 : St => Post y_11 s_27 (-11) (0 + d_12) (0 + e_13))))))) s_4 a0 0) ∧ ((sV s_4 b_7 0) = 1 → Post y s_4 (-2) 0 0))))) ∧ (r_3 = 0 → wja_Mo_call_15 mc ms Post a0 y s_4 0 0))) s_2 v2))) σ a0 v1
set_option maxHeartbeats 4000000 in
set_option maxRecDepth 100000 in
theorem ca_Mo_call (l : Launch) (D : va_G) (g : Nat → ClassId) (ad : Nat → Nat) (mc ms : Nat) (y : Ly) (Post : Ly → St → Int32 → Nat → Nat → Prop) (σ : St) (a0 : Nat) (v1 : Int32) (v2 : Int32) (sz uz : Nat) (h_a0 : cl a0 = 14) (h : wa_Mo_call mc ms y Post σ a0 v1 v2) : Met l y_Mo_call (mw y_Mo_call b_Mo_call 3 (some .int)) (ra_Mo_call mc ms) (PCu g D [] [.ref (ad a0), .int v1, .int v2] sz uz (ws g ad y σ)) (va_Qi (fun (r : Int32) (u : Ly × St × Nat × Nat) => Post u.1 u.2.1 r u.2.2.1 u.2.2.2) (QU D (va_A (ws g ad y σ) sz) (fun u => ws g ad u.1 u.2.1) sz uz (fun u => u.2.2.1) (fun u => u.2.2.2)) (va_A (ws g ad y σ) sz)) mc ms (va_A (ws g ad y σ) sz) := by
  refine ofIu (by decide +kernel) (Nat.le_of_ble_eq_true rfl) ?_
  intro p e s m args below meth c A Q ls H locs G hsz hP hD hS hl hret
  subst hsz
  have hl : lv_has ls 3 [(0, .ref (ad a0)), (1, .int v1), (2, .int v2)] := hl
  have hd : 0 ≤ mc ∧ 0 ≤ ms := ⟨Nat.zero_le _, Nat.zero_le _⟩
  unfold wa_Mo_call at h
  refine lv_aload_n G.1 G.2.1 d_Mo_call_0 rfl (lv_at hl 0 rfl) ?_
  refine lv_iload_n G.1 G.2.1 d_Mo_call_1 rfl (lv_at hl 1 rfl) ?_
  refine ucVi (As := [.int v1]) (rest := []) G hP hD hS (cu_Mo_isWorld l D g ad y _ σ a0 v1 H.size h_a0 h) w9_Mo_isWorld q3482 ⟨Nat.le_of_ble_eq_true rfl, Nat.le_of_ble_eq_true rfl⟩ rfl rfl h_a0 (q := (RMo, TMo, 131)) rfl rfl hl.1 rfl (Nat.le_of_ble_eq_true rfl) rfl hd d_Mo_call_2 (fun r_1 s_2 H locs h hP hD hS => ?_)
  have J_15 : ∀ (y_j15 : Ly) (s_j15 : St) (d_j15 e_j15 : Nat) (H : Heap) (locs : List Loc), wja_Mo_call_15 mc ms Post a0 y_j15 s_j15 d_j15 e_j15 → va_P D CL (ws g ad y_j15 s_j15) H → va_D A (ws g ad y_j15 s_j15) → va_S A s.heap H locs → ∀ ls, lv_has ls 3 [] → W p l e (ra_Mo_call mc ms) s m args below meth c H locs d_j15 e_j15 Q (F0 m 15 ls []) := by
    intro y_j15 s_j15 d_j15 e_j15 H locs h hP hD hS ls hl
    unfold wja_Mo_call_15 at h
    obtain ⟨hd, h⟩ := h
    refine lv_iconst (v := (-1)) G.1 G.2.1 d_Mo_call_15 (by decide) ?_
    exact hret _ (y_j15, s_j15, d_j15, e_j15) _ _ _ _ _ ls h hP hD hS (Nat.le_refl _) (Nat.le_refl _) hd.1 hd.2 d_Mo_call_16
  refine lv_if_eq (tgt := 15) G.1 G.2.1 d_Mo_call_5 (by decide) (fun c5 => ?_) (fun c5 => ?_)
  · skip
    have h := h.1 c5
    exact J_15 y s_2 0 0 H locs h hP hD hS ls (lv_sub hl [] rfl)
  · skip
    have h := h.2 c5
    refine lv_iload_n G.1 G.2.1 d_Mo_call_8 rfl (lv_at hl 2 rfl) ?_
    refine ucSi (As := [.int v2]) (rest := []) G hP hD hS (cu_Mo_isThread l D g ad y _ s_2 v2 H.size  h) w9_Mo_isThread q3795 ⟨Nat.le_of_ble_eq_true rfl, Nat.le_of_ble_eq_true rfl⟩ rfl rfl hl.1 rfl (Nat.le_of_ble_eq_true rfl) rfl hd d_Mo_call_9 (fun r_3 s_4 H locs h hP hD hS => ?_)
    refine lv_if_ne (tgt := 17) G.1 G.2.1 d_Mo_call_12 (by decide) (fun c12 => ?_) (fun c12 => ?_)
    · skip
      have h := h.1 c12
      refine lv_aload_n G.1 G.2.1 d_Mo_call_17 rfl (lv_at hl 0 rfl) ?_
      refine ugf (v := .ref (yP y a0 44)) G hP h_a0 iMo rfl 44 (by decide) rfl q3108 rfl rfl d_Mo_call_18 ?_
      refine lv_iload_n G.1 G.2.1 d_Mo_call_21 rfl (lv_at hl 1 rfl) ?_
      refine uqald G hP (kdp h_a0 rfl) (typ h_a0 rfl) rfl h d_Mo_call_22 (fun b_5 n_6 h => ?_)
      refine W.eq (g2 := F0 m 23 ls [.ref (ad b_5)]) rfl ?_
      refine ugfN (v := .ref (yP y b_5 62)) G hP (oa_14 h_a0 n_6) iMw rfl 62 (by decide) rfl q2820 rfl rfl d_Mo_call_23 ?_
      refine lv_iload_n G.1 G.2.1 d_Mo_call_26 rfl (lv_at hl 2 rfl) ?_
      refine uqald G hP (kdp (oa_14 h_a0 n_6) rfl) (typ (oa_14 h_a0 n_6) rfl) rfl h d_Mo_call_27 (fun b_7 n_8 h => ?_)
      refine ugfN (v := .int (sV s_4 b_7 0)) G hP (oa_13 (oa_14 h_a0 n_6) n_8) iMr rfl 0 (by decide) rfl q2987 rfl rfl d_Mo_call_28 ?_
      refine lv_iconst (v := 1) G.1 G.2.1 d_Mo_call_31 (by decide) ?_
      refine lv_icmp_ne (tgt := 38) G.1 G.2.1 d_Mo_call_32 (by decide) (fun c32 => ?_) (fun c32 => ?_)
      · skip
        have h := h.1 c32
        refine lv_aload_n G.1 G.2.1 d_Mo_call_38 rfl (lv_at hl 0 rfl) ?_
        refine lv_iconst (v := 0) G.1 G.2.1 d_Mo_call_39 (by decide) ?_
        obtain ⟨mc_14, ms_15, hr_16, h⟩ := h
        refine uwVi (As := [.int 0]) (rest := []) G hP hD hS (ca_Mo_takesLine l D g ad mc_14 ms_15 y _ s_4 a0 0 H.size (us H) h_a0 h) (fun _ h => absurd h List.not_mem_nil) w9_Mo_takesLine q3798 ⟨Nat.le_of_ble_eq_true rfl, Nat.le_of_ble_eq_true rfl⟩ rfl rfl h_a0 (q := (RMo, TMo, 131)) rfl rfl hl.1 rfl (Nat.le_of_ble_eq_true rfl) rfl hr_16 d_Mo_call_40 (fun r_9 y_11 s_10 d_12 e_13 H locs h hP hD hS => ?_)
        obtain ⟨hd, h⟩ := h
        refine lv_if_ne (tgt := 65) G.1 G.2.1 d_Mo_call_43 (by decide) (fun c43 => ?_) (fun c43 => ?_)
        · skip
          have h := h.1 c43
          refine lv_aload_n G.1 G.2.1 d_Mo_call_65 rfl (lv_at hl 0 rfl) ?_
          refine lv_aload_n G.1 G.2.1 d_Mo_call_66 rfl (lv_at hl 0 rfl) ?_
          refine W.eq (g2 := F0 m 67 ls [.ref (ad a0), .ref (ad a0)]) rfl ?_
          refine ugf (v := .ref (yP y_11 a0 44)) G hP h_a0 iMo rfl 44 (by decide) rfl q3108 rfl rfl d_Mo_call_67 ?_
          refine lv_iload_n G.1 G.2.1 d_Mo_call_70 rfl (lv_at hl 1 rfl) ?_
          refine uqald G hP (kdp h_a0 rfl) (typ h_a0 rfl) rfl h d_Mo_call_71 (fun b_17 n_18 h => ?_)
          refine ugfN (v := .ref (yP y_11 b_17 62)) G hP (oa_14 h_a0 n_18) iMw rfl 62 (by decide) rfl q2820 rfl rfl d_Mo_call_72 ?_
          refine lv_iload_n G.1 G.2.1 d_Mo_call_75 rfl (lv_at hl 2 rfl) ?_
          refine uqald G hP (kdp (oa_14 h_a0 n_18) rfl) (typ (oa_14 h_a0 n_18) rfl) rfl h d_Mo_call_76 (fun b_19 n_20 h => ?_)
          refine ucVv (As := [.ref (ad b_19)]) (rest := []) G hP hD hS (cu_Mo_beginRun l D g ad y_11 _ s_10 a0 b_19 H.size h_a0 (oa_13 (oa_14 h_a0 n_18) n_20) h) w9_Mo_beginRun q3810 ⟨Nat.le_of_ble_eq_true rfl, Nat.le_of_ble_eq_true rfl⟩ rfl rfl h_a0 (q := (RMo, TMo, 131)) rfl rfl hl.1 rfl (Nat.le_of_ble_eq_true rfl) rfl hd d_Mo_call_77 (fun s_22 H locs h hP hD hS => ?_)
          refine lv_iconst (v := 0) G.1 G.2.1 d_Mo_call_80 (by decide) ?_
          exact hret _ (y_11, s_22, 0 + d_12, 0 + e_13) _ _ _ _ _ ls h hP hD hS (Nat.le_refl _) (Nat.le_refl _) hd.1 hd.2 d_Mo_call_81
        · skip
          have h := h.2 c43
          refine lv_aload_n G.1 G.2.1 d_Mo_call_46 rfl (lv_at hl 0 rfl) ?_
          refine ugf (v := .ref (yP y_11 a0 44)) G hP h_a0 iMo rfl 44 (by decide) rfl q3108 rfl rfl d_Mo_call_47 ?_
          refine W.eq (g2 := F0 m 50 ls [.ref (yP y_11 a0 44)]) rfl ?_
          refine lv_iload_n G.1 G.2.1 d_Mo_call_50 rfl (lv_at hl 1 rfl) ?_
          refine uqald G hP (kdp h_a0 rfl) (typ h_a0 rfl) rfl h d_Mo_call_51 (fun b_23 n_24 h => ?_)
          refine ugfN (v := .ref (yP y_11 b_23 62)) G hP (oa_14 h_a0 n_24) iMw rfl 62 (by decide) rfl q2820 rfl rfl d_Mo_call_52 ?_
          refine lv_iload_n G.1 G.2.1 d_Mo_call_55 rfl (lv_at hl 2 rfl) ?_
          refine uqald G hP (kdp (oa_14 h_a0 n_24) rfl) (typ (oa_14 h_a0 n_24) rfl) rfl h d_Mo_call_56 (fun b_25 n_26 h => ?_)
          refine lv_bipush (v := (-2)) G.1 G.2.1 d_Mo_call_57 (by decide) ?_
          refine upfN G hP hD hS h 0 putV (oa_13 (oa_14 h_a0 n_24) n_26) iMr tMr tMr_ok nMr rfl (by decide) rfl q2987 rfl rfl fV rfl rfl d_Mo_call_59 (fun s_27 H locs h hP hD hS => ?_)
          refine lv_bipush (v := (-11)) G.1 G.2.1 d_Mo_call_62 (by decide) ?_
          exact hret _ (y_11, s_27, 0 + d_12, 0 + e_13) _ _ _ _ _ ls h hP hD hS (Nat.le_refl _) (Nat.le_refl _) hd.1 hd.2 d_Mo_call_64
      · skip
        have h := h.2 c32
        refine lv_bipush (v := (-2)) G.1 G.2.1 d_Mo_call_35 (by decide) ?_
        exact hret _ (y, s_4, 0, 0) _ _ _ _ _ ls h hP hD hS (Nat.le_refl _) (Nat.le_refl _) hd.1 hd.2 d_Mo_call_37
    · skip
      have h := h.2 c12
      exact J_15 y s_4 0 0 H locs h hP hD hS ls (lv_sub hl [] rfl)
theorem q3859 : Cond.methodLink "ClassWorksModel" 850 y_Mo_fails ∈ lw_ok := lw_okmem (List.mem_of_getElem? (i := 3859) (by decide +kernel)) rfl
theorem q3862 : Cond.code y_Mo_fails b_Mo_fails 3 (some .int) ∈ lw_ok := lw_okmem (List.mem_of_getElem? (i := 3862) (by decide +kernel)) rfl
theorem q3861 : Cond.instanceMethod y_Mo_fails ∈ lw_ok := lw_okmem (List.mem_of_getElem? (i := 3861) (by decide +kernel)) rfl
theorem q254 : Cond.selects y_Mo_fails.cls y_Mo_fails y_Mo_fails ∈ lw_ok := lw_okmem (List.mem_of_getElem? (i := 254) (by decide +kernel)) rfl
theorem w9_Mo_fails : CWv y_Mo_fails b_Mo_fails 3 (some .int) 2 ∧ Cond.instanceMethod y_Mo_fails ∈ lw_ok ∧ Cond.selects y_Mo_fails.cls y_Mo_fails y_Mo_fails ∈ lw_ok := ⟨⟨q3862, q348, by decide +kernel, by decide +kernel, by decide +kernel⟩, q3861, q254⟩
def y_Mo_findLinked : MethodName := ⟨"ClassWorksModel", "findLinked", "(I)I"⟩
abbrev b_Mo_findLinked : ByteArray := prog_14_method_81_code
theorem d_Mo_findLinked_0 : decode b_Mo_findLinked 0 = .ok (.aload_n 0, 1) := by decide +kernel
theorem d_Mo_findLinked_1 : decode b_Mo_findLinked 1 = .ok (.iload_n 1, 1) := by decide +kernel
theorem d_Mo_findLinked_2 : decode b_Mo_findLinked 2 = .ok (.invokevirtual 601, 3) := by decide +kernel
theorem d_Mo_findLinked_5 : decode b_Mo_findLinked 5 = .ok (.istore_n 2, 1) := by decide +kernel
theorem d_Mo_findLinked_6 : decode b_Mo_findLinked 6 = .ok (.iload_n 2, 1) := by decide +kernel
theorem d_Mo_findLinked_7 : decode b_Mo_findLinked 7 = .ok (.ifCond .ge 12, 3) := by decide +kernel
theorem d_Mo_findLinked_10 : decode b_Mo_findLinked 10 = .ok (.aload_n 0, 1) := by decide +kernel
theorem d_Mo_findLinked_11 : decode b_Mo_findLinked 11 = .ok (.bipush 50, 2) := by decide +kernel
theorem d_Mo_findLinked_13 : decode b_Mo_findLinked 13 = .ok (.bipush 11, 2) := by decide +kernel
theorem d_Mo_findLinked_15 : decode b_Mo_findLinked 15 = .ok (.invokevirtual 850, 3) := by decide +kernel
theorem d_Mo_findLinked_18 : decode b_Mo_findLinked 18 = .ok (.ireturn, 1) := by decide +kernel
theorem d_Mo_findLinked_19 : decode b_Mo_findLinked 19 = .ok (.aload_n 0, 1) := by decide +kernel
theorem d_Mo_findLinked_20 : decode b_Mo_findLinked 20 = .ok (.iload_n 2, 1) := by decide +kernel
theorem d_Mo_findLinked_21 : decode b_Mo_findLinked 21 = .ok (.invokevirtual 749, 3) := by decide +kernel
theorem d_Mo_findLinked_24 : decode b_Mo_findLinked 24 = .ok (.ifCond .eq 7, 3) := by decide +kernel
theorem d_Mo_findLinked_27 : decode b_Mo_findLinked 27 = .ok (.iload_n 2, 1) := by decide +kernel
theorem d_Mo_findLinked_28 : decode b_Mo_findLinked 28 = .ok (.goto 31, 3) := by decide +kernel
theorem d_Mo_findLinked_31 : decode b_Mo_findLinked 31 = .ok (.aload_n 0, 1) := by decide +kernel
theorem d_Mo_findLinked_32 : decode b_Mo_findLinked 32 = .ok (.aload_n 0, 1) := by decide +kernel
theorem d_Mo_findLinked_33 : decode b_Mo_findLinked 33 = .ok (.getfield 522, 3) := by decide +kernel
theorem d_Mo_findLinked_36 : decode b_Mo_findLinked 36 = .ok (.getfield 444, 3) := by decide +kernel
theorem d_Mo_findLinked_39 : decode b_Mo_findLinked 39 = .ok (.iload_n 2, 1) := by decide +kernel
theorem d_Mo_findLinked_40 : decode b_Mo_findLinked 40 = .ok (.iaload, 1) := by decide +kernel
theorem d_Mo_findLinked_41 : decode b_Mo_findLinked 41 = .ok (.bipush 100, 2) := by decide +kernel
theorem d_Mo_findLinked_43 : decode b_Mo_findLinked 43 = .ok (.idiv, 1) := by decide +kernel
theorem d_Mo_findLinked_44 : decode b_Mo_findLinked 44 = .ok (.aload_n 0, 1) := by decide +kernel
theorem d_Mo_findLinked_45 : decode b_Mo_findLinked 45 = .ok (.getfield 522, 3) := by decide +kernel
theorem d_Mo_findLinked_48 : decode b_Mo_findLinked 48 = .ok (.getfield 444, 3) := by decide +kernel
theorem d_Mo_findLinked_51 : decode b_Mo_findLinked 51 = .ok (.iload_n 2, 1) := by decide +kernel
theorem d_Mo_findLinked_52 : decode b_Mo_findLinked 52 = .ok (.iaload, 1) := by decide +kernel
theorem d_Mo_findLinked_53 : decode b_Mo_findLinked 53 = .ok (.bipush 100, 2) := by decide +kernel
theorem d_Mo_findLinked_55 : decode b_Mo_findLinked 55 = .ok (.irem, 1) := by decide +kernel
theorem d_Mo_findLinked_56 : decode b_Mo_findLinked 56 = .ok (.invokevirtual 850, 3) := by decide +kernel
theorem d_Mo_findLinked_59 : decode b_Mo_findLinked 59 = .ok (.ireturn, 1) := by decide +kernel
abbrev ru_Mo_findLinked : Room := { frames := 469, cells := 0, slots := 0, locals := 11410 }
def wj_Mo_findLinked_59 (y : Ly) (Post : St → Int32 → Prop) (a0 : Nat) (s_j59 : St) (z0j59 : Int32) : Prop := Post s_j59 z0j59
def wu_Mo_findLinked (y : Ly) (Post : St → Int32 → Prop) (σ : St) (a0 : Nat) (v1 : Int32) : Prop := wu_Mo_classOf y (fun (s_2 : St) (r_1 : Int32) => ((0 ≤ r_1 → wu_Mo_isLinked y (fun (s_4 : St) (r_3 : Int32) => ((r_3 = 0 → ∃ b_5 : Nat, sO s_4 a0 45 = some b_5 ∧ cl b_5 = 13 ∧ xA y s_4 b_5 11 r_1 (fun x_8 : Int32 => xA y s_4 b_5 11 r_1 (fun x_9 : Int32 => wu_Mo_fails y (fun (s_11 : St) (r_10 : Int32) => wj_Mo_findLinked_59 y Post a0 s_11 r_10) s_4 a0 (x_8 / 100) (x_9 - x_9 / 100 * 100)))) ∧ (¬ (r_3 = 0) → wj_Mo_findLinked_59 y Post a0 s_4 r_1))) s_2 a0 r_1) ∧ (¬ (0 ≤ r_1) → wu_Mo_fails y (fun (s_13 : St) (r_12 : Int32) => Post s_13 r_12) s_2 a0 50 11))) σ a0 v1
set_option maxHeartbeats 4000000 in
set_option maxRecDepth 100000 in
theorem cu_Mo_findLinked (l : Launch) (D : va_G) (g : Nat → ClassId) (ad : Nat → Nat) (y : Ly) (Post : St → Int32 → Prop) (σ : St) (a0 : Nat) (v1 : Int32) (sz : Nat) (h_a0 : cl a0 = 14) (h : wu_Mo_findLinked y Post σ a0 v1) : Met l y_Mo_findLinked (mw y_Mo_findLinked b_Mo_findLinked 3 (some .int)) ru_Mo_findLinked (PC g D [] [.ref (ad a0), .int v1] sz (ws g ad y σ)) (va_Qi (fun (r : Int32) (u : St) => Post u r) (QW D (va_A (ws g ad y σ) sz) (fun u => ws g ad y u)) (va_A (ws g ad y σ) sz)) 0 0 (va_A (ws g ad y σ) sz) := by
  refine ofI (by decide +kernel) (Nat.le_of_ble_eq_true rfl) ?_
  intro p e s m args below meth c A Q ls H locs G hsz hP hD hS hl hret
  subst hsz
  have hl : lv_has ls 3 [(0, .ref (ad a0)), (1, .int v1)] := hl
  unfold wu_Mo_findLinked at h
  refine lv_aload_n G.1 G.2.1 d_Mo_findLinked_0 rfl (lv_at hl 0 rfl) ?_
  refine lv_iload_n G.1 G.2.1 d_Mo_findLinked_1 rfl (lv_at hl 1 rfl) ?_
  refine ucVi (As := [.int v1]) (rest := []) G hP hD hS (cu_Mo_classOf l D g ad y _ σ a0 v1 H.size h_a0 h) w9_Mo_classOf q3571 ⟨Nat.le_of_ble_eq_true rfl, Nat.le_of_ble_eq_true rfl⟩ rfl rfl h_a0 (q := (RMo, TMo, 131)) rfl rfl hl.1 rfl (Nat.le_of_ble_eq_true rfl) rfl ⟨Nat.le_refl _, Nat.le_refl _⟩ d_Mo_findLinked_2 (fun r_1 s_2 H locs h hP hD hS => ?_)
  refine lv_istore_n (lv' := [(2, .int r_1), (0, .ref (ad a0)), (1, .int v1)]) G.1 G.2.1 d_Mo_findLinked_5 rfl hl (by decide) rfl (fun ls hl => ?_)
  refine lv_iload_n G.1 G.2.1 d_Mo_findLinked_6 rfl (lv_at hl 0 rfl) ?_
  refine lv_if_ge (tgt := 19) G.1 G.2.1 d_Mo_findLinked_7 (by decide) (fun c7 => ?_) (fun c7 => ?_)
  · skip
    have h := h.1 c7
    refine lv_aload_n G.1 G.2.1 d_Mo_findLinked_19 rfl (lv_at hl 1 rfl) ?_
    refine lv_iload_n G.1 G.2.1 d_Mo_findLinked_20 rfl (lv_at hl 0 rfl) ?_
    refine ucVi (As := [.int r_1]) (rest := []) G hP hD hS (cu_Mo_isLinked l D g ad y _ s_2 a0 r_1 H.size h_a0 h) w9_Mo_isLinked q3677 ⟨Nat.le_of_ble_eq_true rfl, Nat.le_of_ble_eq_true rfl⟩ rfl rfl h_a0 (q := (RMo, TMo, 131)) rfl rfl hl.1 rfl (Nat.le_of_ble_eq_true rfl) rfl ⟨Nat.le_refl _, Nat.le_refl _⟩ d_Mo_findLinked_21 (fun r_3 s_4 H locs h hP hD hS => ?_)
    have J_59 : ∀ (s_j59 : St) (z0j59 : Int32) (H : Heap) (locs : List Loc), wj_Mo_findLinked_59 y Post a0 s_j59 z0j59 → va_P D CL (ws g ad y s_j59) H → va_D A (ws g ad y s_j59) → va_S A s.heap H locs → ∀ ls, lv_has ls 3 [] → W p l e ru_Mo_findLinked s m args below meth c H locs 0 0 Q (F0 m 59 ls [.int z0j59]) := by
      intro s_j59 z0j59 H locs h hP hD hS ls hl
      unfold wj_Mo_findLinked_59 at h
      exact hret _ _ _ _ _ _ _ ls h hP hD hS (Nat.le_refl _) (Nat.le_refl _) d_Mo_findLinked_59
    refine lv_if_eq (tgt := 31) G.1 G.2.1 d_Mo_findLinked_24 (by decide) (fun c24 => ?_) (fun c24 => ?_)
    · skip
      have h := h.1 c24
      refine lv_aload_n G.1 G.2.1 d_Mo_findLinked_31 rfl (lv_at hl 1 rfl) ?_
      refine W.eq (g2 := F0 m 32 ls [.ref (ad a0)]) rfl ?_
      refine lv_aload_n G.1 G.2.1 d_Mo_findLinked_32 rfl (lv_at hl 1 rfl) ?_
      obtain ⟨b_5, e_6, c_7, h⟩ := h
      refine ugf (v := .ref (ad b_5)) G hP h_a0 iMo rfl 45 (by decide) rfl q3109 rfl (by show va_rf ((sO s_4 a0 45).map ad) = _; rw [e_6]; rfl) d_Mo_findLinked_33 ?_
      refine ugfN (v := .ref (yP y b_5 11)) G hP c_7 iMw rfl 11 (by decide) rfl q2726 rfl rfl d_Mo_findLinked_36 ?_
      refine lv_iload_n G.1 G.2.1 d_Mo_findLinked_39 rfl (lv_at hl 0 rfl) ?_
      refine uiald G hP (kdp c_7 rfl) (typ c_7 rfl) h d_Mo_findLinked_40 (fun x_8 h => ?_)
      refine lv_bipush (v := 100) G.1 G.2.1 d_Mo_findLinked_41 (by decide) ?_
      refine lv_idiv G.1 G.2.1 d_Mo_findLinked_43 (by decide) ?_
      refine lv_aload_n G.1 G.2.1 d_Mo_findLinked_44 rfl (lv_at hl 1 rfl) ?_
      refine ugf (v := .ref (ad b_5)) G hP h_a0 iMo rfl 45 (by decide) rfl q3109 rfl (by show va_rf ((sO s_4 a0 45).map ad) = _; rw [e_6]; rfl) d_Mo_findLinked_45 ?_
      refine ugfN (v := .ref (yP y b_5 11)) G hP c_7 iMw rfl 11 (by decide) rfl q2726 rfl rfl d_Mo_findLinked_48 ?_
      refine lv_iload_n G.1 G.2.1 d_Mo_findLinked_51 rfl (lv_at hl 0 rfl) ?_
      refine uiald G hP (kdp c_7 rfl) (typ c_7 rfl) h d_Mo_findLinked_52 (fun x_9 h => ?_)
      refine W.eq (g2 := F0 m 53 ls [.int x_9, .int (x_8 / 100), .ref (ad a0)]) rfl ?_
      refine lv_bipush (v := 100) G.1 G.2.1 d_Mo_findLinked_53 (by decide) ?_
      refine lv_irem G.1 G.2.1 d_Mo_findLinked_55 (by decide) ?_
      refine ucVi (As := [.int (x_8 / 100), .int (x_9 - x_9 / 100 * 100)]) (rest := []) G hP hD hS (cu_Mo_fails l D g ad y _ s_4 a0 (x_8 / 100) (x_9 - x_9 / 100 * 100) H.size h_a0 h) w9_Mo_fails q3859 ⟨Nat.le_of_ble_eq_true rfl, Nat.le_of_ble_eq_true rfl⟩ rfl rfl h_a0 (q := (RMo, TMo, 131)) rfl rfl hl.1 rfl (Nat.le_of_ble_eq_true rfl) rfl ⟨Nat.le_refl _, Nat.le_refl _⟩ d_Mo_findLinked_56 (fun r_10 s_11 H locs h hP hD hS => ?_)
      exact J_59 s_11 r_10 H locs h hP hD hS ls (lv_sub hl [] rfl)
    · skip
      have h := h.2 c24
      refine lv_iload_n G.1 G.2.1 d_Mo_findLinked_27 rfl (lv_at hl 0 rfl) ?_
      refine W.eq (g2 := F0 m 28 ls [.int r_1]) rfl ?_
      refine lv_goto (tgt := 59) G.1 G.2.1 d_Mo_findLinked_28 (by decide) ?_
      exact J_59 s_4 r_1 H locs h hP hD hS ls (lv_sub hl [] rfl)
  · skip
    have h := h.2 c7
    refine lv_aload_n G.1 G.2.1 d_Mo_findLinked_10 rfl (lv_at hl 1 rfl) ?_
    refine lv_bipush (v := 50) G.1 G.2.1 d_Mo_findLinked_11 (by decide) ?_
    refine lv_bipush (v := 11) G.1 G.2.1 d_Mo_findLinked_13 (by decide) ?_
    refine ucVi (As := [.int 50, .int 11]) (rest := []) G hP hD hS (cu_Mo_fails l D g ad y _ s_2 a0 50 11 H.size h_a0 h) w9_Mo_fails q3859 ⟨Nat.le_of_ble_eq_true rfl, Nat.le_of_ble_eq_true rfl⟩ rfl rfl h_a0 (q := (RMo, TMo, 131)) rfl rfl hl.1 rfl (Nat.le_of_ble_eq_true rfl) rfl ⟨Nat.le_refl _, Nat.le_refl _⟩ d_Mo_findLinked_15 (fun r_12 s_13 H locs h hP hD hS => ?_)
    exact hret _ _ _ _ _ _ _ ls h hP hD hS (Nat.le_refl _) (Nat.le_refl _) d_Mo_findLinked_18
def y_Mo_listOwn : MethodName := ⟨"ClassWorksModel", "listOwn", "(I)V"⟩
abbrev b_Mo_listOwn : ByteArray := prog_14_method_56_code
theorem q3133 : Cond.fieldLink "ClassWorksModel" 739 "ClassWorksModel" "faceSeen" "J" ∈ lw_ok := lw_okmem (List.mem_of_getElem? (i := 3133) (by decide +kernel)) rfl
theorem q3131 : Cond.fieldLink "ClassWorksModel" 302 "ClassWorksModel" "faceList" "[I" ∈ lw_ok := lw_okmem (List.mem_of_getElem? (i := 3131) (by decide +kernel)) rfl
theorem q3132 : Cond.fieldLink "ClassWorksModel" 736 "ClassWorksModel" "faceCount" "I" ∈ lw_ok := lw_okmem (List.mem_of_getElem? (i := 3132) (by decide +kernel)) rfl
theorem q3871 : Cond.methodLink "ClassWorksModel" 743 y_Mo_listOwn ∈ lw_ok := lw_okmem (List.mem_of_getElem? (i := 3871) (by decide +kernel)) rfl
theorem q3874 : Cond.code y_Mo_listOwn b_Mo_listOwn 4 (none) ∈ lw_ok := lw_okmem (List.mem_of_getElem? (i := 3874) (by decide +kernel)) rfl
theorem q3873 : Cond.instanceMethod y_Mo_listOwn ∈ lw_ok := lw_okmem (List.mem_of_getElem? (i := 3873) (by decide +kernel)) rfl
theorem q257 : Cond.selects y_Mo_listOwn.cls y_Mo_listOwn y_Mo_listOwn ∈ lw_ok := lw_okmem (List.mem_of_getElem? (i := 257) (by decide +kernel)) rfl
theorem w9_Mo_listOwn : CWv y_Mo_listOwn b_Mo_listOwn 4 (none) 1 ∧ Cond.instanceMethod y_Mo_listOwn ∈ lw_ok ∧ Cond.selects y_Mo_listOwn.cls y_Mo_listOwn y_Mo_listOwn ∈ lw_ok := ⟨⟨q3874, q348, by decide +kernel, by decide +kernel, by decide +kernel⟩, q3873, q257⟩
theorem d_Mo_listOwn_0 : decode b_Mo_listOwn 0 = .ok (.iconst 0, 1) := by decide +kernel
theorem d_Mo_listOwn_1 : decode b_Mo_listOwn 1 = .ok (.istore_n 2, 1) := by decide +kernel
theorem d_Mo_listOwn_2 : decode b_Mo_listOwn 2 = .ok (.iload_n 2, 1) := by decide +kernel
theorem d_Mo_listOwn_3 : decode b_Mo_listOwn 3 = .ok (.aload_n 0, 1) := by decide +kernel
theorem d_Mo_listOwn_4 : decode b_Mo_listOwn 4 = .ok (.getfield 522, 3) := by decide +kernel
theorem d_Mo_listOwn_7 : decode b_Mo_listOwn 7 = .ok (.getfield 432, 3) := by decide +kernel
theorem d_Mo_listOwn_10 : decode b_Mo_listOwn 10 = .ok (.iload_n 1, 1) := by decide +kernel
theorem d_Mo_listOwn_11 : decode b_Mo_listOwn 11 = .ok (.iaload, 1) := by decide +kernel
theorem d_Mo_listOwn_12 : decode b_Mo_listOwn 12 = .ok (.if_icmp .ge 81, 3) := by decide +kernel
theorem d_Mo_listOwn_15 : decode b_Mo_listOwn 15 = .ok (.aload_n 0, 1) := by decide +kernel
theorem d_Mo_listOwn_16 : decode b_Mo_listOwn 16 = .ok (.aload_n 0, 1) := by decide +kernel
theorem d_Mo_listOwn_17 : decode b_Mo_listOwn 17 = .ok (.getfield 522, 3) := by decide +kernel
theorem d_Mo_listOwn_20 : decode b_Mo_listOwn 20 = .ok (.getfield 612, 3) := by decide +kernel
theorem d_Mo_listOwn_23 : decode b_Mo_listOwn 23 = .ok (.iconst 4, 1) := by decide +kernel
theorem d_Mo_listOwn_24 : decode b_Mo_listOwn 24 = .ok (.iload_n 1, 1) := by decide +kernel
theorem d_Mo_listOwn_25 : decode b_Mo_listOwn 25 = .ok (.imul, 1) := by decide +kernel
theorem d_Mo_listOwn_26 : decode b_Mo_listOwn 26 = .ok (.iload_n 2, 1) := by decide +kernel
theorem d_Mo_listOwn_27 : decode b_Mo_listOwn 27 = .ok (.iadd, 1) := by decide +kernel
theorem d_Mo_listOwn_28 : decode b_Mo_listOwn 28 = .ok (.iaload, 1) := by decide +kernel
theorem d_Mo_listOwn_29 : decode b_Mo_listOwn 29 = .ok (.invokevirtual 601, 3) := by decide +kernel
theorem d_Mo_listOwn_32 : decode b_Mo_listOwn 32 = .ok (.istore_n 3, 1) := by decide +kernel
theorem d_Mo_listOwn_33 : decode b_Mo_listOwn 33 = .ok (.iload_n 3, 1) := by decide +kernel
theorem d_Mo_listOwn_34 : decode b_Mo_listOwn 34 = .ok (.ifCond .lt 53, 3) := by decide +kernel
theorem d_Mo_listOwn_37 : decode b_Mo_listOwn 37 = .ok (.aload_n 0, 1) := by decide +kernel
theorem d_Mo_listOwn_38 : decode b_Mo_listOwn 38 = .ok (.getfield 739, 3) := by decide +kernel
theorem d_Mo_listOwn_41 : decode b_Mo_listOwn 41 = .ok (.iload_n 3, 1) := by decide +kernel
theorem d_Mo_listOwn_42 : decode b_Mo_listOwn 42 = .ok (.lshr, 1) := by decide +kernel
theorem d_Mo_listOwn_43 : decode b_Mo_listOwn 43 = .ok (.lconst 1, 1) := by decide +kernel
theorem d_Mo_listOwn_44 : decode b_Mo_listOwn 44 = .ok (.land, 1) := by decide +kernel
theorem d_Mo_listOwn_45 : decode b_Mo_listOwn 45 = .ok (.lconst 0, 1) := by decide +kernel
theorem d_Mo_listOwn_46 : decode b_Mo_listOwn 46 = .ok (.lcmp, 1) := by decide +kernel
theorem d_Mo_listOwn_47 : decode b_Mo_listOwn 47 = .ok (.ifCond .ne 40, 3) := by decide +kernel
theorem d_Mo_listOwn_50 : decode b_Mo_listOwn 50 = .ok (.aload_n 0, 1) := by decide +kernel
theorem d_Mo_listOwn_51 : decode b_Mo_listOwn 51 = .ok (.dup, 1) := by decide +kernel
theorem d_Mo_listOwn_52 : decode b_Mo_listOwn 52 = .ok (.getfield 739, 3) := by decide +kernel
theorem d_Mo_listOwn_55 : decode b_Mo_listOwn 55 = .ok (.lconst 1, 1) := by decide +kernel
theorem d_Mo_listOwn_56 : decode b_Mo_listOwn 56 = .ok (.iload_n 3, 1) := by decide +kernel
theorem d_Mo_listOwn_57 : decode b_Mo_listOwn 57 = .ok (.lshl, 1) := by decide +kernel
theorem d_Mo_listOwn_58 : decode b_Mo_listOwn 58 = .ok (.lor, 1) := by decide +kernel
theorem d_Mo_listOwn_59 : decode b_Mo_listOwn 59 = .ok (.putfield 739, 3) := by decide +kernel
theorem d_Mo_listOwn_62 : decode b_Mo_listOwn 62 = .ok (.aload_n 0, 1) := by decide +kernel
theorem d_Mo_listOwn_63 : decode b_Mo_listOwn 63 = .ok (.getfield 302, 3) := by decide +kernel
theorem d_Mo_listOwn_66 : decode b_Mo_listOwn 66 = .ok (.aload_n 0, 1) := by decide +kernel
theorem d_Mo_listOwn_67 : decode b_Mo_listOwn 67 = .ok (.getfield 736, 3) := by decide +kernel
theorem d_Mo_listOwn_70 : decode b_Mo_listOwn 70 = .ok (.iload_n 3, 1) := by decide +kernel
theorem d_Mo_listOwn_71 : decode b_Mo_listOwn 71 = .ok (.iastore, 1) := by decide +kernel
theorem d_Mo_listOwn_72 : decode b_Mo_listOwn 72 = .ok (.aload_n 0, 1) := by decide +kernel
theorem d_Mo_listOwn_73 : decode b_Mo_listOwn 73 = .ok (.dup, 1) := by decide +kernel
theorem d_Mo_listOwn_74 : decode b_Mo_listOwn 74 = .ok (.getfield 736, 3) := by decide +kernel
theorem d_Mo_listOwn_77 : decode b_Mo_listOwn 77 = .ok (.iconst 1, 1) := by decide +kernel
theorem d_Mo_listOwn_78 : decode b_Mo_listOwn 78 = .ok (.iadd, 1) := by decide +kernel
theorem d_Mo_listOwn_79 : decode b_Mo_listOwn 79 = .ok (.putfield 736, 3) := by decide +kernel
theorem d_Mo_listOwn_82 : decode b_Mo_listOwn 82 = .ok (.aload_n 0, 1) := by decide +kernel
theorem d_Mo_listOwn_83 : decode b_Mo_listOwn 83 = .ok (.iload_n 3, 1) := by decide +kernel
theorem d_Mo_listOwn_84 : decode b_Mo_listOwn 84 = .ok (.invokevirtual 743, 3) := by decide +kernel
theorem d_Mo_listOwn_87 : decode b_Mo_listOwn 87 = .ok (.iinc 2 1, 3) := by decide +kernel
theorem d_Mo_listOwn_90 : decode b_Mo_listOwn 90 = .ok (.goto (-88), 3) := by decide +kernel
theorem d_Mo_listOwn_93 : decode b_Mo_listOwn 93 = .ok (.return_, 1) := by decide +kernel
abbrev rf_Mo_listOwn (rr : Room) : Room := { frames := rr.frames + 1, cells := 0, slots := 0, locals := rr.locals + 23 }
def wj_Mo_listOwn_87 (rec : Ly → (St → Prop) → St → Nat → Int32 → Prop) (y : Ly) (Post : St → Prop) (K_2 : St → Int32 → Int32 → Prop) (a0 : Nat) (s_j87 : St) (x1j87 : Int32) (x2j87 : Int32) : Prop := K_2 s_j87 x1j87 (x2j87 + 1)
def wb_Mo_listOwn_2 (rec : Ly → (St → Prop) → St → Nat → Int32 → Prop) (y : Ly) (Post : St → Prop) (K_2 : St → Int32 → Int32 → Prop) (a0 : Nat) (s_h2 : St) (x1h2 : Int32) (x2h2 : Int32) : Prop := ∃ b_1 : Nat, sO s_h2 a0 45 = some b_1 ∧ cl b_1 = 13 ∧ xA y s_h2 b_1 7 x1h2 (fun x_4 : Int32 => ((x_4 ≤ x2h2 → Post s_h2) ∧ (¬ (x_4 ≤ x2h2) → xA y s_h2 b_1 6 ((4 * x1h2) + x2h2) (fun x_5 : Int32 => wu_Mo_classOf y (fun (s_7 : St) (r_6 : Int32) => ((r_6 < 0 → wj_Mo_listOwn_87 rec y Post K_2 a0 s_7 x1h2 x2h2) ∧ (¬ (r_6 < 0) → ((¬ (lg_cmp (((sJ s_7 a0 69) >>> (r_6.toInt64 &&& 63)) &&& 1) 0) = 0 → wj_Mo_listOwn_87 rec y Post K_2 a0 s_7 x1h2 x2h2) ∧ ((lg_cmp (((sJ s_7 a0 69) >>> (r_6.toInt64 &&& 63)) &&& 1) 0) = 0 → xP (uJ s_7 a0 69 ((sJ s_7 a0 69) ||| (1 <<< (r_6.toInt64 &&& 63)))) (fun s_8 : St => xS y s_8 a0 67 (sV s_8 a0 68) r_6 (fun s_9 : St => xP (uV s_9 a0 68 ((sV s_9 a0 68) + 1)) (fun s_10 : St => rec y (fun (s_12 : St) => wj_Mo_listOwn_87 rec y Post K_2 a0 s_12 x1h2 x2h2) s_10 a0 r_6)))))))) s_h2 a0 x_5))))
def wl_Mo_listOwn_2 (rec : Ly → (St → Prop) → St → Nat → Int32 → Prop) (y : Ly) (Post : St → Prop) (a0 : Nat) (s_h2 : St) (x1h2 : Int32) (x2h2 : Int32) : Prop := ∃ (I : St → Int32 → Int32 → Prop) (μ : St → Int32 → Int32 → Nat), I s_h2 x1h2 x2h2 ∧ ∀ (u : St) (t0 : Int32) (t1 : Int32), I u t0 t1 → wb_Mo_listOwn_2 rec y Post (fun z t0q t1q => I z t0q t1q ∧ μ z t0q t1q < μ u t0 t1) a0 u t0 t1
def wf_Mo_listOwn (rec : Ly → (St → Prop) → St → Nat → Int32 → Prop) (y : Ly) (Post : St → Prop) (σ : St) (a0 : Nat) (v1 : Int32) : Prop := wl_Mo_listOwn_2 rec y Post a0 σ v1 0
set_option maxHeartbeats 4000000 in
set_option maxRecDepth 100000 in
theorem cf_Mo_listOwn (l : Launch) (D : va_G) (g : Nat → ClassId) (ad : Nat → Nat) (rec : Ly → (St → Prop) → St → Nat → Int32 → Prop) (rr : Room) (hrr : rr.cells = 0 ∧ rr.slots = 0) (hrec : ∀ (y : Ly) (Post : St → Prop) (σ : St) (a0 : Nat) (v1 : Int32) (sz : Nat) (_ : cl a0 = 14) (_ : rec y Post σ a0 v1), Met l y_Mo_listOwn (mw y_Mo_listOwn b_Mo_listOwn 4 (none)) rr (PC g D [] [.ref (ad a0), .int v1] sz (ws g ad y σ)) (va_Qv (fun u : St => Post u) (QW D (va_A (ws g ad y σ) sz) (fun u => ws g ad y u)) (va_A (ws g ad y σ) sz)) 0 0 (va_A (ws g ad y σ) sz)) (y : Ly) (Post : St → Prop) (σ : St) (a0 : Nat) (v1 : Int32) (sz : Nat) (h_a0 : cl a0 = 14) (h : wf_Mo_listOwn rec y Post σ a0 v1) : Met l y_Mo_listOwn (mw y_Mo_listOwn b_Mo_listOwn 4 (none)) (rf_Mo_listOwn rr) (PC g D [] [.ref (ad a0), .int v1] sz (ws g ad y σ)) (va_Qv (fun u : St => Post u) (QW D (va_A (ws g ad y σ) sz) (fun u => ws g ad y u)) (va_A (ws g ad y σ) sz)) 0 0 (va_A (ws g ad y σ) sz) := by
  refine ofV (by decide +kernel) (Nat.le_of_ble_eq_true rfl) ?_
  intro p e s m args below meth c A Q ls H locs G hsz hP hD hS hl hret
  subst hsz
  have hl : lv_has ls 4 [(0, .ref (ad a0)), (1, .int v1)] := hl
  unfold wf_Mo_listOwn at h
  refine lv_iconst (v := 0) G.1 G.2.1 d_Mo_listOwn_0 (by decide) ?_
  refine lv_istore_n (lv' := [(2, .int 0), (0, .ref (ad a0)), (1, .int v1)]) G.1 G.2.1 d_Mo_listOwn_1 rfl hl (by decide) rfl (fun ls hl => ?_)
  unfold wl_Mo_listOwn_2 at h
  obtain ⟨I_2, μ_2, hI_2, hB_2⟩ := h
  have L_2 : ∀ (n_2 : Nat) (s_h2 : St) (x1h2 : Int32) (x2h2 : Int32), μ_2 s_h2 x1h2 x2h2 < n_2 → I_2 s_h2 x1h2 x2h2 → ∀ (H : Heap) (locs : List Loc), va_P D CL (ws g ad y s_h2) H → va_D A (ws g ad y s_h2) → va_S A s.heap H locs → ∀ ls, lv_has ls 4 [(0, .ref (ad a0)), (1, .int x1h2), (2, .int x2h2)] → W p l e (rf_Mo_listOwn rr) s m args below meth c H locs 0 0 Q (F0 m 2 ls []) := by
    intro n_2
    induction n_2 with
    | zero => intro s_h2 x1h2 x2h2 hμ; exact absurd hμ (Nat.not_lt_zero _)
    | succ n_2 ih_2 =>
      intro s_h2 x1h2 x2h2 hμ_2 hJ H locs hP hD hS ls hl
      obtain ⟨K_2, hK_2, h⟩ : ∃ K : St → Int32 → Int32 → Prop, (∀ z (t0 : Int32) (t1 : Int32), K z t0 t1 → I_2 z t0 t1 ∧ μ_2 z t0 t1 < μ_2 s_h2 x1h2 x2h2) ∧ wb_Mo_listOwn_2 rec y Post K a0 s_h2 x1h2 x2h2 := ⟨_, fun _ _ _ h => h, hB_2 s_h2 x1h2 x2h2 hJ⟩
      unfold wb_Mo_listOwn_2 at h
      refine lv_iload_n G.1 G.2.1 d_Mo_listOwn_2 rfl (lv_at hl 2 rfl) ?_
      refine lv_aload_n G.1 G.2.1 d_Mo_listOwn_3 rfl (lv_at hl 0 rfl) ?_
      obtain ⟨b_1, e_2, c_3, h⟩ := h
      refine ugf (v := .ref (ad b_1)) G hP h_a0 iMo rfl 45 (by decide) rfl q3109 rfl (by show va_rf ((sO s_h2 a0 45).map ad) = _; rw [e_2]; rfl) d_Mo_listOwn_4 ?_
      refine ugfN (v := .ref (yP y b_1 7)) G hP c_3 iMw rfl 7 (by decide) rfl q2718 rfl rfl d_Mo_listOwn_7 ?_
      refine lv_iload_n G.1 G.2.1 d_Mo_listOwn_10 rfl (lv_at hl 1 rfl) ?_
      refine uiald G hP (kdp c_3 rfl) (typ c_3 rfl) h d_Mo_listOwn_11 (fun x_4 h => ?_)
      refine lv_icmp_ge (tgt := 93) G.1 G.2.1 d_Mo_listOwn_12 (by decide) (fun c12 => ?_) (fun c12 => ?_)
      · skip
        have h := h.1 c12
        exact hret _ _ _ _ _ _ ls h hP hD hS (Nat.le_refl _) (Nat.le_refl _) d_Mo_listOwn_93
      · skip
        have h := h.2 c12
        refine lv_aload_n G.1 G.2.1 d_Mo_listOwn_15 rfl (lv_at hl 0 rfl) ?_
        refine lv_aload_n G.1 G.2.1 d_Mo_listOwn_16 rfl (lv_at hl 0 rfl) ?_
        refine ugf (v := .ref (ad b_1)) G hP h_a0 iMo rfl 45 (by decide) rfl q3109 rfl (by show va_rf ((sO s_h2 a0 45).map ad) = _; rw [e_2]; rfl) d_Mo_listOwn_17 ?_
        refine ugfN (v := .ref (yP y b_1 6)) G hP c_3 iMw rfl 6 (by decide) rfl q2716 rfl rfl d_Mo_listOwn_20 ?_
        refine W.eq (g2 := F0 m 23 ls [.ref (yP y b_1 6), .ref (ad a0)]) rfl ?_
        refine lv_iconst (v := 4) G.1 G.2.1 d_Mo_listOwn_23 (by decide) ?_
        refine lv_iload_n G.1 G.2.1 d_Mo_listOwn_24 rfl (lv_at hl 1 rfl) ?_
        refine lv_imul G.1 G.2.1 d_Mo_listOwn_25 ?_
        refine lv_iload_n G.1 G.2.1 d_Mo_listOwn_26 rfl (lv_at hl 2 rfl) ?_
        refine lv_iadd G.1 G.2.1 d_Mo_listOwn_27 ?_
        refine uiald G hP (kdp c_3 rfl) (typ c_3 rfl) h d_Mo_listOwn_28 (fun x_5 h => ?_)
        refine ucVi (As := [.int x_5]) (rest := []) G hP hD hS (cu_Mo_classOf l D g ad y _ s_h2 a0 x_5 H.size h_a0 h) w9_Mo_classOf q3571 ⟨Nat.le_trans (by decide) (Nat.le_add_left _ _), Nat.le_trans (by decide) (Nat.le_add_left _ _)⟩ rfl rfl h_a0 (q := (RMo, TMo, 131)) rfl rfl hl.1 rfl (Nat.le_of_ble_eq_true rfl) rfl ⟨Nat.le_refl _, Nat.le_refl _⟩ d_Mo_listOwn_29 (fun r_6 s_7 H locs h hP hD hS => ?_)
        refine lv_istore_n (lv' := [(3, .int r_6), (0, .ref (ad a0)), (1, .int x1h2), (2, .int x2h2)]) G.1 G.2.1 d_Mo_listOwn_32 rfl hl (by decide) rfl (fun ls hl => ?_)
        refine lv_iload_n G.1 G.2.1 d_Mo_listOwn_33 rfl (lv_at hl 0 rfl) ?_
        have J_87 : ∀ (s_j87 : St) (x1j87 : Int32) (x2j87 : Int32) (H : Heap) (locs : List Loc), wj_Mo_listOwn_87 rec y Post K_2 a0 s_j87 x1j87 x2j87 → va_P D CL (ws g ad y s_j87) H → va_D A (ws g ad y s_j87) → va_S A s.heap H locs → ∀ ls, lv_has ls 4 [(0, .ref (ad a0)), (1, .int x1j87), (2, .int x2j87)] → W p l e (rf_Mo_listOwn rr) s m args below meth c H locs 0 0 Q (F0 m 87 ls []) := by
          intro s_j87 x1j87 x2j87 H locs h hP hD hS ls hl
          unfold wj_Mo_listOwn_87 at h
          refine lv_iinc (v := x2j87 + 1) (lv' := [(2, .int (x2j87 + 1)), (0, .ref (ad a0)), (1, .int x1j87)]) G.1 G.2.1 d_Mo_listOwn_87 hl (k := 2) rfl rfl (by decide) rfl (fun ls hl => ?_)
          refine lv_goto (tgt := 2) G.1 G.2.1 d_Mo_listOwn_90 (by decide) ?_
          have h := hK_2 s_j87 x1j87 (x2j87 + 1) h
          exact ih_2 s_j87 x1j87 (x2j87 + 1) (Nat.lt_of_lt_of_le h.2 (Nat.le_of_lt_succ hμ_2)) h.1 H locs hP hD hS ls (lv_sub hl [1, 2, 0] rfl)
        refine lv_if_lt (tgt := 87) G.1 G.2.1 d_Mo_listOwn_34 (by decide) (fun c34 => ?_) (fun c34 => ?_)
        · skip
          have h := h.1 c34
          exact J_87 s_7 x1h2 x2h2 H locs h hP hD hS ls (lv_sub hl [1, 2, 3] rfl)
        · skip
          have h := h.2 c34
          refine lv_aload_n G.1 G.2.1 d_Mo_listOwn_37 rfl (lv_at hl 1 rfl) ?_
          refine ugf (v := .long (sJ s_7 a0 69)) G hP h_a0 iMo rfl 69 (by decide) rfl q3133 rfl rfl d_Mo_listOwn_38 ?_
          refine W.eq (g2 := F0 m 41 ls [.long (sJ s_7 a0 69)]) rfl ?_
          refine lv_iload_n G.1 G.2.1 d_Mo_listOwn_41 rfl (lv_at hl 0 rfl) ?_
          refine lv_lshr G.1 G.2.1 d_Mo_listOwn_42 rfl ?_
          refine lv_lconst (v := 1) G.1 G.2.1 d_Mo_listOwn_43 (by decide) ?_
          refine lv_land G.1 G.2.1 d_Mo_listOwn_44 ?_
          refine lv_lconst (v := 0) G.1 G.2.1 d_Mo_listOwn_45 (by decide) ?_
          refine W.lcmp G.1 G.2.1 d_Mo_listOwn_46 ?_
          refine lv_if_ne (tgt := 87) G.1 G.2.1 d_Mo_listOwn_47 (by decide) (fun c47 => ?_) (fun c47 => ?_)
          · skip
            have h := h.1 c47
            exact J_87 s_7 x1h2 x2h2 H locs h hP hD hS ls (lv_sub hl [1, 2, 3] rfl)
          · skip
            have h := h.2 c47
            refine lv_aload_n G.1 G.2.1 d_Mo_listOwn_50 rfl (lv_at hl 1 rfl) ?_
            refine lv_dup G.1 G.2.1 d_Mo_listOwn_51 rfl ?_
            refine ugf (v := .long (sJ s_7 a0 69)) G hP h_a0 iMo rfl 69 (by decide) rfl q3133 rfl rfl d_Mo_listOwn_52 ?_
            refine lv_lconst (v := 1) G.1 G.2.1 d_Mo_listOwn_55 (by decide) ?_
            refine lv_iload_n G.1 G.2.1 d_Mo_listOwn_56 rfl (lv_at hl 0 rfl) ?_
            refine W.eq (g2 := F0 m 57 ls [.int r_6, .long 1, .long (sJ s_7 a0 69), .ref (ad a0)]) rfl ?_
            refine lv_lshl G.1 G.2.1 d_Mo_listOwn_57 rfl ?_
            refine lv_lor G.1 G.2.1 d_Mo_listOwn_58 ?_
            refine upf G hP hD hS h 69 putJ h_a0 iMo tMo tMo_ok nMo rfl (by decide) rfl q3133 rfl rfl fJ rfl rfl d_Mo_listOwn_59 (fun s_8 H locs h hP hD hS => ?_)
            refine lv_aload_n G.1 G.2.1 d_Mo_listOwn_62 rfl (lv_at hl 1 rfl) ?_
            refine ugf (v := .ref (yP y a0 67)) G hP h_a0 iMo rfl 67 (by decide) rfl q3131 rfl rfl d_Mo_listOwn_63 ?_
            refine lv_aload_n G.1 G.2.1 d_Mo_listOwn_66 rfl (lv_at hl 1 rfl) ?_
            refine ugf (v := .int (sV s_8 a0 68)) G hP h_a0 iMo rfl 68 (by decide) rfl q3132 rfl rfl d_Mo_listOwn_67 ?_
            refine lv_iload_n G.1 G.2.1 d_Mo_listOwn_70 rfl (lv_at hl 0 rfl) ?_
            refine uiast G hP hD hS (kdp h_a0 rfl) (typ h_a0 rfl) h d_Mo_listOwn_71 (fun s_9 H locs h hP hD hS => ?_)
            refine lv_aload_n G.1 G.2.1 d_Mo_listOwn_72 rfl (lv_at hl 1 rfl) ?_
            refine lv_dup G.1 G.2.1 d_Mo_listOwn_73 rfl ?_
            refine ugf (v := .int (sV s_9 a0 68)) G hP h_a0 iMo rfl 68 (by decide) rfl q3132 rfl rfl d_Mo_listOwn_74 ?_
            refine W.eq (g2 := F0 m 77 ls [.int (sV s_9 a0 68), .ref (ad a0)]) rfl ?_
            refine lv_iconst (v := 1) G.1 G.2.1 d_Mo_listOwn_77 (by decide) ?_
            refine lv_iadd G.1 G.2.1 d_Mo_listOwn_78 ?_
            refine upf G hP hD hS h 68 putV h_a0 iMo tMo tMo_ok nMo rfl (by decide) rfl q3132 rfl rfl fV rfl rfl d_Mo_listOwn_79 (fun s_10 H locs h hP hD hS => ?_)
            refine lv_aload_n G.1 G.2.1 d_Mo_listOwn_82 rfl (lv_at hl 1 rfl) ?_
            refine lv_iload_n G.1 G.2.1 d_Mo_listOwn_83 rfl (lv_at hl 0 rfl) ?_
            refine ucVv (As := [.int r_6]) (rest := []) G hP hD hS (hrec y _ s_10 a0 r_6 H.size h_a0 h) w9_Mo_listOwn q3871 ⟨by show rr.frames + 1 ≤ rr.frames + _; omega, by show 8 + (4 + 11) + rr.locals ≤ rr.locals + _; omega⟩ hrr.1 hrr.2 h_a0 (q := (RMo, TMo, 131)) rfl rfl hl.1 rfl (Nat.le_of_ble_eq_true rfl) rfl ⟨Nat.le_refl _, Nat.le_refl _⟩ d_Mo_listOwn_84 (fun s_12 H locs h hP hD hS => ?_)
            exact J_87 s_12 x1h2 x2h2 H locs h hP hD hS ls (lv_sub hl [1, 2, 3] rfl)
  exact L_2 _ σ v1 0 (Nat.lt_succ_self _) hI_2 H locs hP hD hS ls (lv_sub hl [1, 2, 0] rfl)
def wn_Mo_listOwn : Nat → Ly → (St → Prop) → St → Nat → Int32 → Prop
  | 0 => fun _ _ _ _ _ => False
  | n + 1 => wf_Mo_listOwn (wn_Mo_listOwn n)
def rn_Mo_listOwn : Nat → Room
  | 0 => { frames := 0, cells := 0, slots := 0, locals := 0 }
  | n + 1 => rf_Mo_listOwn (rn_Mo_listOwn n)
theorem rn_Mo_listOwn_0 : ∀ n, (rn_Mo_listOwn n).cells = 0 ∧ (rn_Mo_listOwn n).slots = 0
  | 0 => ⟨rfl, rfl⟩
  | _ + 1 => ⟨rfl, rfl⟩
theorem cn_Mo_listOwn (l : Launch) (D : va_G) (g : Nat → ClassId) (ad : Nat → Nat) : ∀ (n : Nat) (y : Ly) (Post : St → Prop) (σ : St) (a0 : Nat) (v1 : Int32) (sz : Nat) (h_a0 : cl a0 = 14) (h : wn_Mo_listOwn n y Post σ a0 v1), Met l y_Mo_listOwn (mw y_Mo_listOwn b_Mo_listOwn 4 (none)) (rn_Mo_listOwn n) (PC g D [] [.ref (ad a0), .int v1] sz (ws g ad y σ)) (va_Qv (fun u : St => Post u) (QW D (va_A (ws g ad y σ) sz) (fun u => ws g ad y u)) (va_A (ws g ad y σ) sz)) 0 0 (va_A (ws g ad y σ) sz)
  | 0, _, _, _, _, _, _, _, h => False.elim (show False from h)
  | n + 1, y, Post, σ, a0, v1, sz, h_a0, h => cf_Mo_listOwn l D g ad (wn_Mo_listOwn n) (rn_Mo_listOwn n) (rn_Mo_listOwn_0 n) (cn_Mo_listOwn l D g ad n) y Post σ a0 v1 sz h_a0 h
abbrev ru_Mo_listOwn : Room := rn_Mo_listOwn 52
def wu_Mo_listOwn (y : Ly) (Post : St → Prop) (σ : St) (a0 : Nat) (v1 : Int32) : Prop := wn_Mo_listOwn 52 y Post σ a0 v1
theorem cu_Mo_listOwn (l : Launch) (D : va_G) (g : Nat → ClassId) (ad : Nat → Nat) (y : Ly) (Post : St → Prop) (σ : St) (a0 : Nat) (v1 : Int32) (sz : Nat) (h_a0 : cl a0 = 14) (h : wu_Mo_listOwn y Post σ a0 v1) : Met l y_Mo_listOwn (mw y_Mo_listOwn b_Mo_listOwn 4 (none)) ru_Mo_listOwn (PC g D [] [.ref (ad a0), .int v1] sz (ws g ad y σ)) (va_Qv (fun u : St => Post u) (QW D (va_A (ws g ad y σ) sz) (fun u => ws g ad y u)) (va_A (ws g ad y σ) sz)) 0 0 (va_A (ws g ad y σ) sz) := cn_Mo_listOwn l D g ad 52 y Post σ a0 v1 sz h_a0 h
def y_Mo_listFaces : MethodName := ⟨"ClassWorksModel", "listFaces", "(I)V"⟩
abbrev b_Mo_listFaces : ByteArray := prog_14_method_55_code
theorem d_Mo_listFaces_0 : decode b_Mo_listFaces 0 = .ok (.aload_n 0, 1) := by decide +kernel
theorem d_Mo_listFaces_1 : decode b_Mo_listFaces 1 = .ok (.iconst 0, 1) := by decide +kernel
theorem d_Mo_listFaces_2 : decode b_Mo_listFaces 2 = .ok (.putfield 736, 3) := by decide +kernel
theorem d_Mo_listFaces_5 : decode b_Mo_listFaces 5 = .ok (.aload_n 0, 1) := by decide +kernel
theorem d_Mo_listFaces_6 : decode b_Mo_listFaces 6 = .ok (.lconst 0, 1) := by decide +kernel
theorem d_Mo_listFaces_7 : decode b_Mo_listFaces 7 = .ok (.putfield 739, 3) := by decide +kernel
theorem d_Mo_listFaces_10 : decode b_Mo_listFaces 10 = .ok (.iload_n 1, 1) := by decide +kernel
theorem d_Mo_listFaces_11 : decode b_Mo_listFaces 11 = .ok (.istore_n 2, 1) := by decide +kernel
theorem d_Mo_listFaces_12 : decode b_Mo_listFaces 12 = .ok (.iconst 0, 1) := by decide +kernel
theorem d_Mo_listFaces_13 : decode b_Mo_listFaces 13 = .ok (.istore_n 3, 1) := by decide +kernel
theorem d_Mo_listFaces_14 : decode b_Mo_listFaces 14 = .ok (.iload_n 2, 1) := by decide +kernel
theorem d_Mo_listFaces_15 : decode b_Mo_listFaces 15 = .ok (.ifCond .lt 26, 3) := by decide +kernel
theorem d_Mo_listFaces_18 : decode b_Mo_listFaces 18 = .ok (.iload_n 3, 1) := by decide +kernel
theorem d_Mo_listFaces_19 : decode b_Mo_listFaces 19 = .ok (.bipush 51, 2) := by decide +kernel
theorem d_Mo_listFaces_21 : decode b_Mo_listFaces 21 = .ok (.if_icmp .ge 20, 3) := by decide +kernel
theorem d_Mo_listFaces_24 : decode b_Mo_listFaces 24 = .ok (.aload_n 0, 1) := by decide +kernel
theorem d_Mo_listFaces_25 : decode b_Mo_listFaces 25 = .ok (.iload_n 2, 1) := by decide +kernel
theorem d_Mo_listFaces_26 : decode b_Mo_listFaces 26 = .ok (.invokevirtual 743, 3) := by decide +kernel
theorem d_Mo_listFaces_29 : decode b_Mo_listFaces 29 = .ok (.aload_n 0, 1) := by decide +kernel
theorem d_Mo_listFaces_30 : decode b_Mo_listFaces 30 = .ok (.iload_n 2, 1) := by decide +kernel
theorem d_Mo_listFaces_31 : decode b_Mo_listFaces 31 = .ok (.invokevirtual 725, 3) := by decide +kernel
theorem d_Mo_listFaces_34 : decode b_Mo_listFaces 34 = .ok (.istore_n 2, 1) := by decide +kernel
theorem d_Mo_listFaces_35 : decode b_Mo_listFaces 35 = .ok (.iinc 3 1, 3) := by decide +kernel
theorem d_Mo_listFaces_38 : decode b_Mo_listFaces 38 = .ok (.goto (-24), 3) := by decide +kernel
theorem d_Mo_listFaces_41 : decode b_Mo_listFaces 41 = .ok (.return_, 1) := by decide +kernel
abbrev ru_Mo_listFaces : Room := { frames := 53, cells := 0, slots := 0, locals := 1219 }
def wj_Mo_listFaces_41 (y : Ly) (Post : St → Prop) (a0 : Nat) (s_j41 : St) : Prop := Post s_j41
def wb_Mo_listFaces_14 (y : Ly) (Post : St → Prop) (K_14 : St → Int32 → Int32 → Prop) (a0 : Nat) (s_h14 : St) (x2h14 : Int32) (x3h14 : Int32) : Prop := ((x2h14 < 0 → wj_Mo_listFaces_41 y Post a0 s_h14) ∧ (¬ (x2h14 < 0) → ((51 ≤ x3h14 → wj_Mo_listFaces_41 y Post a0 s_h14) ∧ (¬ (51 ≤ x3h14) → wu_Mo_listOwn y (fun (s_4 : St) => wu_Mo_parentOf y (fun (s_6 : St) (r_5 : Int32) => K_14 s_6 r_5 (x3h14 + 1)) s_4 a0 x2h14) s_h14 a0 x2h14))))
def wl_Mo_listFaces_14 (y : Ly) (Post : St → Prop) (a0 : Nat) (s_h14 : St) (x2h14 : Int32) (x3h14 : Int32) : Prop := ∃ (I : St → Int32 → Int32 → Prop) (μ : St → Int32 → Int32 → Nat), I s_h14 x2h14 x3h14 ∧ ∀ (u : St) (t0 : Int32) (t1 : Int32), I u t0 t1 → wb_Mo_listFaces_14 y Post (fun z t0q t1q => I z t0q t1q ∧ μ z t0q t1q < μ u t0 t1) a0 u t0 t1
def wu_Mo_listFaces (y : Ly) (Post : St → Prop) (σ : St) (a0 : Nat) (v1 : Int32) : Prop := xP (uV σ a0 68 0) (fun s_1 : St => xP (uJ s_1 a0 69 0) (fun s_2 : St => wl_Mo_listFaces_14 y Post a0 s_2 v1 0))
set_option maxHeartbeats 4000000 in
set_option maxRecDepth 100000 in
theorem cu_Mo_listFaces (l : Launch) (D : va_G) (g : Nat → ClassId) (ad : Nat → Nat) (y : Ly) (Post : St → Prop) (σ : St) (a0 : Nat) (v1 : Int32) (sz : Nat) (h_a0 : cl a0 = 14) (h : wu_Mo_listFaces y Post σ a0 v1) : Met l y_Mo_listFaces (mw y_Mo_listFaces b_Mo_listFaces 4 (none)) ru_Mo_listFaces (PC g D [] [.ref (ad a0), .int v1] sz (ws g ad y σ)) (va_Qv (fun u : St => Post u) (QW D (va_A (ws g ad y σ) sz) (fun u => ws g ad y u)) (va_A (ws g ad y σ) sz)) 0 0 (va_A (ws g ad y σ) sz) := by
  refine ofV (by decide +kernel) (Nat.le_of_ble_eq_true rfl) ?_
  intro p e s m args below meth c A Q ls H locs G hsz hP hD hS hl hret
  subst hsz
  have hl : lv_has ls 4 [(0, .ref (ad a0)), (1, .int v1)] := hl
  unfold wu_Mo_listFaces at h
  refine lv_aload_n G.1 G.2.1 d_Mo_listFaces_0 rfl (lv_at hl 0 rfl) ?_
  refine lv_iconst (v := 0) G.1 G.2.1 d_Mo_listFaces_1 (by decide) ?_
  refine upf G hP hD hS h 68 putV h_a0 iMo tMo tMo_ok nMo rfl (by decide) rfl q3132 rfl rfl fV rfl rfl d_Mo_listFaces_2 (fun s_1 H locs h hP hD hS => ?_)
  refine lv_aload_n G.1 G.2.1 d_Mo_listFaces_5 rfl (lv_at hl 0 rfl) ?_
  refine lv_lconst (v := 0) G.1 G.2.1 d_Mo_listFaces_6 (by decide) ?_
  refine upf G hP hD hS h 69 putJ h_a0 iMo tMo tMo_ok nMo rfl (by decide) rfl q3133 rfl rfl fJ rfl rfl d_Mo_listFaces_7 (fun s_2 H locs h hP hD hS => ?_)
  refine lv_iload_n G.1 G.2.1 d_Mo_listFaces_10 rfl (lv_at hl 1 rfl) ?_
  refine lv_istore_n (lv' := [(2, .int v1), (0, .ref (ad a0)), (1, .int v1)]) G.1 G.2.1 d_Mo_listFaces_11 rfl hl (by decide) rfl (fun ls hl => ?_)
  refine lv_iconst (v := 0) G.1 G.2.1 d_Mo_listFaces_12 (by decide) ?_
  refine lv_istore_n (lv' := [(3, .int 0), (2, .int v1), (0, .ref (ad a0)), (1, .int v1)]) G.1 G.2.1 d_Mo_listFaces_13 rfl hl (by decide) rfl (fun ls hl => ?_)
  unfold wl_Mo_listFaces_14 at h
  obtain ⟨I_14, μ_14, hI_14, hB_14⟩ := h
  have L_14 : ∀ (n_14 : Nat) (s_h14 : St) (x2h14 : Int32) (x3h14 : Int32), μ_14 s_h14 x2h14 x3h14 < n_14 → I_14 s_h14 x2h14 x3h14 → ∀ (H : Heap) (locs : List Loc), va_P D CL (ws g ad y s_h14) H → va_D A (ws g ad y s_h14) → va_S A s.heap H locs → ∀ ls, lv_has ls 4 [(0, .ref (ad a0)), (2, .int x2h14), (3, .int x3h14)] → W p l e ru_Mo_listFaces s m args below meth c H locs 0 0 Q (F0 m 14 ls []) := by
    intro n_14
    induction n_14 with
    | zero => intro s_h14 x2h14 x3h14 hμ; exact absurd hμ (Nat.not_lt_zero _)
    | succ n_14 ih_14 =>
      intro s_h14 x2h14 x3h14 hμ_14 hJ H locs hP hD hS ls hl
      obtain ⟨K_14, hK_14, h⟩ : ∃ K : St → Int32 → Int32 → Prop, (∀ z (t0 : Int32) (t1 : Int32), K z t0 t1 → I_14 z t0 t1 ∧ μ_14 z t0 t1 < μ_14 s_h14 x2h14 x3h14) ∧ wb_Mo_listFaces_14 y Post K a0 s_h14 x2h14 x3h14 := ⟨_, fun _ _ _ h => h, hB_14 s_h14 x2h14 x3h14 hJ⟩
      unfold wb_Mo_listFaces_14 at h
      refine lv_iload_n G.1 G.2.1 d_Mo_listFaces_14 rfl (lv_at hl 1 rfl) ?_
      have J_41 : ∀ (s_j41 : St) (H : Heap) (locs : List Loc), wj_Mo_listFaces_41 y Post a0 s_j41 → va_P D CL (ws g ad y s_j41) H → va_D A (ws g ad y s_j41) → va_S A s.heap H locs → ∀ ls, lv_has ls 4 [] → W p l e ru_Mo_listFaces s m args below meth c H locs 0 0 Q (F0 m 41 ls []) := by
        intro s_j41 H locs h hP hD hS ls hl
        unfold wj_Mo_listFaces_41 at h
        exact hret _ _ _ _ _ _ ls h hP hD hS (Nat.le_refl _) (Nat.le_refl _) d_Mo_listFaces_41
      refine lv_if_lt (tgt := 41) G.1 G.2.1 d_Mo_listFaces_15 (by decide) (fun c15 => ?_) (fun c15 => ?_)
      · skip
        have h := h.1 c15
        exact J_41 s_h14 H locs h hP hD hS ls (lv_sub hl [] rfl)
      · skip
        have h := h.2 c15
        refine lv_iload_n G.1 G.2.1 d_Mo_listFaces_18 rfl (lv_at hl 2 rfl) ?_
        refine lv_bipush (v := 51) G.1 G.2.1 d_Mo_listFaces_19 (by decide) ?_
        refine lv_icmp_ge (tgt := 41) G.1 G.2.1 d_Mo_listFaces_21 (by decide) (fun c21 => ?_) (fun c21 => ?_)
        · skip
          have h := h.1 c21
          exact J_41 s_h14 H locs h hP hD hS ls (lv_sub hl [] rfl)
        · skip
          have h := h.2 c21
          refine lv_aload_n G.1 G.2.1 d_Mo_listFaces_24 rfl (lv_at hl 0 rfl) ?_
          refine lv_iload_n G.1 G.2.1 d_Mo_listFaces_25 rfl (lv_at hl 1 rfl) ?_
          refine ucVv (As := [.int x2h14]) (rest := []) G hP hD hS (cu_Mo_listOwn l D g ad y _ s_h14 a0 x2h14 H.size h_a0 h) w9_Mo_listOwn q3871 ⟨Nat.le_of_ble_eq_true rfl, Nat.le_of_ble_eq_true rfl⟩ rfl rfl h_a0 (q := (RMo, TMo, 131)) rfl rfl hl.1 rfl (Nat.le_of_ble_eq_true rfl) rfl ⟨Nat.le_refl _, Nat.le_refl _⟩ d_Mo_listFaces_26 (fun s_4 H locs h hP hD hS => ?_)
          refine lv_aload_n G.1 G.2.1 d_Mo_listFaces_29 rfl (lv_at hl 0 rfl) ?_
          refine lv_iload_n G.1 G.2.1 d_Mo_listFaces_30 rfl (lv_at hl 1 rfl) ?_
          refine ucVi (As := [.int x2h14]) (rest := []) G hP hD hS (cu_Mo_parentOf l D g ad y _ s_4 a0 x2h14 H.size h_a0 h) w9_Mo_parentOf q3689 ⟨Nat.le_of_ble_eq_true rfl, Nat.le_of_ble_eq_true rfl⟩ rfl rfl h_a0 (q := (RMo, TMo, 131)) rfl rfl hl.1 rfl (Nat.le_of_ble_eq_true rfl) rfl ⟨Nat.le_refl _, Nat.le_refl _⟩ d_Mo_listFaces_31 (fun r_5 s_6 H locs h hP hD hS => ?_)
          refine W.eq (g2 := F0 m 34 ls [.int r_5]) rfl ?_
          refine lv_istore_n (lv' := [(2, .int r_5), (0, .ref (ad a0)), (3, .int x3h14)]) G.1 G.2.1 d_Mo_listFaces_34 rfl hl (by decide) rfl (fun ls hl => ?_)
          refine lv_iinc (v := x3h14 + 1) (lv' := [(3, .int (x3h14 + 1)), (2, .int r_5), (0, .ref (ad a0))]) G.1 G.2.1 d_Mo_listFaces_35 hl (k := 2) rfl rfl (by decide) rfl (fun ls hl => ?_)
          refine lv_goto (tgt := 14) G.1 G.2.1 d_Mo_listFaces_38 (by decide) ?_
          have h := hK_14 s_6 r_5 (x3h14 + 1) h
          exact ih_14 s_6 r_5 (x3h14 + 1) (Nat.lt_of_lt_of_le h.2 (Nat.le_of_lt_succ hμ_14)) h.1 H locs hP hD hS ls (lv_sub hl [2, 1, 0] rfl)
  exact L_14 _ s_2 v1 0 (Nat.lt_succ_self _) hI_14 H locs hP hD hS ls (lv_sub hl [2, 1, 0] rfl)
theorem q3867 : Cond.methodLink "ClassWorksModel" 866 y_Mo_listFaces ∈ lw_ok := lw_okmem (List.mem_of_getElem? (i := 3867) (by decide +kernel)) rfl
theorem q3870 : Cond.code y_Mo_listFaces b_Mo_listFaces 4 (none) ∈ lw_ok := lw_okmem (List.mem_of_getElem? (i := 3870) (by decide +kernel)) rfl
theorem q3869 : Cond.instanceMethod y_Mo_listFaces ∈ lw_ok := lw_okmem (List.mem_of_getElem? (i := 3869) (by decide +kernel)) rfl
theorem q256 : Cond.selects y_Mo_listFaces.cls y_Mo_listFaces y_Mo_listFaces ∈ lw_ok := lw_okmem (List.mem_of_getElem? (i := 256) (by decide +kernel)) rfl
theorem w9_Mo_listFaces : CWv y_Mo_listFaces b_Mo_listFaces 4 (none) 1 ∧ Cond.instanceMethod y_Mo_listFaces ∈ lw_ok ∧ Cond.selects y_Mo_listFaces.cls y_Mo_listFaces y_Mo_listFaces ∈ lw_ok := ⟨⟨q3870, q348, by decide +kernel, by decide +kernel, by decide +kernel⟩, q3869, q256⟩
def y_Mo_inFaces : MethodName := ⟨"ClassWorksModel", "inFaces", "(IIIZ)I"⟩
abbrev b_Mo_inFaces : ByteArray := prog_14_method_85_code
theorem d_Mo_inFaces_0 : decode b_Mo_inFaces 0 = .ok (.aload_n 0, 1) := by decide +kernel
theorem d_Mo_inFaces_1 : decode b_Mo_inFaces 1 = .ok (.iload_n 1, 1) := by decide +kernel
theorem d_Mo_inFaces_2 : decode b_Mo_inFaces 2 = .ok (.invokevirtual 866, 3) := by decide +kernel
theorem d_Mo_inFaces_5 : decode b_Mo_inFaces 5 = .ok (.bipush (-2), 2) := by decide +kernel
theorem d_Mo_inFaces_7 : decode b_Mo_inFaces 7 = .ok (.istore 5, 2) := by decide +kernel
theorem d_Mo_inFaces_9 : decode b_Mo_inFaces 9 = .ok (.iconst 0, 1) := by decide +kernel
theorem d_Mo_inFaces_10 : decode b_Mo_inFaces 10 = .ok (.istore 6, 2) := by decide +kernel
theorem d_Mo_inFaces_12 : decode b_Mo_inFaces 12 = .ok (.iload 6, 2) := by decide +kernel
theorem d_Mo_inFaces_14 : decode b_Mo_inFaces 14 = .ok (.aload_n 0, 1) := by decide +kernel
theorem d_Mo_inFaces_15 : decode b_Mo_inFaces 15 = .ok (.getfield 736, 3) := by decide +kernel
theorem d_Mo_inFaces_18 : decode b_Mo_inFaces 18 = .ok (.if_icmp .ge 85, 3) := by decide +kernel
theorem d_Mo_inFaces_21 : decode b_Mo_inFaces 21 = .ok (.aload_n 0, 1) := by decide +kernel
theorem d_Mo_inFaces_22 : decode b_Mo_inFaces 22 = .ok (.aload_n 0, 1) := by decide +kernel
theorem d_Mo_inFaces_23 : decode b_Mo_inFaces 23 = .ok (.getfield 302, 3) := by decide +kernel
theorem d_Mo_inFaces_26 : decode b_Mo_inFaces 26 = .ok (.iload 6, 2) := by decide +kernel
theorem d_Mo_inFaces_28 : decode b_Mo_inFaces 28 = .ok (.iaload, 1) := by decide +kernel
theorem d_Mo_inFaces_29 : decode b_Mo_inFaces 29 = .ok (.iload_n 2, 1) := by decide +kernel
theorem d_Mo_inFaces_30 : decode b_Mo_inFaces 30 = .ok (.iload_n 3, 1) := by decide +kernel
theorem d_Mo_inFaces_31 : decode b_Mo_inFaces 31 = .ok (.invokevirtual 752, 3) := by decide +kernel
theorem d_Mo_inFaces_34 : decode b_Mo_inFaces 34 = .ok (.istore 7, 2) := by decide +kernel
theorem d_Mo_inFaces_36 : decode b_Mo_inFaces 36 = .ok (.iload 7, 2) := by decide +kernel
theorem d_Mo_inFaces_38 : decode b_Mo_inFaces 38 = .ok (.ifCond .lt 59, 3) := by decide +kernel
theorem d_Mo_inFaces_41 : decode b_Mo_inFaces 41 = .ok (.iload 4, 2) := by decide +kernel
theorem d_Mo_inFaces_43 : decode b_Mo_inFaces 43 = .ok (.ifCond .eq 21, 3) := by decide +kernel
theorem d_Mo_inFaces_46 : decode b_Mo_inFaces 46 = .ok (.aload_n 0, 1) := by decide +kernel
theorem d_Mo_inFaces_47 : decode b_Mo_inFaces 47 = .ok (.getfield 522, 3) := by decide +kernel
theorem d_Mo_inFaces_50 : decode b_Mo_inFaces 50 = .ok (.getfield 453, 3) := by decide +kernel
theorem d_Mo_inFaces_53 : decode b_Mo_inFaces 53 = .ok (.iload 7, 2) := by decide +kernel
theorem d_Mo_inFaces_55 : decode b_Mo_inFaces 55 = .ok (.iaload, 1) := by decide +kernel
theorem d_Mo_inFaces_56 : decode b_Mo_inFaces 56 = .ok (.iconst 5, 1) := by decide +kernel
theorem d_Mo_inFaces_57 : decode b_Mo_inFaces 57 = .ok (.iand, 1) := by decide +kernel
theorem d_Mo_inFaces_58 : decode b_Mo_inFaces 58 = .ok (.ifCond .eq 6, 3) := by decide +kernel
theorem d_Mo_inFaces_61 : decode b_Mo_inFaces 61 = .ok (.goto 36, 3) := by decide +kernel
theorem d_Mo_inFaces_64 : decode b_Mo_inFaces 64 = .ok (.aload_n 0, 1) := by decide +kernel
theorem d_Mo_inFaces_65 : decode b_Mo_inFaces 65 = .ok (.getfield 522, 3) := by decide +kernel
theorem d_Mo_inFaces_68 : decode b_Mo_inFaces 68 = .ok (.getfield 453, 3) := by decide +kernel
theorem d_Mo_inFaces_71 : decode b_Mo_inFaces 71 = .ok (.iload 7, 2) := by decide +kernel
theorem d_Mo_inFaces_73 : decode b_Mo_inFaces 73 = .ok (.iaload, 1) := by decide +kernel
theorem d_Mo_inFaces_74 : decode b_Mo_inFaces 74 = .ok (.bipush 8, 2) := by decide +kernel
theorem d_Mo_inFaces_76 : decode b_Mo_inFaces 76 = .ok (.iand, 1) := by decide +kernel
theorem d_Mo_inFaces_77 : decode b_Mo_inFaces 77 = .ok (.ifCond .ne 6, 3) := by decide +kernel
theorem d_Mo_inFaces_80 : decode b_Mo_inFaces 80 = .ok (.iload 7, 2) := by decide +kernel
theorem d_Mo_inFaces_82 : decode b_Mo_inFaces 82 = .ok (.ireturn, 1) := by decide +kernel
theorem d_Mo_inFaces_83 : decode b_Mo_inFaces 83 = .ok (.iload 5, 2) := by decide +kernel
theorem d_Mo_inFaces_85 : decode b_Mo_inFaces 85 = .ok (.ifCond .ge 8, 3) := by decide +kernel
theorem d_Mo_inFaces_88 : decode b_Mo_inFaces 88 = .ok (.iload 7, 2) := by decide +kernel
theorem d_Mo_inFaces_90 : decode b_Mo_inFaces 90 = .ok (.goto 5, 3) := by decide +kernel
theorem d_Mo_inFaces_93 : decode b_Mo_inFaces 93 = .ok (.iload 5, 2) := by decide +kernel
theorem d_Mo_inFaces_95 : decode b_Mo_inFaces 95 = .ok (.istore 5, 2) := by decide +kernel
theorem d_Mo_inFaces_97 : decode b_Mo_inFaces 97 = .ok (.iinc 6 1, 3) := by decide +kernel
theorem d_Mo_inFaces_100 : decode b_Mo_inFaces 100 = .ok (.goto (-88), 3) := by decide +kernel
theorem d_Mo_inFaces_103 : decode b_Mo_inFaces 103 = .ok (.iload 5, 2) := by decide +kernel
theorem d_Mo_inFaces_105 : decode b_Mo_inFaces 105 = .ok (.ireturn, 1) := by decide +kernel
abbrev ru_Mo_inFaces : Room := { frames := 54, cells := 0, slots := 0, locals := 1242 }
def wj_Mo_inFaces_97 (y : Ly) (Post : St → Int32 → Prop) (K_12 : St → Int32 → Int32 → Int32 → Int32 → Int32 → Prop) (a0 : Nat) (s_j97 : St) (x2j97 : Int32) (x3j97 : Int32) (x4j97 : Int32) (x5j97 : Int32) (x6j97 : Int32) : Prop := K_12 s_j97 x2j97 x3j97 x4j97 x5j97 (x6j97 + 1)
def wj_Mo_inFaces_95 (y : Ly) (Post : St → Int32 → Prop) (K_12 : St → Int32 → Int32 → Int32 → Int32 → Int32 → Prop) (a0 : Nat) (s_j95 : St) (x2j95 : Int32) (x3j95 : Int32) (x4j95 : Int32) (x6j95 : Int32) (z0j95 : Int32) : Prop := wj_Mo_inFaces_97 y Post K_12 a0 s_j95 x2j95 x3j95 x4j95 z0j95 x6j95
def wj_Mo_inFaces_64 (y : Ly) (Post : St → Int32 → Prop) (K_12 : St → Int32 → Int32 → Int32 → Int32 → Int32 → Prop) (a0 : Nat) (s_j64 : St) (x2j64 : Int32) (x3j64 : Int32) (x4j64 : Int32) (x5j64 : Int32) (x6j64 : Int32) (x7j64 : Int32) : Prop := ∃ b_6 : Nat, sO s_j64 a0 45 = some b_6 ∧ cl b_6 = 13 ∧ xA y s_j64 b_6 20 x7j64 (fun x_9 : Int32 => ((¬ (x_9 &&& 8) = 0 → ((0 ≤ x5j64 → wj_Mo_inFaces_95 y Post K_12 a0 s_j64 x2j64 x3j64 x4j64 x6j64 x5j64) ∧ (¬ (0 ≤ x5j64) → wj_Mo_inFaces_95 y Post K_12 a0 s_j64 x2j64 x3j64 x4j64 x6j64 x7j64))) ∧ ((x_9 &&& 8) = 0 → Post s_j64 x7j64)))
def wb_Mo_inFaces_12 (y : Ly) (Post : St → Int32 → Prop) (K_12 : St → Int32 → Int32 → Int32 → Int32 → Int32 → Prop) (a0 : Nat) (s_h12 : St) (x2h12 : Int32) (x3h12 : Int32) (x4h12 : Int32) (x5h12 : Int32) (x6h12 : Int32) : Prop := (((sV s_h12 a0 68) ≤ x6h12 → Post s_h12 x5h12) ∧ (¬ ((sV s_h12 a0 68) ≤ x6h12) → xA y s_h12 a0 67 x6h12 (fun x_3 : Int32 => wu_Mo_methodIn y (fun (s_5 : St) (r_4 : Int32) => ((r_4 < 0 → wj_Mo_inFaces_97 y Post K_12 a0 s_5 x2h12 x3h12 x4h12 x5h12 x6h12) ∧ (¬ (r_4 < 0) → ((x4h12 = 0 → wj_Mo_inFaces_64 y Post K_12 a0 s_5 x2h12 x3h12 x4h12 x5h12 x6h12 r_4) ∧ (¬ (x4h12 = 0) → ∃ b_10 : Nat, sO s_5 a0 45 = some b_10 ∧ cl b_10 = 13 ∧ xA y s_5 b_10 20 r_4 (fun x_13 : Int32 => (((x_13 &&& 5) = 0 → wj_Mo_inFaces_64 y Post K_12 a0 s_5 x2h12 x3h12 x4h12 x5h12 x6h12 r_4) ∧ (¬ ((x_13 &&& 5) = 0) → wj_Mo_inFaces_97 y Post K_12 a0 s_5 x2h12 x3h12 x4h12 x5h12 x6h12)))))))) s_h12 a0 x_3 x2h12 x3h12)))
def wl_Mo_inFaces_12 (y : Ly) (Post : St → Int32 → Prop) (a0 : Nat) (s_h12 : St) (x2h12 : Int32) (x3h12 : Int32) (x4h12 : Int32) (x5h12 : Int32) (x6h12 : Int32) : Prop := ∃ (I : St → Int32 → Int32 → Int32 → Int32 → Int32 → Prop) (μ : St → Int32 → Int32 → Int32 → Int32 → Int32 → Nat), I s_h12 x2h12 x3h12 x4h12 x5h12 x6h12 ∧ ∀ (u : St) (t0 : Int32) (t1 : Int32) (t2 : Int32) (t3 : Int32) (t4 : Int32), I u t0 t1 t2 t3 t4 → wb_Mo_inFaces_12 y Post (fun z t0q t1q t2q t3q t4q => I z t0q t1q t2q t3q t4q ∧ μ z t0q t1q t2q t3q t4q < μ u t0 t1 t2 t3 t4) a0 u t0 t1 t2 t3 t4
def wu_Mo_inFaces (y : Ly) (Post : St → Int32 → Prop) (σ : St) (a0 : Nat) (v1 : Int32) (v2 : Int32) (v3 : Int32) (v4 : Int32) : Prop := wu_Mo_listFaces y (fun (s_2 : St) => wl_Mo_inFaces_12 y Post a0 s_2 v2 v3 v4 (-2) 0) σ a0 v1
set_option maxHeartbeats 4000000 in
set_option maxRecDepth 100000 in
theorem cu_Mo_inFaces (l : Launch) (D : va_G) (g : Nat → ClassId) (ad : Nat → Nat) (y : Ly) (Post : St → Int32 → Prop) (σ : St) (a0 : Nat) (v1 : Int32) (v2 : Int32) (v3 : Int32) (v4 : Int32) (sz : Nat) (h_a0 : cl a0 = 14) (h : wu_Mo_inFaces y Post σ a0 v1 v2 v3 v4) : Met l y_Mo_inFaces (mw y_Mo_inFaces b_Mo_inFaces 8 (some .int)) ru_Mo_inFaces (PC g D [] [.ref (ad a0), .int v1, .int v2, .int v3, .int v4] sz (ws g ad y σ)) (va_Qi (fun (r : Int32) (u : St) => Post u r) (QW D (va_A (ws g ad y σ) sz) (fun u => ws g ad y u)) (va_A (ws g ad y σ) sz)) 0 0 (va_A (ws g ad y σ) sz) := by
  refine ofI (by decide +kernel) (Nat.le_of_ble_eq_true rfl) ?_
  intro p e s m args below meth c A Q ls H locs G hsz hP hD hS hl hret
  subst hsz
  have hl : lv_has ls 8 [(0, .ref (ad a0)), (1, .int v1), (2, .int v2), (3, .int v3), (4, .int v4)] := hl
  unfold wu_Mo_inFaces at h
  refine lv_aload_n G.1 G.2.1 d_Mo_inFaces_0 rfl (lv_at hl 0 rfl) ?_
  refine lv_iload_n G.1 G.2.1 d_Mo_inFaces_1 rfl (lv_at hl 1 rfl) ?_
  refine ucVv (As := [.int v1]) (rest := []) G hP hD hS (cu_Mo_listFaces l D g ad y _ σ a0 v1 H.size h_a0 h) w9_Mo_listFaces q3867 ⟨Nat.le_of_ble_eq_true rfl, Nat.le_of_ble_eq_true rfl⟩ rfl rfl h_a0 (q := (RMo, TMo, 131)) rfl rfl hl.1 rfl (Nat.le_of_ble_eq_true rfl) rfl ⟨Nat.le_refl _, Nat.le_refl _⟩ d_Mo_inFaces_2 (fun s_2 H locs h hP hD hS => ?_)
  refine lv_bipush (v := (-2)) G.1 G.2.1 d_Mo_inFaces_5 (by decide) ?_
  refine lv_istore (lv' := [(5, .int (-2)), (0, .ref (ad a0)), (1, .int v1), (2, .int v2), (3, .int v3), (4, .int v4)]) G.1 G.2.1 d_Mo_inFaces_7 hl (by decide) rfl (fun ls hl => ?_)
  refine lv_iconst (v := 0) G.1 G.2.1 d_Mo_inFaces_9 (by decide) ?_
  refine lv_istore (lv' := [(6, .int 0), (5, .int (-2)), (0, .ref (ad a0)), (1, .int v1), (2, .int v2), (3, .int v3), (4, .int v4)]) G.1 G.2.1 d_Mo_inFaces_10 hl (by decide) rfl (fun ls hl => ?_)
  unfold wl_Mo_inFaces_12 at h
  obtain ⟨I_12, μ_12, hI_12, hB_12⟩ := h
  have L_12 : ∀ (n_12 : Nat) (s_h12 : St) (x2h12 : Int32) (x3h12 : Int32) (x4h12 : Int32) (x5h12 : Int32) (x6h12 : Int32), μ_12 s_h12 x2h12 x3h12 x4h12 x5h12 x6h12 < n_12 → I_12 s_h12 x2h12 x3h12 x4h12 x5h12 x6h12 → ∀ (H : Heap) (locs : List Loc), va_P D CL (ws g ad y s_h12) H → va_D A (ws g ad y s_h12) → va_S A s.heap H locs → ∀ ls, lv_has ls 8 [(0, .ref (ad a0)), (2, .int x2h12), (3, .int x3h12), (4, .int x4h12), (5, .int x5h12), (6, .int x6h12)] → W p l e ru_Mo_inFaces s m args below meth c H locs 0 0 Q (F0 m 12 ls []) := by
    intro n_12
    induction n_12 with
    | zero => intro s_h12 x2h12 x3h12 x4h12 x5h12 x6h12 hμ; exact absurd hμ (Nat.not_lt_zero _)
    | succ n_12 ih_12 =>
      intro s_h12 x2h12 x3h12 x4h12 x5h12 x6h12 hμ_12 hJ H locs hP hD hS ls hl
      obtain ⟨K_12, hK_12, h⟩ : ∃ K : St → Int32 → Int32 → Int32 → Int32 → Int32 → Prop, (∀ z (t0 : Int32) (t1 : Int32) (t2 : Int32) (t3 : Int32) (t4 : Int32), K z t0 t1 t2 t3 t4 → I_12 z t0 t1 t2 t3 t4 ∧ μ_12 z t0 t1 t2 t3 t4 < μ_12 s_h12 x2h12 x3h12 x4h12 x5h12 x6h12) ∧ wb_Mo_inFaces_12 y Post K a0 s_h12 x2h12 x3h12 x4h12 x5h12 x6h12 := ⟨_, fun _ _ _ _ _ _ h => h, hB_12 s_h12 x2h12 x3h12 x4h12 x5h12 x6h12 hJ⟩
      unfold wb_Mo_inFaces_12 at h
      refine lv_iload G.1 G.2.1 d_Mo_inFaces_12 (lv_at hl 5 rfl) ?_
      refine lv_aload_n G.1 G.2.1 d_Mo_inFaces_14 rfl (lv_at hl 0 rfl) ?_
      refine ugf (v := .int (sV s_h12 a0 68)) G hP h_a0 iMo rfl 68 (by decide) rfl q3132 rfl rfl d_Mo_inFaces_15 ?_
      refine lv_icmp_ge (tgt := 103) G.1 G.2.1 d_Mo_inFaces_18 (by decide) (fun c18 => ?_) (fun c18 => ?_)
      · skip
        have h := h.1 c18
        refine lv_iload G.1 G.2.1 d_Mo_inFaces_103 (lv_at hl 4 rfl) ?_
        exact hret _ _ _ _ _ _ _ ls h hP hD hS (Nat.le_refl _) (Nat.le_refl _) d_Mo_inFaces_105
      · skip
        have h := h.2 c18
        refine lv_aload_n G.1 G.2.1 d_Mo_inFaces_21 rfl (lv_at hl 0 rfl) ?_
        refine lv_aload_n G.1 G.2.1 d_Mo_inFaces_22 rfl (lv_at hl 0 rfl) ?_
        refine ugf (v := .ref (yP y a0 67)) G hP h_a0 iMo rfl 67 (by decide) rfl q3131 rfl rfl d_Mo_inFaces_23 ?_
        refine lv_iload G.1 G.2.1 d_Mo_inFaces_26 (lv_at hl 5 rfl) ?_
        refine uiald G hP (kdp h_a0 rfl) (typ h_a0 rfl) h d_Mo_inFaces_28 (fun x_3 h => ?_)
        refine lv_iload_n G.1 G.2.1 d_Mo_inFaces_29 rfl (lv_at hl 1 rfl) ?_
        refine lv_iload_n G.1 G.2.1 d_Mo_inFaces_30 rfl (lv_at hl 2 rfl) ?_
        refine W.eq (g2 := F0 m 31 ls [.int x3h12, .int x2h12, .int x_3, .ref (ad a0)]) rfl ?_
        refine ucVi (As := [.int x_3, .int x2h12, .int x3h12]) (rest := []) G hP hD hS (cu_Mo_methodIn l D g ad y _ s_h12 a0 x_3 x2h12 x3h12 H.size h_a0 h) w9_Mo_methodIn q3697 ⟨Nat.le_of_ble_eq_true rfl, Nat.le_of_ble_eq_true rfl⟩ rfl rfl h_a0 (q := (RMo, TMo, 131)) rfl rfl hl.1 rfl (Nat.le_of_ble_eq_true rfl) rfl ⟨Nat.le_refl _, Nat.le_refl _⟩ d_Mo_inFaces_31 (fun r_4 s_5 H locs h hP hD hS => ?_)
        refine lv_istore (lv' := [(7, .int r_4), (0, .ref (ad a0)), (2, .int x2h12), (3, .int x3h12), (4, .int x4h12), (5, .int x5h12), (6, .int x6h12)]) G.1 G.2.1 d_Mo_inFaces_34 hl (by decide) rfl (fun ls hl => ?_)
        refine lv_iload G.1 G.2.1 d_Mo_inFaces_36 (lv_at hl 0 rfl) ?_
        have J_97 : ∀ (s_j97 : St) (x2j97 : Int32) (x3j97 : Int32) (x4j97 : Int32) (x5j97 : Int32) (x6j97 : Int32) (H : Heap) (locs : List Loc), wj_Mo_inFaces_97 y Post K_12 a0 s_j97 x2j97 x3j97 x4j97 x5j97 x6j97 → va_P D CL (ws g ad y s_j97) H → va_D A (ws g ad y s_j97) → va_S A s.heap H locs → ∀ ls, lv_has ls 8 [(0, .ref (ad a0)), (2, .int x2j97), (3, .int x3j97), (4, .int x4j97), (5, .int x5j97), (6, .int x6j97)] → W p l e ru_Mo_inFaces s m args below meth c H locs 0 0 Q (F0 m 97 ls []) := by
          intro s_j97 x2j97 x3j97 x4j97 x5j97 x6j97 H locs h hP hD hS ls hl
          unfold wj_Mo_inFaces_97 at h
          refine lv_iinc (v := x6j97 + 1) (lv' := [(6, .int (x6j97 + 1)), (0, .ref (ad a0)), (2, .int x2j97), (3, .int x3j97), (4, .int x4j97), (5, .int x5j97)]) G.1 G.2.1 d_Mo_inFaces_97 hl (k := 5) rfl rfl (by decide) rfl (fun ls hl => ?_)
          refine lv_goto (tgt := 12) G.1 G.2.1 d_Mo_inFaces_100 (by decide) ?_
          have h := hK_12 s_j97 x2j97 x3j97 x4j97 x5j97 (x6j97 + 1) h
          exact ih_12 s_j97 x2j97 x3j97 x4j97 x5j97 (x6j97 + 1) (Nat.lt_of_lt_of_le h.2 (Nat.le_of_lt_succ hμ_12)) h.1 H locs hP hD hS ls (lv_sub hl [1, 2, 3, 4, 5, 0] rfl)
        refine lv_if_lt (tgt := 97) G.1 G.2.1 d_Mo_inFaces_38 (by decide) (fun c38 => ?_) (fun c38 => ?_)
        · skip
          have h := h.1 c38
          exact J_97 s_5 x2h12 x3h12 x4h12 x5h12 x6h12 H locs h hP hD hS ls (lv_sub hl [1, 2, 3, 4, 5, 6] rfl)
        · skip
          have h := h.2 c38
          refine lv_iload G.1 G.2.1 d_Mo_inFaces_41 (lv_at hl 4 rfl) ?_
          have J_64 : ∀ (s_j64 : St) (x2j64 : Int32) (x3j64 : Int32) (x4j64 : Int32) (x5j64 : Int32) (x6j64 : Int32) (x7j64 : Int32) (H : Heap) (locs : List Loc), wj_Mo_inFaces_64 y Post K_12 a0 s_j64 x2j64 x3j64 x4j64 x5j64 x6j64 x7j64 → va_P D CL (ws g ad y s_j64) H → va_D A (ws g ad y s_j64) → va_S A s.heap H locs → ∀ ls, lv_has ls 8 [(0, .ref (ad a0)), (2, .int x2j64), (3, .int x3j64), (4, .int x4j64), (5, .int x5j64), (6, .int x6j64), (7, .int x7j64)] → W p l e ru_Mo_inFaces s m args below meth c H locs 0 0 Q (F0 m 64 ls []) := by
            intro s_j64 x2j64 x3j64 x4j64 x5j64 x6j64 x7j64 H locs h hP hD hS ls hl
            unfold wj_Mo_inFaces_64 at h
            refine lv_aload_n G.1 G.2.1 d_Mo_inFaces_64 rfl (lv_at hl 0 rfl) ?_
            obtain ⟨b_6, e_7, c_8, h⟩ := h
            refine ugf (v := .ref (ad b_6)) G hP h_a0 iMo rfl 45 (by decide) rfl q3109 rfl (by show va_rf ((sO s_j64 a0 45).map ad) = _; rw [e_7]; rfl) d_Mo_inFaces_65 ?_
            refine ugfN (v := .ref (yP y b_6 20)) G hP c_8 iMw rfl 20 (by decide) rfl q2744 rfl rfl d_Mo_inFaces_68 ?_
            refine lv_iload G.1 G.2.1 d_Mo_inFaces_71 (lv_at hl 6 rfl) ?_
            refine uiald G hP (kdp c_8 rfl) (typ c_8 rfl) h d_Mo_inFaces_73 (fun x_9 h => ?_)
            refine lv_bipush (v := 8) G.1 G.2.1 d_Mo_inFaces_74 (by decide) ?_
            refine lv_iand G.1 G.2.1 d_Mo_inFaces_76 ?_
            refine lv_if_ne (tgt := 83) G.1 G.2.1 d_Mo_inFaces_77 (by decide) (fun c77 => ?_) (fun c77 => ?_)
            · skip
              have h := h.1 c77
              refine lv_iload G.1 G.2.1 d_Mo_inFaces_83 (lv_at hl 4 rfl) ?_
              have J_95 : ∀ (s_j95 : St) (x2j95 : Int32) (x3j95 : Int32) (x4j95 : Int32) (x6j95 : Int32) (z0j95 : Int32) (H : Heap) (locs : List Loc), wj_Mo_inFaces_95 y Post K_12 a0 s_j95 x2j95 x3j95 x4j95 x6j95 z0j95 → va_P D CL (ws g ad y s_j95) H → va_D A (ws g ad y s_j95) → va_S A s.heap H locs → ∀ ls, lv_has ls 8 [(0, .ref (ad a0)), (2, .int x2j95), (3, .int x3j95), (4, .int x4j95), (6, .int x6j95)] → W p l e ru_Mo_inFaces s m args below meth c H locs 0 0 Q (F0 m 95 ls [.int z0j95]) := by
                intro s_j95 x2j95 x3j95 x4j95 x6j95 z0j95 H locs h hP hD hS ls hl
                unfold wj_Mo_inFaces_95 at h
                refine lv_istore (lv' := [(5, .int z0j95), (0, .ref (ad a0)), (2, .int x2j95), (3, .int x3j95), (4, .int x4j95), (6, .int x6j95)]) G.1 G.2.1 d_Mo_inFaces_95 hl (by decide) rfl (fun ls hl => ?_)
                exact J_97 s_j95 x2j95 x3j95 x4j95 z0j95 x6j95 H locs h hP hD hS ls (lv_sub hl [1, 2, 3, 4, 0, 5] rfl)
              refine lv_if_ge (tgt := 93) G.1 G.2.1 d_Mo_inFaces_85 (by decide) (fun c85 => ?_) (fun c85 => ?_)
              · skip
                have h := h.1 c85
                refine lv_iload G.1 G.2.1 d_Mo_inFaces_93 (lv_at hl 4 rfl) ?_
                exact J_95 s_j64 x2j64 x3j64 x4j64 x6j64 x5j64 H locs h hP hD hS ls (lv_sub hl [0, 1, 2, 3, 5] rfl)
              · skip
                have h := h.2 c85
                refine lv_iload G.1 G.2.1 d_Mo_inFaces_88 (lv_at hl 6 rfl) ?_
                refine W.eq (g2 := F0 m 90 ls [.int x7j64]) rfl ?_
                refine lv_goto (tgt := 95) G.1 G.2.1 d_Mo_inFaces_90 (by decide) ?_
                exact J_95 s_j64 x2j64 x3j64 x4j64 x6j64 x7j64 H locs h hP hD hS ls (lv_sub hl [0, 1, 2, 3, 5] rfl)
            · skip
              have h := h.2 c77
              refine lv_iload G.1 G.2.1 d_Mo_inFaces_80 (lv_at hl 6 rfl) ?_
              exact hret _ _ _ _ _ _ _ ls h hP hD hS (Nat.le_refl _) (Nat.le_refl _) d_Mo_inFaces_82
          refine lv_if_eq (tgt := 64) G.1 G.2.1 d_Mo_inFaces_43 (by decide) (fun c43 => ?_) (fun c43 => ?_)
          · skip
            have h := h.1 c43
            exact J_64 s_5 x2h12 x3h12 x4h12 x5h12 x6h12 r_4 H locs h hP hD hS ls (lv_sub hl [1, 2, 3, 4, 5, 6, 0] rfl)
          · skip
            have h := h.2 c43
            refine lv_aload_n G.1 G.2.1 d_Mo_inFaces_46 rfl (lv_at hl 1 rfl) ?_
            obtain ⟨b_10, e_11, c_12, h⟩ := h
            refine ugf (v := .ref (ad b_10)) G hP h_a0 iMo rfl 45 (by decide) rfl q3109 rfl (by show va_rf ((sO s_5 a0 45).map ad) = _; rw [e_11]; rfl) d_Mo_inFaces_47 ?_
            refine ugfN (v := .ref (yP y b_10 20)) G hP c_12 iMw rfl 20 (by decide) rfl q2744 rfl rfl d_Mo_inFaces_50 ?_
            refine lv_iload G.1 G.2.1 d_Mo_inFaces_53 (lv_at hl 0 rfl) ?_
            refine uiald G hP (kdp c_12 rfl) (typ c_12 rfl) h d_Mo_inFaces_55 (fun x_13 h => ?_)
            refine lv_iconst (v := 5) G.1 G.2.1 d_Mo_inFaces_56 (by decide) ?_
            refine W.eq (g2 := F0 m 57 ls [.int 5, .int x_13]) rfl ?_
            refine lv_iand G.1 G.2.1 d_Mo_inFaces_57 ?_
            refine lv_if_eq (tgt := 64) G.1 G.2.1 d_Mo_inFaces_58 (by decide) (fun c58 => ?_) (fun c58 => ?_)
            · skip
              have h := h.1 c58
              exact J_64 s_5 x2h12 x3h12 x4h12 x5h12 x6h12 r_4 H locs h hP hD hS ls (lv_sub hl [1, 2, 3, 4, 5, 6, 0] rfl)
            · skip
              have h := h.2 c58
              refine lv_goto (tgt := 97) G.1 G.2.1 d_Mo_inFaces_61 (by decide) ?_
              exact J_97 s_5 x2h12 x3h12 x4h12 x5h12 x6h12 H locs h hP hD hS ls (lv_sub hl [1, 2, 3, 4, 5, 6] rfl)
  exact L_12 _ s_2 v2 v3 v4 (-2) 0 (Nat.lt_succ_self _) hI_12 H locs hP hD hS ls (lv_sub hl [2, 4, 5, 6, 1, 0] rfl)
