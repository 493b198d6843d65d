theorem q3923 : Cond.methodLink "ClassWorksModel" 1029 y_Mo_instruction ∈ lw_ok := lw_okmem (List.mem_of_getElem? (i := 3923) (by decide +kernel)) rfl
set_option maxRecDepth 100000 in
theorem q3926 : Cond.code y_Mo_instruction b_Mo_instruction 8 (some .int) ∈ lw_ok := lw_okmem (List.mem_of_getElem? (i := 3926) (by rfl)) rfl
theorem q3925 : Cond.instanceMethod y_Mo_instruction ∈ lw_ok := lw_okmem (List.mem_of_getElem? (i := 3925) (by decide +kernel)) rfl
theorem q270 : Cond.selects y_Mo_instruction.cls y_Mo_instruction y_Mo_instruction ∈ lw_ok := lw_okmem (List.mem_of_getElem? (i := 270) (by decide +kernel)) rfl
theorem w9_Mo_instruction : CWv y_Mo_instruction b_Mo_instruction 8 (some .int) 0 ∧ Cond.instanceMethod y_Mo_instruction ∈ lw_ok ∧ Cond.selects y_Mo_instruction.cls y_Mo_instruction y_Mo_instruction ∈ lw_ok := ⟨⟨q3926, q348, by decide +kernel, by decide +kernel, by decide +kernel⟩, q3925, q270⟩
theorem q3915 : Cond.methodLink "ClassWorksModel" 1026 y_Mo_startOn ∈ lw_ok := lw_okmem (List.mem_of_getElem? (i := 3915) (by decide +kernel)) rfl
theorem q3918 : Cond.code y_Mo_startOn b_Mo_startOn 4 (some .int) ∈ lw_ok := lw_okmem (List.mem_of_getElem? (i := 3918) (by decide +kernel)) rfl
theorem q3917 : Cond.instanceMethod y_Mo_startOn ∈ lw_ok := lw_okmem (List.mem_of_getElem? (i := 3917) (by decide +kernel)) rfl
theorem q268 : Cond.selects y_Mo_startOn.cls y_Mo_startOn y_Mo_startOn ∈ lw_ok := lw_okmem (List.mem_of_getElem? (i := 268) (by decide +kernel)) rfl
theorem w9_Mo_startOn : CWv y_Mo_startOn b_Mo_startOn 4 (some .int) 0 ∧ Cond.instanceMethod y_Mo_startOn ∈ lw_ok ∧ Cond.selects y_Mo_startOn.cls y_Mo_startOn y_Mo_startOn ∈ lw_ok := ⟨⟨q3918, q348, by decide +kernel, by decide +kernel, by decide +kernel⟩, q3917, q268⟩
def y_Mo_advance : MethodName := ⟨"ClassWorksModel", "advance", "()I"⟩
abbrev b_Mo_advance : ByteArray := prog_14_method_105_code
theorem d_Mo_advance_0 : decode b_Mo_advance 0 = .ok (.aload_n 0, 1) := by decide +kernel
theorem d_Mo_advance_1 : decode b_Mo_advance 1 = .ok (.getfield 917, 3) := by decide +kernel
theorem d_Mo_advance_4 : decode b_Mo_advance 4 = .ok (.getfield 1007, 3) := by decide +kernel
theorem d_Mo_advance_7 : decode b_Mo_advance 7 = .ok (.ifCond .ne 149, 3) := by decide +kernel
theorem d_Mo_advance_10 : decode b_Mo_advance 10 = .ok (.aload_n 0, 1) := by decide +kernel
theorem d_Mo_advance_11 : decode b_Mo_advance 11 = .ok (.getfield 917, 3) := by decide +kernel
theorem d_Mo_advance_14 : decode b_Mo_advance 14 = .ok (.getfield 945, 3) := by decide +kernel
theorem d_Mo_advance_17 : decode b_Mo_advance 17 = .ok (.ifCond .ne 139, 3) := by decide +kernel
theorem d_Mo_advance_20 : decode b_Mo_advance 20 = .ok (.aload_n 0, 1) := by decide +kernel
theorem d_Mo_advance_21 : decode b_Mo_advance 21 = .ok (.bipush 52, 2) := by decide +kernel
theorem d_Mo_advance_23 : decode b_Mo_advance 23 = .ok (.aload_n 0, 1) := by decide +kernel
theorem d_Mo_advance_24 : decode b_Mo_advance 24 = .ok (.getfield 917, 3) := by decide +kernel
theorem d_Mo_advance_27 : decode b_Mo_advance 27 = .ok (.getfield 1010, 3) := by decide +kernel
theorem d_Mo_advance_30 : decode b_Mo_advance 30 = .ok (.aload_n 0, 1) := by decide +kernel
theorem d_Mo_advance_31 : decode b_Mo_advance 31 = .ok (.getfield 917, 3) := by decide +kernel
theorem d_Mo_advance_34 : decode b_Mo_advance 34 = .ok (.getfield 1013, 3) := by decide +kernel
theorem d_Mo_advance_37 : decode b_Mo_advance 37 = .ok (.aload_n 0, 1) := by decide +kernel
theorem d_Mo_advance_38 : decode b_Mo_advance 38 = .ok (.getfield 917, 3) := by decide +kernel
theorem d_Mo_advance_41 : decode b_Mo_advance 41 = .ok (.getfield 1016, 3) := by decide +kernel
theorem d_Mo_advance_44 : decode b_Mo_advance 44 = .ok (.bipush (-2), 2) := by decide +kernel
theorem d_Mo_advance_46 : decode b_Mo_advance 46 = .ok (.invokevirtual 1019, 3) := by decide +kernel
theorem d_Mo_advance_49 : decode b_Mo_advance 49 = .ok (.istore_n 1, 1) := by decide +kernel
theorem d_Mo_advance_50 : decode b_Mo_advance 50 = .ok (.iload_n 1, 1) := by decide +kernel
theorem d_Mo_advance_51 : decode b_Mo_advance 51 = .ok (.ifCond .ge 7, 3) := by decide +kernel
theorem d_Mo_advance_54 : decode b_Mo_advance 54 = .ok (.iconst 3, 1) := by decide +kernel
theorem d_Mo_advance_55 : decode b_Mo_advance 55 = .ok (.goto 11, 3) := by decide +kernel
theorem d_Mo_advance_58 : decode b_Mo_advance 58 = .ok (.aload_n 0, 1) := by decide +kernel
theorem d_Mo_advance_59 : decode b_Mo_advance 59 = .ok (.iload_n 1, 1) := by decide +kernel
theorem d_Mo_advance_60 : decode b_Mo_advance 60 = .ok (.bipush 12, 2) := by decide +kernel
theorem d_Mo_advance_62 : decode b_Mo_advance 62 = .ok (.idiv, 1) := by decide +kernel
theorem d_Mo_advance_63 : decode b_Mo_advance 63 = .ok (.invokevirtual 998, 3) := by decide +kernel
theorem d_Mo_advance_66 : decode b_Mo_advance 66 = .ok (.istore_n 2, 1) := by decide +kernel
theorem d_Mo_advance_67 : decode b_Mo_advance 67 = .ok (.iload_n 2, 1) := by decide +kernel
theorem d_Mo_advance_68 : decode b_Mo_advance 68 = .ok (.iconst 3, 1) := by decide +kernel
theorem d_Mo_advance_69 : decode b_Mo_advance 69 = .ok (.if_icmp .ne 15, 3) := by decide +kernel
theorem d_Mo_advance_72 : decode b_Mo_advance 72 = .ok (.aload_n 0, 1) := by decide +kernel
theorem d_Mo_advance_73 : decode b_Mo_advance 73 = .ok (.aload_n 0, 1) := by decide +kernel
theorem d_Mo_advance_74 : decode b_Mo_advance 74 = .ok (.getfield 844, 3) := by decide +kernel
theorem d_Mo_advance_77 : decode b_Mo_advance 77 = .ok (.aload_n 0, 1) := by decide +kernel
theorem d_Mo_advance_78 : decode b_Mo_advance 78 = .ok (.getfield 847, 3) := by decide +kernel
theorem d_Mo_advance_81 : decode b_Mo_advance 81 = .ok (.invokevirtual 1001, 3) := by decide +kernel
theorem d_Mo_advance_84 : decode b_Mo_advance 84 = .ok (.iload_n 2, 1) := by decide +kernel
theorem d_Mo_advance_85 : decode b_Mo_advance 85 = .ok (.ifCond .eq 14, 3) := by decide +kernel
theorem d_Mo_advance_88 : decode b_Mo_advance 88 = .ok (.iload_n 2, 1) := by decide +kernel
theorem d_Mo_advance_89 : decode b_Mo_advance 89 = .ok (.iconst 2, 1) := by decide +kernel
theorem d_Mo_advance_90 : decode b_Mo_advance 90 = .ok (.if_icmp .ne 7, 3) := by decide +kernel
theorem d_Mo_advance_93 : decode b_Mo_advance 93 = .ok (.iconst 2, 1) := by decide +kernel
theorem d_Mo_advance_94 : decode b_Mo_advance 94 = .ok (.goto 4, 3) := by decide +kernel
theorem d_Mo_advance_97 : decode b_Mo_advance 97 = .ok (.iconst 0, 1) := by decide +kernel
theorem d_Mo_advance_98 : decode b_Mo_advance 98 = .ok (.ireturn, 1) := by decide +kernel
theorem d_Mo_advance_99 : decode b_Mo_advance 99 = .ok (.aload_n 0, 1) := by decide +kernel
theorem d_Mo_advance_100 : decode b_Mo_advance 100 = .ok (.getfield 917, 3) := by decide +kernel
theorem d_Mo_advance_103 : decode b_Mo_advance 103 = .ok (.iconst 2, 1) := by decide +kernel
theorem d_Mo_advance_104 : decode b_Mo_advance 104 = .ok (.putfield 1007, 3) := by decide +kernel
theorem d_Mo_advance_107 : decode b_Mo_advance 107 = .ok (.aload_n 0, 1) := by decide +kernel
theorem d_Mo_advance_108 : decode b_Mo_advance 108 = .ok (.iload_n 1, 1) := by decide +kernel
theorem d_Mo_advance_109 : decode b_Mo_advance 109 = .ok (.invokevirtual 1004, 3) := by decide +kernel
theorem d_Mo_advance_112 : decode b_Mo_advance 112 = .ok (.iconst 0, 1) := by decide +kernel
theorem d_Mo_advance_113 : decode b_Mo_advance 113 = .ok (.istore_n 3, 1) := by decide +kernel
theorem d_Mo_advance_114 : decode b_Mo_advance 114 = .ok (.iload_n 3, 1) := by decide +kernel
theorem d_Mo_advance_115 : decode b_Mo_advance 115 = .ok (.aload_n 0, 1) := by decide +kernel
theorem d_Mo_advance_116 : decode b_Mo_advance 116 = .ok (.getfield 80, 3) := by decide +kernel
theorem d_Mo_advance_119 : decode b_Mo_advance 119 = .ok (.aload_n 0, 1) := by decide +kernel
theorem d_Mo_advance_120 : decode b_Mo_advance 120 = .ok (.getfield 917, 3) := by decide +kernel
theorem d_Mo_advance_123 : decode b_Mo_advance 123 = .ok (.getfield 1016, 3) := by decide +kernel
theorem d_Mo_advance_126 : decode b_Mo_advance 126 = .ok (.iaload, 1) := by decide +kernel
theorem d_Mo_advance_127 : decode b_Mo_advance 127 = .ok (.if_icmp .ge 27, 3) := by decide +kernel
theorem d_Mo_advance_130 : decode b_Mo_advance 130 = .ok (.aload_n 0, 1) := by decide +kernel
theorem d_Mo_advance_131 : decode b_Mo_advance 131 = .ok (.getfield 917, 3) := by decide +kernel
theorem d_Mo_advance_134 : decode b_Mo_advance 134 = .ok (.getfield 936, 3) := by decide +kernel
theorem d_Mo_advance_137 : decode b_Mo_advance 137 = .ok (.iload_n 3, 1) := by decide +kernel
theorem d_Mo_advance_138 : decode b_Mo_advance 138 = .ok (.aload_n 0, 1) := by decide +kernel
theorem d_Mo_advance_139 : decode b_Mo_advance 139 = .ok (.getfield 917, 3) := by decide +kernel
theorem d_Mo_advance_142 : decode b_Mo_advance 142 = .ok (.getfield 1023, 3) := by decide +kernel
theorem d_Mo_advance_145 : decode b_Mo_advance 145 = .ok (.iload_n 3, 1) := by decide +kernel
theorem d_Mo_advance_146 : decode b_Mo_advance 146 = .ok (.iaload, 1) := by decide +kernel
theorem d_Mo_advance_147 : decode b_Mo_advance 147 = .ok (.iastore, 1) := by decide +kernel
theorem d_Mo_advance_148 : decode b_Mo_advance 148 = .ok (.iinc 3 1, 3) := by decide +kernel
theorem d_Mo_advance_151 : decode b_Mo_advance 151 = .ok (.goto (-37), 3) := by decide +kernel
theorem d_Mo_advance_154 : decode b_Mo_advance 154 = .ok (.iconst 0, 1) := by decide +kernel
theorem d_Mo_advance_155 : decode b_Mo_advance 155 = .ok (.ireturn, 1) := by decide +kernel
theorem d_Mo_advance_156 : decode b_Mo_advance 156 = .ok (.aload_n 0, 1) := by decide +kernel
theorem d_Mo_advance_157 : decode b_Mo_advance 157 = .ok (.getfield 917, 3) := by decide +kernel
theorem d_Mo_advance_160 : decode b_Mo_advance 160 = .ok (.getfield 942, 3) := by decide +kernel
theorem d_Mo_advance_163 : decode b_Mo_advance 163 = .ok (.aload_n 0, 1) := by decide +kernel
theorem d_Mo_advance_164 : decode b_Mo_advance 164 = .ok (.getfield 917, 3) := by decide +kernel
theorem d_Mo_advance_167 : decode b_Mo_advance 167 = .ok (.getfield 945, 3) := by decide +kernel
theorem d_Mo_advance_170 : decode b_Mo_advance 170 = .ok (.iconst 1, 1) := by decide +kernel
theorem d_Mo_advance_171 : decode b_Mo_advance 171 = .ok (.isub, 1) := by decide +kernel
theorem d_Mo_advance_172 : decode b_Mo_advance 172 = .ok (.iaload, 1) := by decide +kernel
theorem d_Mo_advance_173 : decode b_Mo_advance 173 = .ok (.ifCond .ge 10, 3) := by decide +kernel
theorem d_Mo_advance_176 : decode b_Mo_advance 176 = .ok (.aload_n 0, 1) := by decide +kernel
theorem d_Mo_advance_177 : decode b_Mo_advance 177 = .ok (.invokevirtual 1026, 3) := by decide +kernel
theorem d_Mo_advance_180 : decode b_Mo_advance 180 = .ok (.goto 7, 3) := by decide +kernel
theorem d_Mo_advance_183 : decode b_Mo_advance 183 = .ok (.aload_n 0, 1) := by decide +kernel
theorem d_Mo_advance_184 : decode b_Mo_advance 184 = .ok (.invokevirtual 1029, 3) := by decide +kernel
theorem d_Mo_advance_187 : decode b_Mo_advance 187 = .ok (.ireturn, 1) := by decide +kernel
abbrev ra_Mo_advance (mc ms : Nat) : Room := { frames := 473, cells := mc, slots := ms, locals := 11520 }
def wja_Mo_advance_187 (mc ms : Nat) (Post : Ly → St → Int32 → Nat → Nat → Prop) (a0 : Nat) (y_j187 : Ly) (s_j187 : St) (d_j187 e_j187 : Nat) (z0j187 : Int32) : Prop := (d_j187 ≤ mc ∧ e_j187 ≤ ms) ∧ Post y_j187 s_j187 z0j187 d_j187 e_j187
def wja_Mo_advance_156 (mc ms : Nat) (Post : Ly → St → Int32 → Nat → Nat → Prop) (a0 : Nat) (y_j156 : Ly) (s_j156 : St) (d_j156 e_j156 : Nat) : Prop := (d_j156 ≤ mc ∧ e_j156 ≤ ms) ∧ ∃ b_4 : Nat, sO s_j156 a0 46 = some b_4 ∧ cl b_4 = 12 ∧ xA y_j156 s_j156 b_4 14 ((sV s_j156 b_4 16) - 1) (fun x_7 : Int32 => ((0 ≤ x_7 → ∃ mc_13 ms_14 : Nat, (d_j156 + mc_13 ≤ mc ∧ e_j156 + ms_14 ≤ ms) ∧ wa_Mo_instruction mc_13 ms_14 y_j156 (fun (y_10 : Ly) (s_9 : St) (r_8 : Int32) (d_11 e_12 : Nat) => (d_j156 + d_11 ≤ mc ∧ e_j156 + e_12 ≤ ms) ∧ wja_Mo_advance_187 mc ms Post a0 y_10 s_9 (d_j156 + d_11) (e_j156 + e_12) r_8) s_j156 a0) ∧ (¬ (0 ≤ x_7) → ∃ mc_21 ms_22 : Nat, (d_j156 + mc_21 ≤ mc ∧ e_j156 + ms_22 ≤ ms) ∧ wa_Mo_startOn mc_21 ms_22 y_j156 (fun (y_18 : Ly) (s_17 : St) (r_16 : Int32) (d_19 e_20 : Nat) => (d_j156 + d_19 ≤ mc ∧ e_j156 + e_20 ≤ ms) ∧ wja_Mo_advance_187 mc ms Post a0 y_18 s_17 (d_j156 + d_19) (e_j156 + e_20) r_16) s_j156 a0)))
def wba_Mo_advance_114 (mc ms : Nat) (Post : Ly → St → Int32 → Nat → Nat → Prop) (K_114 : Ly → St → Nat → Nat → Int32 → Prop) (a0 : Nat) (y_h114 : Ly) (s_h114 : St) (d_h114 e_h114 : Nat) (x3h114 : Int32) : Prop := (d_h114 ≤ mc ∧ e_h114 ≤ ms) ∧ ∃ b_32 : Nat, sO s_h114 a0 46 = some b_32 ∧ cl b_32 = 12 ∧ xA y_h114 s_h114 a0 31 (sV s_h114 b_32 7) (fun x_35 : Int32 => ((x_35 ≤ x3h114 → Post y_h114 s_h114 0 d_h114 e_h114) ∧ (¬ (x_35 ≤ x3h114) → xA y_h114 s_h114 b_32 8 x3h114 (fun x_36 : Int32 => xS y_h114 s_h114 b_32 20 x3h114 x_36 (fun s_37 : St => K_114 y_h114 s_37 d_h114 e_h114 (x3h114 + 1))))))
def wla_Mo_advance_114 (mc ms : Nat) (Post : Ly → St → Int32 → Nat → Nat → Prop) (a0 : Nat) (y_h114 : Ly) (s_h114 : St) (d_h114 e_h114 : Nat) (x3h114 : Int32) : Prop := ∃ (I : Ly → St → Nat → Nat → Int32 → Prop) (μ : Ly → St → Nat → Nat → Int32 → Nat), I y_h114 s_h114 d_h114 e_h114 x3h114 ∧ ∀ (u1 : Ly) (u2 : St) (u3 u4 : Nat) (t0 : Int32), I u1 u2 u3 u4 t0 → wba_Mo_advance_114 mc ms Post (fun z1 z2 z3 z4 t0q => I z1 z2 z3 z4 t0q ∧ μ z1 z2 z3 z4 t0q < μ u1 u2 u3 u4 t0) a0 u1 u2 u3 u4 t0
def wja_Mo_advance_98 (mc ms : Nat) (Post : Ly → St → Int32 → Nat → Nat → Prop) (a0 : Nat) (y_j98 : Ly) (s_j98 : St) (d_j98 e_j98 : Nat) (z0j98 : Int32) : Prop := (d_j98 ≤ mc ∧ e_j98 ≤ ms) ∧ Post y_j98 s_j98 z0j98 d_j98 e_j98
def wja_Mo_advance_84 (mc ms : Nat) (Post : Ly → St → Int32 → Nat → Nat → Prop) (a0 : Nat) (y_j84 : Ly) (s_j84 : St) (d_j84 e_j84 : Nat) (x1j84 : Int32) (x2j84 : Int32) : Prop := (d_j84 ≤ mc ∧ e_j84 ≤ ms) ∧ ((x2j84 = 0 → ∃ b_26 : Nat, sO s_j84 a0 46 = some b_26 ∧ cl b_26 = 12 ∧ xP (uV s_j84 b_26 4 2) (fun s_29 : St => wu_Mo_newFrame y_j84 (fun (s_31 : St) => wla_Mo_advance_114 mc ms Post a0 y_j84 s_31 d_j84 e_j84 0) s_29 a0 x1j84)) ∧ (¬ (x2j84 = 0) → ((¬ x2j84 = 2 → wja_Mo_advance_98 mc ms Post a0 y_j84 s_j84 d_j84 e_j84 0) ∧ (x2j84 = 2 → wja_Mo_advance_98 mc ms Post a0 y_j84 s_j84 d_j84 e_j84 2))))
def wja_Mo_advance_66 (mc ms : Nat) (Post : Ly → St → Int32 → Nat → Nat → Prop) (a0 : Nat) (y_j66 : Ly) (s_j66 : St) (d_j66 e_j66 : Nat) (x1j66 : Int32) (z0j66 : Int32) : Prop := (d_j66 ≤ mc ∧ e_j66 ≤ ms) ∧ ((¬ z0j66 = 3 → wja_Mo_advance_84 mc ms Post a0 y_j66 s_j66 d_j66 e_j66 x1j66 z0j66) ∧ (z0j66 = 3 → ∃ mc_43 ms_44 : Nat, (d_j66 + mc_43 ≤ mc ∧ e_j66 + ms_44 ≤ ms) ∧ wa_Mo_throwNew mc_43 ms_44 y_j66 (fun (y_40 : Ly) (s_39 : St) (d_41 e_42 : Nat) => (d_j66 + d_41 ≤ mc ∧ e_j66 + e_42 ≤ ms) ∧ wja_Mo_advance_84 mc ms Post a0 y_40 s_39 (d_j66 + d_41) (e_j66 + e_42) x1j66 z0j66) s_j66 a0 (sV s_j66 a0 81) (sV s_j66 a0 80)))
def wa_Mo_advance (mc ms : Nat) (y : Ly) (Post : Ly → St → Int32 → Nat → Nat → Prop) (σ : St) (a0 : Nat) : Prop := ∃ b_1 : Nat, sO σ a0 46 = some b_1 ∧ cl b_1 = 12 ∧ ((¬ (sV σ b_1 4) = 0 → wja_Mo_advance_156 mc ms Post a0 y σ 0 0) ∧ ((sV σ b_1 4) = 0 → ((¬ (sV σ b_1 16) = 0 → wja_Mo_advance_156 mc ms Post a0 y σ 0 0) ∧ ((sV σ b_1 16) = 0 → wu_Mo_findMethod y (fun (s_25 : St) (r_24 : Int32) => ((0 ≤ r_24 → wu_Mo_startOf y (fun (s_47 : St) (r_46 : Int32) => wja_Mo_advance_66 mc ms Post a0 y s_47 0 0 r_24 r_46) s_25 a0 (r_24 / 12)) ∧ (¬ (0 ≤ r_24) → wja_Mo_advance_66 mc ms Post a0 y s_25 0 0 r_24 3))) σ a0 52 (sV σ b_1 5) (sV σ b_1 6) (sV σ b_1 7) (-2)))))
set_option maxHeartbeats 4000000 in
set_option maxRecDepth 100000 in
theorem ca_Mo_advance (l : Launch) (D : va_G) (g : Nat → ClassId) (ad : Nat → Nat) (mc ms : Nat) (y : Ly) (Post : Ly → St → Int32 → Nat → Nat → Prop) (σ : St) (a0 : Nat) (sz uz : Nat) (h_a0 : cl a0 = 14) (h : wa_Mo_advance mc ms y Post σ a0) : Met l y_Mo_advance (mw y_Mo_advance b_Mo_advance 4 (some .int)) (ra_Mo_advance mc ms) (PCu g D [] [.ref (ad a0)] sz uz (ws g ad y σ)) (va_Qi (fun (r : Int32) (u : Ly × St × Nat × Nat) => Post u.1 u.2.1 r u.2.2.1 u.2.2.2) (QU D (va_A (ws g ad y σ) sz) (fun u => ws g ad u.1 u.2.1) sz uz (fun u => u.2.2.1) (fun u => u.2.2.2)) (va_A (ws g ad y σ) sz)) mc ms (va_A (ws g ad y σ) sz) := by
  refine ofIu (by decide +kernel) (Nat.le_of_ble_eq_true rfl) ?_
  intro p e s m args below meth c A Q ls H locs G hsz hP hD hS hl hret
  subst hsz
  have hl : lv_has ls 4 [(0, .ref (ad a0))] := hl
  have hd : 0 ≤ mc ∧ 0 ≤ ms := ⟨Nat.zero_le _, Nat.zero_le _⟩
  unfold wa_Mo_advance at h
  refine lv_aload_n G.1 G.2.1 d_Mo_advance_0 rfl (lv_at hl 0 rfl) ?_
  obtain ⟨b_1, e_2, c_3, h⟩ := h
  refine ugf (v := .ref (ad b_1)) G hP h_a0 iMo rfl 46 (by decide) rfl q3110 rfl (by show va_rf ((sO σ a0 46).map ad) = _; rw [e_2]; rfl) d_Mo_advance_1 ?_
  refine ugfN (v := .int (sV σ b_1 4)) G hP c_3 iMr rfl 4 (by decide) rfl q2991 rfl rfl d_Mo_advance_4 ?_
  have J_156 : ∀ (y_j156 : Ly) (s_j156 : St) (d_j156 e_j156 : Nat) (H : Heap) (locs : List Loc), wja_Mo_advance_156 mc ms Post a0 y_j156 s_j156 d_j156 e_j156 → va_P D CL (ws g ad y_j156 s_j156) H → va_D A (ws g ad y_j156 s_j156) → va_S A s.heap H locs → ∀ ls, lv_has ls 4 [(0, .ref (ad a0))] → W p l e (ra_Mo_advance mc ms) s m args below meth c H locs d_j156 e_j156 Q (F0 m 156 ls []) := by
    intro y_j156 s_j156 d_j156 e_j156 H locs h hP hD hS ls hl
    unfold wja_Mo_advance_156 at h
    obtain ⟨hd, h⟩ := h
    refine lv_aload_n G.1 G.2.1 d_Mo_advance_156 rfl (lv_at hl 0 rfl) ?_
    obtain ⟨b_4, e_5, c_6, h⟩ := h
    refine ugf (v := .ref (ad b_4)) G hP h_a0 iMo rfl 46 (by decide) rfl q3110 rfl (by show va_rf ((sO s_j156 a0 46).map ad) = _; rw [e_5]; rfl) d_Mo_advance_157 ?_
    refine ugfN (v := .ref (yP y_j156 b_4 14)) G hP c_6 iMr rfl 14 (by decide) rfl q3002 rfl rfl d_Mo_advance_160 ?_
    refine lv_aload_n G.1 G.2.1 d_Mo_advance_163 rfl (lv_at hl 0 rfl) ?_
    refine ugf (v := .ref (ad b_4)) G hP h_a0 iMo rfl 46 (by decide) rfl q3110 rfl (by show va_rf ((sO s_j156 a0 46).map ad) = _; rw [e_5]; rfl) d_Mo_advance_164 ?_
    refine ugfN (v := .int (sV s_j156 b_4 16)) G hP c_6 iMr rfl 16 (by decide) rfl q3005 rfl rfl d_Mo_advance_167 ?_
    refine lv_iconst (v := 1) G.1 G.2.1 d_Mo_advance_170 (by decide) ?_
    refine lv_isub G.1 G.2.1 d_Mo_advance_171 ?_
    refine uiald G hP (kdp c_6 rfl) (typ c_6 rfl) h d_Mo_advance_172 (fun x_7 h => ?_)
    have J_187 : ∀ (y_j187 : Ly) (s_j187 : St) (d_j187 e_j187 : Nat) (z0j187 : Int32) (H : Heap) (locs : List Loc), wja_Mo_advance_187 mc ms Post a0 y_j187 s_j187 d_j187 e_j187 z0j187 → va_P D CL (ws g ad y_j187 s_j187) H → va_D A (ws g ad y_j187 s_j187) → va_S A s.heap H locs → ∀ ls, lv_has ls 4 [] → W p l e (ra_Mo_advance mc ms) s m args below meth c H locs d_j187 e_j187 Q (F0 m 187 ls [.int z0j187]) := by
      intro y_j187 s_j187 d_j187 e_j187 z0j187 H locs h hP hD hS ls hl
      unfold wja_Mo_advance_187 at h
      obtain ⟨hd, h⟩ := h
      exact hret _ (y_j187, s_j187, d_j187, e_j187) _ _ _ _ _ ls h hP hD hS (Nat.le_refl _) (Nat.le_refl _) hd.1 hd.2 d_Mo_advance_187
    refine lv_if_ge (tgt := 183) G.1 G.2.1 d_Mo_advance_173 (by decide) (fun c173 => ?_) (fun c173 => ?_)
    · skip
      have h := h.1 c173
      refine lv_aload_n G.1 G.2.1 d_Mo_advance_183 rfl (lv_at hl 0 rfl) ?_
      refine W.eq (g2 := F0 m 184 ls [.ref (ad a0)]) rfl ?_
      obtain ⟨mc_13, ms_14, hr_15, h⟩ := h
      refine uaVi (As := []) (rest := []) G hP hD hS (ca_Mo_instruction l D g ad mc_13 ms_14 y_j156 _ s_j156 a0 H.size (us H) h_a0 h) w9_Mo_instruction q3923 ⟨Nat.le_of_ble_eq_true rfl, Nat.le_of_ble_eq_true rfl⟩ rfl rfl h_a0 (q := (RMo, TMo, 131)) rfl rfl hl.1 rfl (Nat.le_of_ble_eq_true rfl) rfl hr_15 d_Mo_advance_184 (fun r_8 y_10 s_9 d_11 e_12 H locs h hP hD hS => ?_)
      have hl := lv_sub (l' := []) hl [] rfl
      obtain ⟨hd, h⟩ := h
      exact J_187 y_10 s_9 (d_j156 + d_11) (e_j156 + e_12) r_8 H locs h hP hD hS ls (lv_sub hl [] rfl)
    · skip
      have h := h.2 c173
      refine lv_aload_n G.1 G.2.1 d_Mo_advance_176 rfl (lv_at hl 0 rfl) ?_
      refine W.eq (g2 := F0 m 177 ls [.ref (ad a0)]) rfl ?_
      obtain ⟨mc_21, ms_22, hr_23, h⟩ := h
      refine uaVi (As := []) (rest := []) G hP hD hS (ca_Mo_startOn l D g ad mc_21 ms_22 y_j156 _ s_j156 a0 H.size (us H) h_a0 h) w9_Mo_startOn q3915 ⟨Nat.le_of_ble_eq_true rfl, Nat.le_of_ble_eq_true rfl⟩ rfl rfl h_a0 (q := (RMo, TMo, 131)) rfl rfl hl.1 rfl (Nat.le_of_ble_eq_true rfl) rfl hr_23 d_Mo_advance_177 (fun r_16 y_18 s_17 d_19 e_20 H locs h hP hD hS => ?_)
      have hl := lv_sub (l' := []) hl [] rfl
      obtain ⟨hd, h⟩ := h
      refine lv_goto (tgt := 187) G.1 G.2.1 d_Mo_advance_180 (by decide) ?_
      exact J_187 y_18 s_17 (d_j156 + d_19) (e_j156 + e_20) r_16 H locs h hP hD hS ls (lv_sub hl [] rfl)
  refine lv_if_ne (tgt := 156) G.1 G.2.1 d_Mo_advance_7 (by decide) (fun c7 => ?_) (fun c7 => ?_)
  · skip
    have h := h.1 c7
    exact J_156 y σ 0 0 H locs h hP hD hS ls (lv_sub hl [0] rfl)
  · skip
    have h := h.2 c7
    refine lv_aload_n G.1 G.2.1 d_Mo_advance_10 rfl (lv_at hl 0 rfl) ?_
    refine ugf (v := .ref (ad b_1)) G hP h_a0 iMo rfl 46 (by decide) rfl q3110 rfl (by show va_rf ((sO σ a0 46).map ad) = _; rw [e_2]; rfl) d_Mo_advance_11 ?_
    refine ugfN (v := .int (sV σ b_1 16)) G hP c_3 iMr rfl 16 (by decide) rfl q3005 rfl rfl d_Mo_advance_14 ?_
    refine lv_if_ne (tgt := 156) G.1 G.2.1 d_Mo_advance_17 (by decide) (fun c17 => ?_) (fun c17 => ?_)
    · skip
      have h := h.1 c17
      exact J_156 y σ 0 0 H locs h hP hD hS ls (lv_sub hl [0] rfl)
    · skip
      have h := h.2 c17
      refine lv_aload_n G.1 G.2.1 d_Mo_advance_20 rfl (lv_at hl 0 rfl) ?_
      refine lv_bipush (v := 52) G.1 G.2.1 d_Mo_advance_21 (by decide) ?_
      refine lv_aload_n G.1 G.2.1 d_Mo_advance_23 rfl (lv_at hl 0 rfl) ?_
      refine W.eq (g2 := F0 m 24 ls [.ref (ad a0), .int 52, .ref (ad a0)]) rfl ?_
      refine ugf (v := .ref (ad b_1)) G hP h_a0 iMo rfl 46 (by decide) rfl q3110 rfl (by show va_rf ((sO σ a0 46).map ad) = _; rw [e_2]; rfl) d_Mo_advance_24 ?_
      refine ugfN (v := .int (sV σ b_1 5)) G hP c_3 iMr rfl 5 (by decide) rfl q2992 rfl rfl d_Mo_advance_27 ?_
      refine lv_aload_n G.1 G.2.1 d_Mo_advance_30 rfl (lv_at hl 0 rfl) ?_
      refine ugf (v := .ref (ad b_1)) G hP h_a0 iMo rfl 46 (by decide) rfl q3110 rfl (by show va_rf ((sO σ a0 46).map ad) = _; rw [e_2]; rfl) d_Mo_advance_31 ?_
      refine ugfN (v := .int (sV σ b_1 6)) G hP c_3 iMr rfl 6 (by decide) rfl q2993 rfl rfl d_Mo_advance_34 ?_
      refine lv_aload_n G.1 G.2.1 d_Mo_advance_37 rfl (lv_at hl 0 rfl) ?_
      refine ugf (v := .ref (ad b_1)) G hP h_a0 iMo rfl 46 (by decide) rfl q3110 rfl (by show va_rf ((sO σ a0 46).map ad) = _; rw [e_2]; rfl) d_Mo_advance_38 ?_
      refine ugfN (v := .int (sV σ b_1 7)) G hP c_3 iMr rfl 7 (by decide) rfl q2994 rfl rfl d_Mo_advance_41 ?_
      refine lv_bipush (v := (-2)) G.1 G.2.1 d_Mo_advance_44 (by decide) ?_
      refine ucVi (As := [.int 52, .int (sV σ b_1 5), .int (sV σ b_1 6), .int (sV σ b_1 7), .int (-2)]) (rest := []) G hP hD hS (cu_Mo_findMethod l D g ad y _ σ a0 52 (sV σ b_1 5) (sV σ b_1 6) (sV σ b_1 7) (-2) H.size h_a0 h) w9_Mo_findMethod q3851 ⟨Nat.le_of_ble_eq_true rfl, Nat.le_of_ble_eq_true rfl⟩ rfl rfl h_a0 (q := (RMo, TMo, 131)) rfl rfl hl.1 rfl (Nat.le_of_ble_eq_true rfl) rfl hd d_Mo_advance_46 (fun r_24 s_25 H locs h hP hD hS => ?_)
      refine lv_istore_n (lv' := [(1, .int r_24), (0, .ref (ad a0))]) G.1 G.2.1 d_Mo_advance_49 rfl hl (by decide) rfl (fun ls hl => ?_)
      refine lv_iload_n G.1 G.2.1 d_Mo_advance_50 rfl (lv_at hl 0 rfl) ?_
      have J_66 : ∀ (y_j66 : Ly) (s_j66 : St) (d_j66 e_j66 : Nat) (x1j66 : Int32) (z0j66 : Int32) (H : Heap) (locs : List Loc), wja_Mo_advance_66 mc ms Post a0 y_j66 s_j66 d_j66 e_j66 x1j66 z0j66 → va_P D CL (ws g ad y_j66 s_j66) H → va_D A (ws g ad y_j66 s_j66) → va_S A s.heap H locs → ∀ ls, lv_has ls 4 [(0, .ref (ad a0)), (1, .int x1j66)] → W p l e (ra_Mo_advance mc ms) s m args below meth c H locs d_j66 e_j66 Q (F0 m 66 ls [.int z0j66]) := by
        intro y_j66 s_j66 d_j66 e_j66 x1j66 z0j66 H locs h hP hD hS ls hl
        unfold wja_Mo_advance_66 at h
        obtain ⟨hd, h⟩ := h
        refine lv_istore_n (lv' := [(2, .int z0j66), (0, .ref (ad a0)), (1, .int x1j66)]) G.1 G.2.1 d_Mo_advance_66 rfl hl (by decide) rfl (fun ls hl => ?_)
        refine lv_iload_n G.1 G.2.1 d_Mo_advance_67 rfl (lv_at hl 0 rfl) ?_
        refine lv_iconst (v := 3) G.1 G.2.1 d_Mo_advance_68 (by decide) ?_
        have J_84 : ∀ (y_j84 : Ly) (s_j84 : St) (d_j84 e_j84 : Nat) (x1j84 : Int32) (x2j84 : Int32) (H : Heap) (locs : List Loc), wja_Mo_advance_84 mc ms Post a0 y_j84 s_j84 d_j84 e_j84 x1j84 x2j84 → va_P D CL (ws g ad y_j84 s_j84) H → va_D A (ws g ad y_j84 s_j84) → va_S A s.heap H locs → ∀ ls, lv_has ls 4 [(0, .ref (ad a0)), (1, .int x1j84), (2, .int x2j84)] → W p l e (ra_Mo_advance mc ms) s m args below meth c H locs d_j84 e_j84 Q (F0 m 84 ls []) := by
          intro y_j84 s_j84 d_j84 e_j84 x1j84 x2j84 H locs h hP hD hS ls hl
          unfold wja_Mo_advance_84 at h
          obtain ⟨hd, h⟩ := h
          refine lv_iload_n G.1 G.2.1 d_Mo_advance_84 rfl (lv_at hl 2 rfl) ?_
          refine lv_if_eq (tgt := 99) G.1 G.2.1 d_Mo_advance_85 (by decide) (fun c85 => ?_) (fun c85 => ?_)
          · skip
            have h := h.1 c85
            refine lv_aload_n G.1 G.2.1 d_Mo_advance_99 rfl (lv_at hl 0 rfl) ?_
            obtain ⟨b_26, e_27, c_28, h⟩ := h
            refine ugf (v := .ref (ad b_26)) G hP h_a0 iMo rfl 46 (by decide) rfl q3110 rfl (by show va_rf ((sO s_j84 a0 46).map ad) = _; rw [e_27]; rfl) d_Mo_advance_100 ?_
            refine lv_iconst (v := 2) G.1 G.2.1 d_Mo_advance_103 (by decide) ?_
            refine upfN G hP hD hS h 4 putV c_28 iMr tMr tMr_ok nMr rfl (by decide) rfl q2991 rfl rfl fV rfl rfl d_Mo_advance_104 (fun s_29 H locs h hP hD hS => ?_)
            refine lv_aload_n G.1 G.2.1 d_Mo_advance_107 rfl (lv_at hl 0 rfl) ?_
            refine lv_iload_n G.1 G.2.1 d_Mo_advance_108 rfl (lv_at hl 1 rfl) ?_
            refine ucVv (As := [.int x1j84]) (rest := []) G hP hD hS (cu_Mo_newFrame l D g ad y_j84 _ s_29 a0 x1j84 H.size h_a0 h) w9_Mo_newFrame q3911 ⟨Nat.le_of_ble_eq_true rfl, Nat.le_of_ble_eq_true rfl⟩ rfl rfl h_a0 (q := (RMo, TMo, 131)) rfl rfl hl.1 rfl (Nat.le_of_ble_eq_true rfl) rfl hd d_Mo_advance_109 (fun s_31 H locs h hP hD hS => ?_)
            refine lv_iconst (v := 0) G.1 G.2.1 d_Mo_advance_112 (by decide) ?_
            refine lv_istore_n (lv' := [(3, .int 0), (0, .ref (ad a0)), (1, .int x1j84), (2, .int x2j84)]) G.1 G.2.1 d_Mo_advance_113 rfl hl (by decide) rfl (fun ls hl => ?_)
            unfold wla_Mo_advance_114 at h
            obtain ⟨I_114, μ_114, hI_114, hB_114⟩ := h
            have L_114 : ∀ (n_114 : Nat) (y_h114 : Ly) (s_h114 : St) (d_h114 e_h114 : Nat) (x3h114 : Int32), μ_114 y_h114 s_h114 d_h114 e_h114 x3h114 < n_114 → I_114 y_h114 s_h114 d_h114 e_h114 x3h114 → ∀ (H : Heap) (locs : List Loc), va_P D CL (ws g ad y_h114 s_h114) H → va_D A (ws g ad y_h114 s_h114) → va_S A s.heap H locs → ∀ ls, lv_has ls 4 [(0, .ref (ad a0)), (3, .int x3h114)] → W p l e (ra_Mo_advance mc ms) s m args below meth c H locs d_h114 e_h114 Q (F0 m 114 ls []) := by
              intro n_114
              induction n_114 with
              | zero => intro y_h114 s_h114 d_h114 e_h114 x3h114 hμ; exact absurd hμ (Nat.not_lt_zero _)
              | succ n_114 ih_114 =>
                intro y_h114 s_h114 d_h114 e_h114 x3h114 hμ_114 hJ H locs hP hD hS ls hl
                obtain ⟨K_114, hK_114, h⟩ : ∃ K : Ly → St → Nat → Nat → Int32 → Prop, (∀ z1 z2 z3 z4 (t0 : Int32), K z1 z2 z3 z4 t0 → I_114 z1 z2 z3 z4 t0 ∧ μ_114 z1 z2 z3 z4 t0 < μ_114 y_h114 s_h114 d_h114 e_h114 x3h114) ∧ wba_Mo_advance_114 mc ms Post K a0 y_h114 s_h114 d_h114 e_h114 x3h114 := ⟨_, fun _ _ _ _ _ h => h, hB_114 y_h114 s_h114 d_h114 e_h114 x3h114 hJ⟩
                unfold wba_Mo_advance_114 at h
                obtain ⟨hd, h⟩ := h
                refine lv_iload_n G.1 G.2.1 d_Mo_advance_114 rfl (lv_at hl 1 rfl) ?_
                refine lv_aload_n G.1 G.2.1 d_Mo_advance_115 rfl (lv_at hl 0 rfl) ?_
                refine ugf (v := .ref (yP y_h114 a0 31)) G hP h_a0 iMo rfl 31 (by decide) rfl q3095 rfl rfl d_Mo_advance_116 ?_
                refine lv_aload_n G.1 G.2.1 d_Mo_advance_119 rfl (lv_at hl 0 rfl) ?_
                obtain ⟨b_32, e_33, c_34, h⟩ := h
                refine ugf (v := .ref (ad b_32)) G hP h_a0 iMo rfl 46 (by decide) rfl q3110 rfl (by show va_rf ((sO s_h114 a0 46).map ad) = _; rw [e_33]; rfl) d_Mo_advance_120 ?_
                refine ugfN (v := .int (sV s_h114 b_32 7)) G hP c_34 iMr rfl 7 (by decide) rfl q2994 rfl rfl d_Mo_advance_123 ?_
                refine uiald G hP (kdp h_a0 rfl) (typ h_a0 rfl) h d_Mo_advance_126 (fun x_35 h => ?_)
                refine lv_icmp_ge (tgt := 154) G.1 G.2.1 d_Mo_advance_127 (by decide) (fun c127 => ?_) (fun c127 => ?_)
                · skip
                  have h := h.1 c127
                  refine lv_iconst (v := 0) G.1 G.2.1 d_Mo_advance_154 (by decide) ?_
                  exact hret _ (y_h114, s_h114, d_h114, e_h114) _ _ _ _ _ ls h hP hD hS (Nat.le_refl _) (Nat.le_refl _) hd.1 hd.2 d_Mo_advance_155
                · skip
                  have h := h.2 c127
                  refine lv_aload_n G.1 G.2.1 d_Mo_advance_130 rfl (lv_at hl 0 rfl) ?_
                  refine ugf (v := .ref (ad b_32)) G hP h_a0 iMo rfl 46 (by decide) rfl q3110 rfl (by show va_rf ((sO s_h114 a0 46).map ad) = _; rw [e_33]; rfl) d_Mo_advance_131 ?_
                  refine ugfN (v := .ref (yP y_h114 b_32 20)) G hP c_34 iMr rfl 20 (by decide) rfl q3013 rfl rfl d_Mo_advance_134 ?_
                  refine W.eq (g2 := F0 m 137 ls [.ref (yP y_h114 b_32 20)]) rfl ?_
                  refine lv_iload_n G.1 G.2.1 d_Mo_advance_137 rfl (lv_at hl 1 rfl) ?_
                  refine lv_aload_n G.1 G.2.1 d_Mo_advance_138 rfl (lv_at hl 0 rfl) ?_
                  refine ugf (v := .ref (ad b_32)) G hP h_a0 iMo rfl 46 (by decide) rfl q3110 rfl (by show va_rf ((sO s_h114 a0 46).map ad) = _; rw [e_33]; rfl) d_Mo_advance_139 ?_
                  refine ugfN (v := .ref (yP y_h114 b_32 8)) G hP c_34 iMr rfl 8 (by decide) rfl q2996 rfl rfl d_Mo_advance_142 ?_
                  refine lv_iload_n G.1 G.2.1 d_Mo_advance_145 rfl (lv_at hl 1 rfl) ?_
                  refine uiald G hP (kdp c_34 rfl) (typ c_34 rfl) h d_Mo_advance_146 (fun x_36 h => ?_)
                  refine uiast G hP hD hS (kdp c_34 rfl) (typ c_34 rfl) h d_Mo_advance_147 (fun s_37 H locs h hP hD hS => ?_)
                  refine lv_iinc (v := x3h114 + 1) (lv' := [(3, .int (x3h114 + 1)), (0, .ref (ad a0))]) G.1 G.2.1 d_Mo_advance_148 hl (k := 1) rfl rfl (by decide) rfl (fun ls hl => ?_)
                  refine lv_goto (tgt := 114) G.1 G.2.1 d_Mo_advance_151 (by decide) ?_
                  have h := hK_114 y_h114 s_37 d_h114 e_h114 (x3h114 + 1) h
                  exact ih_114 y_h114 s_37 d_h114 e_h114 (x3h114 + 1) (Nat.lt_of_lt_of_le h.2 (Nat.le_of_lt_succ hμ_114)) h.1 H locs hP hD hS ls (lv_sub hl [1, 0] rfl)
            exact L_114 _ y_j84 s_31 d_j84 e_j84 0 (Nat.lt_succ_self _) hI_114 H locs hP hD hS ls (lv_sub hl [1, 0] rfl)
          · skip
            have h := h.2 c85
            refine lv_iload_n G.1 G.2.1 d_Mo_advance_88 rfl (lv_at hl 2 rfl) ?_
            refine lv_iconst (v := 2) G.1 G.2.1 d_Mo_advance_89 (by decide) ?_
            have J_98 : ∀ (y_j98 : Ly) (s_j98 : St) (d_j98 e_j98 : Nat) (z0j98 : Int32) (H : Heap) (locs : List Loc), wja_Mo_advance_98 mc ms Post a0 y_j98 s_j98 d_j98 e_j98 z0j98 → va_P D CL (ws g ad y_j98 s_j98) H → va_D A (ws g ad y_j98 s_j98) → va_S A s.heap H locs → ∀ ls, lv_has ls 4 [] → W p l e (ra_Mo_advance mc ms) s m args below meth c H locs d_j98 e_j98 Q (F0 m 98 ls [.int z0j98]) := by
              intro y_j98 s_j98 d_j98 e_j98 z0j98 H locs h hP hD hS ls hl
              unfold wja_Mo_advance_98 at h
              obtain ⟨hd, h⟩ := h
              exact hret _ (y_j98, s_j98, d_j98, e_j98) _ _ _ _ _ ls h hP hD hS (Nat.le_refl _) (Nat.le_refl _) hd.1 hd.2 d_Mo_advance_98
            refine lv_icmp_ne (tgt := 97) G.1 G.2.1 d_Mo_advance_90 (by decide) (fun c90 => ?_) (fun c90 => ?_)
            · skip
              have h := h.1 c90
              refine lv_iconst (v := 0) G.1 G.2.1 d_Mo_advance_97 (by decide) ?_
              exact J_98 y_j84 s_j84 d_j84 e_j84 0 H locs h hP hD hS ls (lv_sub hl [] rfl)
            · skip
              have h := h.2 c90
              refine lv_iconst (v := 2) G.1 G.2.1 d_Mo_advance_93 (by decide) ?_
              refine lv_goto (tgt := 98) G.1 G.2.1 d_Mo_advance_94 (by decide) ?_
              exact J_98 y_j84 s_j84 d_j84 e_j84 2 H locs h hP hD hS ls (lv_sub hl [] rfl)
        refine lv_icmp_ne (tgt := 84) G.1 G.2.1 d_Mo_advance_69 (by decide) (fun c69 => ?_) (fun c69 => ?_)
        · skip
          have h := h.1 c69
          exact J_84 y_j66 s_j66 d_j66 e_j66 x1j66 z0j66 H locs h hP hD hS ls (lv_sub hl [1, 2, 0] rfl)
        · skip
          have h := h.2 c69
          refine lv_aload_n G.1 G.2.1 d_Mo_advance_72 rfl (lv_at hl 1 rfl) ?_
          refine lv_aload_n G.1 G.2.1 d_Mo_advance_73 rfl (lv_at hl 1 rfl) ?_
          refine ugf (v := .int (sV s_j66 a0 81)) G hP h_a0 iMo rfl 81 (by decide) rfl q3145 rfl rfl d_Mo_advance_74 ?_
          refine lv_aload_n G.1 G.2.1 d_Mo_advance_77 rfl (lv_at hl 1 rfl) ?_
          refine ugf (v := .int (sV s_j66 a0 80)) G hP h_a0 iMo rfl 80 (by decide) rfl q3144 rfl rfl d_Mo_advance_78 ?_
          obtain ⟨mc_43, ms_44, hr_45, h⟩ := h
          refine uaVv (As := [.int (sV s_j66 a0 81), .int (sV s_j66 a0 80)]) (rest := []) G hP hD hS (ca_Mo_throwNew l D g ad mc_43 ms_44 y_j66 _ s_j66 a0 (sV s_j66 a0 81) (sV s_j66 a0 80) H.size (us H) h_a0 h) w9_Mo_throwNew q3883 ⟨Nat.le_of_ble_eq_true rfl, Nat.le_of_ble_eq_true rfl⟩ rfl rfl h_a0 (q := (RMo, TMo, 131)) rfl rfl hl.1 rfl (Nat.le_of_ble_eq_true rfl) rfl hr_45 d_Mo_advance_81 (fun y_40 s_39 d_41 e_42 H locs h hP hD hS => ?_)
          obtain ⟨hd, h⟩ := h
          exact J_84 y_40 s_39 (d_j66 + d_41) (e_j66 + e_42) x1j66 z0j66 H locs h hP hD hS ls (lv_sub hl [1, 2, 0] rfl)
      refine W.eq (g2 := F0 m 51 ls [.int r_24]) rfl ?_
      refine lv_if_ge (tgt := 58) G.1 G.2.1 d_Mo_advance_51 (by decide) (fun c51 => ?_) (fun c51 => ?_)
      · skip
        have h := h.1 c51
        refine lv_aload_n G.1 G.2.1 d_Mo_advance_58 rfl (lv_at hl 1 rfl) ?_
        refine lv_iload_n G.1 G.2.1 d_Mo_advance_59 rfl (lv_at hl 0 rfl) ?_
        refine lv_bipush (v := 12) G.1 G.2.1 d_Mo_advance_60 (by decide) ?_
        refine lv_idiv G.1 G.2.1 d_Mo_advance_62 (by decide) ?_
        refine ucVi (As := [.int (r_24 / 12)]) (rest := []) G hP hD hS (cu_Mo_startOf l D g ad y _ s_25 a0 (r_24 / 12) H.size h_a0 h) w9_Mo_startOf q3875 ⟨Nat.le_of_ble_eq_true rfl, Nat.le_of_ble_eq_true rfl⟩ rfl rfl h_a0 (q := (RMo, TMo, 131)) rfl rfl hl.1 rfl (Nat.le_of_ble_eq_true rfl) rfl hd d_Mo_advance_63 (fun r_46 s_47 H locs h hP hD hS => ?_)
        exact J_66 y s_47 0 0 r_24 r_46 H locs h hP hD hS ls (lv_sub hl [1, 0] rfl)
      · skip
        have h := h.2 c51
        refine lv_iconst (v := 3) G.1 G.2.1 d_Mo_advance_54 (by decide) ?_
        refine lv_goto (tgt := 66) G.1 G.2.1 d_Mo_advance_55 (by decide) ?_
        exact J_66 y s_25 0 0 r_24 3 H locs h hP hD hS ls (lv_sub hl [1, 0] rfl)
theorem q3147 : Cond.fieldLink "ClassWorksModel" 1099 "ClassWorksModel" "didSteps" "I" ∈ lw_ok := lw_okmem (List.mem_of_getElem? (i := 3147) (by decide +kernel)) rfl
theorem q3826 : Cond.methodLink "ClassWorksModel" 1102 y_Mo_isAnyOn ∈ lw_ok := lw_okmem (List.mem_of_getElem? (i := 3826) (by decide +kernel)) rfl
theorem q3829 : Cond.code y_Mo_isAnyOn b_Mo_isAnyOn 2 (some (.boolean)) ∈ lw_ok := lw_okmem (List.mem_of_getElem? (i := 3829) (by decide +kernel)) rfl
theorem q3828 : Cond.instanceMethod y_Mo_isAnyOn ∈ lw_ok := lw_okmem (List.mem_of_getElem? (i := 3828) (by decide +kernel)) rfl
theorem q246 : Cond.selects y_Mo_isAnyOn.cls y_Mo_isAnyOn y_Mo_isAnyOn ∈ lw_ok := lw_okmem (List.mem_of_getElem? (i := 246) (by decide +kernel)) rfl
theorem w9_Mo_isAnyOn : CWv y_Mo_isAnyOn b_Mo_isAnyOn 2 (some (.boolean)) 1 ∧ Cond.instanceMethod y_Mo_isAnyOn ∈ lw_ok ∧ Cond.selects y_Mo_isAnyOn.cls y_Mo_isAnyOn y_Mo_isAnyOn ∈ lw_ok := ⟨⟨q3829, q348, by decide +kernel, by decide +kernel, by decide +kernel⟩, q3828, q246⟩
theorem q3847 : Cond.methodLink "ClassWorksModel" 1109 y_Mo_advance ∈ lw_ok := lw_okmem (List.mem_of_getElem? (i := 3847) (by decide +kernel)) rfl
theorem q3850 : Cond.code y_Mo_advance b_Mo_advance 4 (some .int) ∈ lw_ok := lw_okmem (List.mem_of_getElem? (i := 3850) (by decide +kernel)) rfl
theorem q3849 : Cond.instanceMethod y_Mo_advance ∈ lw_ok := lw_okmem (List.mem_of_getElem? (i := 3849) (by decide +kernel)) rfl
theorem q251 : Cond.selects y_Mo_advance.cls y_Mo_advance y_Mo_advance ∈ lw_ok := lw_okmem (List.mem_of_getElem? (i := 251) (by decide +kernel)) rfl
theorem w9_Mo_advance : CWv y_Mo_advance b_Mo_advance 4 (some .int) 0 ∧ Cond.instanceMethod y_Mo_advance ∈ lw_ok ∧ Cond.selects y_Mo_advance.cls y_Mo_advance y_Mo_advance ∈ lw_ok := ⟨⟨q3850, q348, by decide +kernel, by decide +kernel, by decide +kernel⟩, q3849, q251⟩
def y_Mo_goOn : MethodName := ⟨"ClassWorksModel", "goOn", "(I)I"⟩
abbrev b_Mo_goOn : ByteArray := prog_14_method_123_code
theorem d_Mo_goOn_0 : decode b_Mo_goOn 0 = .ok (.aload_n 0, 1) := by decide +kernel
theorem d_Mo_goOn_1 : decode b_Mo_goOn 1 = .ok (.iconst 0, 1) := by decide +kernel
theorem d_Mo_goOn_2 : decode b_Mo_goOn 2 = .ok (.putfield 1099, 3) := by decide +kernel
theorem d_Mo_goOn_5 : decode b_Mo_goOn 5 = .ok (.aload_n 0, 1) := by decide +kernel
theorem d_Mo_goOn_6 : decode b_Mo_goOn 6 = .ok (.aload_n 0, 1) := by decide +kernel
theorem d_Mo_goOn_7 : decode b_Mo_goOn 7 = .ok (.getfield 522, 3) := by decide +kernel
theorem d_Mo_goOn_10 : decode b_Mo_goOn 10 = .ok (.invokevirtual 1102, 3) := by decide +kernel
theorem d_Mo_goOn_13 : decode b_Mo_goOn 13 = .ok (.ifCond .eq 253, 3) := by decide +kernel
theorem d_Mo_goOn_16 : decode b_Mo_goOn 16 = .ok (.aload_n 0, 1) := by decide +kernel
theorem d_Mo_goOn_17 : decode b_Mo_goOn 17 = .ok (.getfield 1099, 3) := by decide +kernel
theorem d_Mo_goOn_20 : decode b_Mo_goOn 20 = .ok (.iload_n 1, 1) := by decide +kernel
theorem d_Mo_goOn_21 : decode b_Mo_goOn 21 = .ok (.if_icmp .ne 5, 3) := by decide +kernel
theorem d_Mo_goOn_24 : decode b_Mo_goOn 24 = .ok (.iconst 1, 1) := by decide +kernel
theorem d_Mo_goOn_25 : decode b_Mo_goOn 25 = .ok (.ireturn, 1) := by decide +kernel
theorem d_Mo_goOn_26 : decode b_Mo_goOn 26 = .ok (.aload_n 0, 1) := by decide +kernel
theorem d_Mo_goOn_27 : decode b_Mo_goOn 27 = .ok (.getfield 522, 3) := by decide +kernel
theorem d_Mo_goOn_30 : decode b_Mo_goOn 30 = .ok (.getfield 406, 3) := by decide +kernel
theorem d_Mo_goOn_33 : decode b_Mo_goOn 33 = .ok (.aload_n 0, 1) := by decide +kernel
theorem d_Mo_goOn_34 : decode b_Mo_goOn 34 = .ok (.getfield 522, 3) := by decide +kernel
theorem d_Mo_goOn_37 : decode b_Mo_goOn 37 = .ok (.getfield 492, 3) := by decide +kernel
theorem d_Mo_goOn_40 : decode b_Mo_goOn 40 = .ok (.aaload, 1) := by decide +kernel
theorem d_Mo_goOn_41 : decode b_Mo_goOn 41 = .ok (.astore_n 2, 1) := by decide +kernel
theorem d_Mo_goOn_42 : decode b_Mo_goOn 42 = .ok (.aload_n 0, 1) := by decide +kernel
theorem d_Mo_goOn_43 : decode b_Mo_goOn 43 = .ok (.getfield 522, 3) := by decide +kernel
theorem d_Mo_goOn_46 : decode b_Mo_goOn 46 = .ok (.getfield 498, 3) := by decide +kernel
theorem d_Mo_goOn_49 : decode b_Mo_goOn 49 = .ok (.ifCond .eq 18, 3) := by decide +kernel
theorem d_Mo_goOn_52 : decode b_Mo_goOn 52 = .ok (.aload_n 2, 1) := by decide +kernel
theorem d_Mo_goOn_53 : decode b_Mo_goOn 53 = .ok (.getfield 486, 3) := by decide +kernel
theorem d_Mo_goOn_56 : decode b_Mo_goOn 56 = .ok (.iconst 1, 1) := by decide +kernel
theorem d_Mo_goOn_57 : decode b_Mo_goOn 57 = .ok (.if_icmp .ne 10, 3) := by decide +kernel
theorem d_Mo_goOn_60 : decode b_Mo_goOn 60 = .ok (.aload_n 2, 1) := by decide +kernel
theorem d_Mo_goOn_61 : decode b_Mo_goOn 61 = .ok (.getfield 489, 3) := by decide +kernel
theorem d_Mo_goOn_64 : decode b_Mo_goOn 64 = .ok (.ifCond .eq 103, 3) := by decide +kernel
theorem d_Mo_goOn_67 : decode b_Mo_goOn 67 = .ok (.bipush (-2), 2) := by decide +kernel
theorem d_Mo_goOn_69 : decode b_Mo_goOn 69 = .ok (.istore_n 3, 1) := by decide +kernel
theorem d_Mo_goOn_70 : decode b_Mo_goOn 70 = .ok (.iconst 1, 1) := by decide +kernel
theorem d_Mo_goOn_71 : decode b_Mo_goOn 71 = .ok (.istore 4, 2) := by decide +kernel
theorem d_Mo_goOn_73 : decode b_Mo_goOn 73 = .ok (.iload 4, 2) := by decide +kernel
theorem d_Mo_goOn_75 : decode b_Mo_goOn 75 = .ok (.iconst 3, 1) := by decide +kernel
theorem d_Mo_goOn_76 : decode b_Mo_goOn 76 = .ok (.if_icmp .gt 50, 3) := by decide +kernel
theorem d_Mo_goOn_79 : decode b_Mo_goOn 79 = .ok (.iload_n 3, 1) := by decide +kernel
theorem d_Mo_goOn_80 : decode b_Mo_goOn 80 = .ok (.ifCond .ge 46, 3) := by decide +kernel
theorem d_Mo_goOn_83 : decode b_Mo_goOn 83 = .ok (.aload_n 0, 1) := by decide +kernel
theorem d_Mo_goOn_84 : decode b_Mo_goOn 84 = .ok (.aload_n 0, 1) := by decide +kernel
theorem d_Mo_goOn_85 : decode b_Mo_goOn 85 = .ok (.getfield 522, 3) := by decide +kernel
theorem d_Mo_goOn_88 : decode b_Mo_goOn 88 = .ok (.getfield 492, 3) := by decide +kernel
theorem d_Mo_goOn_91 : decode b_Mo_goOn 91 = .ok (.iload 4, 2) := by decide +kernel
theorem d_Mo_goOn_93 : decode b_Mo_goOn 93 = .ok (.iadd, 1) := by decide +kernel
theorem d_Mo_goOn_94 : decode b_Mo_goOn 94 = .ok (.iconst 3, 1) := by decide +kernel
theorem d_Mo_goOn_95 : decode b_Mo_goOn 95 = .ok (.irem, 1) := by decide +kernel
theorem d_Mo_goOn_96 : decode b_Mo_goOn 96 = .ok (.invokevirtual 1106, 3) := by decide +kernel
theorem d_Mo_goOn_99 : decode b_Mo_goOn 99 = .ok (.ifCond .eq 18, 3) := by decide +kernel
theorem d_Mo_goOn_102 : decode b_Mo_goOn 102 = .ok (.aload_n 0, 1) := by decide +kernel
theorem d_Mo_goOn_103 : decode b_Mo_goOn 103 = .ok (.getfield 522, 3) := by decide +kernel
theorem d_Mo_goOn_106 : decode b_Mo_goOn 106 = .ok (.getfield 492, 3) := by decide +kernel
theorem d_Mo_goOn_109 : decode b_Mo_goOn 109 = .ok (.iload 4, 2) := by decide +kernel
theorem d_Mo_goOn_111 : decode b_Mo_goOn 111 = .ok (.iadd, 1) := by decide +kernel
theorem d_Mo_goOn_112 : decode b_Mo_goOn 112 = .ok (.iconst 3, 1) := by decide +kernel
theorem d_Mo_goOn_113 : decode b_Mo_goOn 113 = .ok (.irem, 1) := by decide +kernel
theorem d_Mo_goOn_114 : decode b_Mo_goOn 114 = .ok (.goto 5, 3) := by decide +kernel
theorem d_Mo_goOn_117 : decode b_Mo_goOn 117 = .ok (.bipush (-2), 2) := by decide +kernel
theorem d_Mo_goOn_119 : decode b_Mo_goOn 119 = .ok (.istore_n 3, 1) := by decide +kernel
theorem d_Mo_goOn_120 : decode b_Mo_goOn 120 = .ok (.iinc 4 1, 3) := by decide +kernel
theorem d_Mo_goOn_123 : decode b_Mo_goOn 123 = .ok (.goto (-50), 3) := by decide +kernel
theorem d_Mo_goOn_126 : decode b_Mo_goOn 126 = .ok (.iload_n 3, 1) := by decide +kernel
theorem d_Mo_goOn_127 : decode b_Mo_goOn 127 = .ok (.ifCond .ge 5, 3) := by decide +kernel
theorem d_Mo_goOn_130 : decode b_Mo_goOn 130 = .ok (.iconst 3, 1) := by decide +kernel
theorem d_Mo_goOn_131 : decode b_Mo_goOn 131 = .ok (.ireturn, 1) := by decide +kernel
theorem d_Mo_goOn_132 : decode b_Mo_goOn 132 = .ok (.aload_n 0, 1) := by decide +kernel
theorem d_Mo_goOn_133 : decode b_Mo_goOn 133 = .ok (.getfield 522, 3) := by decide +kernel
theorem d_Mo_goOn_136 : decode b_Mo_goOn 136 = .ok (.iload_n 3, 1) := by decide +kernel
theorem d_Mo_goOn_137 : decode b_Mo_goOn 137 = .ok (.putfield 492, 3) := by decide +kernel
theorem d_Mo_goOn_140 : decode b_Mo_goOn 140 = .ok (.aload_n 0, 1) := by decide +kernel
theorem d_Mo_goOn_141 : decode b_Mo_goOn 141 = .ok (.getfield 522, 3) := by decide +kernel
theorem d_Mo_goOn_144 : decode b_Mo_goOn 144 = .ok (.aload_n 0, 1) := by decide +kernel
theorem d_Mo_goOn_145 : decode b_Mo_goOn 145 = .ok (.getfield 522, 3) := by decide +kernel
theorem d_Mo_goOn_148 : decode b_Mo_goOn 148 = .ok (.getfield 495, 3) := by decide +kernel
theorem d_Mo_goOn_151 : decode b_Mo_goOn 151 = .ok (.putfield 498, 3) := by decide +kernel
theorem d_Mo_goOn_154 : decode b_Mo_goOn 154 = .ok (.aload_n 0, 1) := by decide +kernel
theorem d_Mo_goOn_155 : decode b_Mo_goOn 155 = .ok (.getfield 522, 3) := by decide +kernel
theorem d_Mo_goOn_158 : decode b_Mo_goOn 158 = .ok (.getfield 406, 3) := by decide +kernel
theorem d_Mo_goOn_161 : decode b_Mo_goOn 161 = .ok (.iload_n 3, 1) := by decide +kernel
theorem d_Mo_goOn_162 : decode b_Mo_goOn 162 = .ok (.aaload, 1) := by decide +kernel
theorem d_Mo_goOn_163 : decode b_Mo_goOn 163 = .ok (.iconst 0, 1) := by decide +kernel
theorem d_Mo_goOn_164 : decode b_Mo_goOn 164 = .ok (.putfield 489, 3) := by decide +kernel
theorem d_Mo_goOn_167 : decode b_Mo_goOn 167 = .ok (.aload_n 0, 1) := by decide +kernel
theorem d_Mo_goOn_168 : decode b_Mo_goOn 168 = .ok (.aload_n 0, 1) := by decide +kernel
theorem d_Mo_goOn_169 : decode b_Mo_goOn 169 = .ok (.getfield 522, 3) := by decide +kernel
theorem d_Mo_goOn_172 : decode b_Mo_goOn 172 = .ok (.getfield 492, 3) := by decide +kernel
theorem d_Mo_goOn_175 : decode b_Mo_goOn 175 = .ok (.putfield 908, 3) := by decide +kernel
theorem d_Mo_goOn_178 : decode b_Mo_goOn 178 = .ok (.aload_n 0, 1) := by decide +kernel
theorem d_Mo_goOn_179 : decode b_Mo_goOn 179 = .ok (.aload_n 0, 1) := by decide +kernel
theorem d_Mo_goOn_180 : decode b_Mo_goOn 180 = .ok (.getfield 522, 3) := by decide +kernel
theorem d_Mo_goOn_183 : decode b_Mo_goOn 183 = .ok (.getfield 406, 3) := by decide +kernel
theorem d_Mo_goOn_186 : decode b_Mo_goOn 186 = .ok (.aload_n 0, 1) := by decide +kernel
theorem d_Mo_goOn_187 : decode b_Mo_goOn 187 = .ok (.getfield 908, 3) := by decide +kernel
theorem d_Mo_goOn_190 : decode b_Mo_goOn 190 = .ok (.aaload, 1) := by decide +kernel
theorem d_Mo_goOn_191 : decode b_Mo_goOn 191 = .ok (.putfield 917, 3) := by decide +kernel
theorem d_Mo_goOn_194 : decode b_Mo_goOn 194 = .ok (.aload_n 0, 1) := by decide +kernel
theorem d_Mo_goOn_195 : decode b_Mo_goOn 195 = .ok (.invokevirtual 1109, 3) := by decide +kernel
theorem d_Mo_goOn_198 : decode b_Mo_goOn 198 = .ok (.istore_n 3, 1) := by decide +kernel
theorem d_Mo_goOn_199 : decode b_Mo_goOn 199 = .ok (.iload_n 3, 1) := by decide +kernel
theorem d_Mo_goOn_200 : decode b_Mo_goOn 200 = .ok (.iconst 1, 1) := by decide +kernel
theorem d_Mo_goOn_201 : decode b_Mo_goOn 201 = .ok (.if_icmp .ne 26, 3) := by decide +kernel
theorem d_Mo_goOn_204 : decode b_Mo_goOn 204 = .ok (.aload_n 0, 1) := by decide +kernel
theorem d_Mo_goOn_205 : decode b_Mo_goOn 205 = .ok (.dup, 1) := by decide +kernel
theorem d_Mo_goOn_206 : decode b_Mo_goOn 206 = .ok (.getfield 1099, 3) := by decide +kernel
theorem d_Mo_goOn_209 : decode b_Mo_goOn 209 = .ok (.iconst 1, 1) := by decide +kernel
theorem d_Mo_goOn_210 : decode b_Mo_goOn 210 = .ok (.iadd, 1) := by decide +kernel
theorem d_Mo_goOn_211 : decode b_Mo_goOn 211 = .ok (.putfield 1099, 3) := by decide +kernel
theorem d_Mo_goOn_214 : decode b_Mo_goOn 214 = .ok (.aload_n 0, 1) := by decide +kernel
theorem d_Mo_goOn_215 : decode b_Mo_goOn 215 = .ok (.getfield 522, 3) := by decide +kernel
theorem d_Mo_goOn_218 : decode b_Mo_goOn 218 = .ok (.dup, 1) := by decide +kernel
theorem d_Mo_goOn_219 : decode b_Mo_goOn 219 = .ok (.getfield 498, 3) := by decide +kernel
theorem d_Mo_goOn_222 : decode b_Mo_goOn 222 = .ok (.iconst 1, 1) := by decide +kernel
theorem d_Mo_goOn_223 : decode b_Mo_goOn 223 = .ok (.isub, 1) := by decide +kernel
theorem d_Mo_goOn_224 : decode b_Mo_goOn 224 = .ok (.putfield 498, 3) := by decide +kernel
theorem d_Mo_goOn_227 : decode b_Mo_goOn 227 = .ok (.aload_n 0, 1) := by decide +kernel
theorem d_Mo_goOn_228 : decode b_Mo_goOn 228 = .ok (.getfield 917, 3) := by decide +kernel
theorem d_Mo_goOn_231 : decode b_Mo_goOn 231 = .ok (.iload_n 3, 1) := by decide +kernel
theorem d_Mo_goOn_232 : decode b_Mo_goOn 232 = .ok (.iconst 2, 1) := by decide +kernel
theorem d_Mo_goOn_233 : decode b_Mo_goOn 233 = .ok (.if_icmp .ne 7, 3) := by decide +kernel
theorem d_Mo_goOn_236 : decode b_Mo_goOn 236 = .ok (.iconst 1, 1) := by decide +kernel
theorem d_Mo_goOn_237 : decode b_Mo_goOn 237 = .ok (.goto 4, 3) := by decide +kernel
theorem d_Mo_goOn_240 : decode b_Mo_goOn 240 = .ok (.iconst 0, 1) := by decide +kernel
theorem d_Mo_goOn_241 : decode b_Mo_goOn 241 = .ok (.putfield 489, 3) := by decide +kernel
theorem d_Mo_goOn_244 : decode b_Mo_goOn 244 = .ok (.aload_n 0, 1) := by decide +kernel
theorem d_Mo_goOn_245 : decode b_Mo_goOn 245 = .ok (.getfield 917, 3) := by decide +kernel
theorem d_Mo_goOn_248 : decode b_Mo_goOn 248 = .ok (.getfield 486, 3) := by decide +kernel
theorem d_Mo_goOn_251 : decode b_Mo_goOn 251 = .ok (.iconst 1, 1) := by decide +kernel
theorem d_Mo_goOn_252 : decode b_Mo_goOn 252 = .ok (.if_icmp .eq 11, 3) := by decide +kernel
theorem d_Mo_goOn_255 : decode b_Mo_goOn 255 = .ok (.aload_n 0, 1) := by decide +kernel
theorem d_Mo_goOn_256 : decode b_Mo_goOn 256 = .ok (.getfield 522, 3) := by decide +kernel
theorem d_Mo_goOn_259 : decode b_Mo_goOn 259 = .ok (.iconst 0, 1) := by decide +kernel
theorem d_Mo_goOn_260 : decode b_Mo_goOn 260 = .ok (.putfield 498, 3) := by decide +kernel
theorem d_Mo_goOn_263 : decode b_Mo_goOn 263 = .ok (.goto (-258), 3) := by decide +kernel
theorem d_Mo_goOn_266 : decode b_Mo_goOn 266 = .ok (.iconst 0, 1) := by decide +kernel
theorem d_Mo_goOn_267 : decode b_Mo_goOn 267 = .ok (.ireturn, 1) := by decide +kernel
abbrev ra_Mo_goOn (mc ms : Nat) : Room := { frames := 474, cells := mc, slots := ms, locals := 11543 }
def wja_Mo_goOn_263 (mc ms : Nat) (Post : Ly → St → Int32 → Nat → Nat → Prop) (K_5 : Ly → St → Nat → Nat → Int32 → Prop) (a0 : Nat) (y_j263 : Ly) (s_j263 : St) (d_j263 e_j263 : Nat) (x1j263 : Int32) : Prop := (d_j263 ≤ mc ∧ e_j263 ≤ ms) ∧ K_5 y_j263 s_j263 d_j263 e_j263 x1j263
def wja_Mo_goOn_241 (mc ms : Nat) (Post : Ly → St → Int32 → Nat → Nat → Prop) (K_5 : Ly → St → Nat → Nat → Int32 → Prop) (a0 : Nat) (y_j241 : Ly) (s_j241 : St) (d_j241 e_j241 : Nat) (x1j241 : Int32) (z0j241 : Nat) (z1j241 : Int32) : Prop := (d_j241 ≤ mc ∧ e_j241 ≤ ms) ∧ cl z0j241 = 12 ∧ nb z1j241 ∧ xP (uV s_j241 z0j241 1 z1j241) (fun s_34 : St => ∃ b_35 : Nat, sO s_34 a0 46 = some b_35 ∧ cl b_35 = 12 ∧ (((sV s_34 b_35 0) = 1 → wja_Mo_goOn_263 mc ms Post K_5 a0 y_j241 s_34 d_j241 e_j241 x1j241) ∧ (¬ ((sV s_34 b_35 0) = 1) → ∃ b_38 : Nat, sO s_34 a0 45 = some b_38 ∧ cl b_38 = 13 ∧ xP (uV s_34 b_38 64 0) (fun s_41 : St => wja_Mo_goOn_263 mc ms Post K_5 a0 y_j241 s_41 d_j241 e_j241 x1j241))))
def wja_Mo_goOn_227 (mc ms : Nat) (Post : Ly → St → Int32 → Nat → Nat → Prop) (K_5 : Ly → St → Nat → Nat → Int32 → Prop) (a0 : Nat) (y_j227 : Ly) (s_j227 : St) (d_j227 e_j227 : Nat) (x1j227 : Int32) (x3j227 : Int32) : Prop := (d_j227 ≤ mc ∧ e_j227 ≤ ms) ∧ ∃ b_30 : Nat, sO s_j227 a0 46 = some b_30 ∧ cl b_30 = 12 ∧ ((¬ x3j227 = 2 → wja_Mo_goOn_241 mc ms Post K_5 a0 y_j227 s_j227 d_j227 e_j227 x1j227 b_30 0) ∧ (x3j227 = 2 → wja_Mo_goOn_241 mc ms Post K_5 a0 y_j227 s_j227 d_j227 e_j227 x1j227 b_30 1))
def wja_Mo_goOn_167 (mc ms : Nat) (Post : Ly → St → Int32 → Nat → Nat → Prop) (K_5 : Ly → St → Nat → Nat → Int32 → Prop) (a0 : Nat) (y_j167 : Ly) (s_j167 : St) (d_j167 e_j167 : Nat) (x1j167 : Int32) : Prop := (d_j167 ≤ mc ∧ e_j167 ≤ ms) ∧ ∃ b_12 : Nat, sO s_j167 a0 45 = some b_12 ∧ cl b_12 = 13 ∧ xP (uV s_j167 a0 47 (sV s_j167 b_12 63)) (fun s_15 : St => ∃ b_16 : Nat, sO s_15 a0 45 = some b_16 ∧ cl b_16 = 13 ∧ xQ y_j167 b_16 62 (sV s_15 a0 47) (fun b_19 : Nat => xP (uO s_15 a0 46 (some b_19)) (fun s_21 : St => ∃ mc_27 ms_28 : Nat, (d_j167 + mc_27 ≤ mc ∧ e_j167 + ms_28 ≤ ms) ∧ wa_Mo_advance mc_27 ms_28 y_j167 (fun (y_24 : Ly) (s_23 : St) (r_22 : Int32) (d_25 e_26 : Nat) => (d_j167 + d_25 ≤ mc ∧ e_j167 + e_26 ≤ ms) ∧ ((¬ r_22 = 1 → wja_Mo_goOn_227 mc ms Post K_5 a0 y_24 s_23 (d_j167 + d_25) (e_j167 + e_26) x1j167 r_22) ∧ (r_22 = 1 → xP (uV s_23 a0 83 ((sV s_23 a0 83) + 1)) (fun s_42 : St => ∃ b_43 : Nat, sO s_42 a0 45 = some b_43 ∧ cl b_43 = 13 ∧ xP (uV s_42 b_43 64 ((sV s_42 b_43 64) - 1)) (fun s_46 : St => wja_Mo_goOn_227 mc ms Post K_5 a0 y_24 s_46 (d_j167 + d_25) (e_j167 + e_26) x1j167 r_22))))) s_21 a0)))
def wja_Mo_goOn_126 (mc ms : Nat) (Post : Ly → St → Int32 → Nat → Nat → Prop) (K_5 : Ly → St → Nat → Nat → Int32 → Prop) (a0 : Nat) (y_j126 : Ly) (s_j126 : St) (d_j126 e_j126 : Nat) (x1j126 : Int32) (x3j126 : Int32) : Prop := (d_j126 ≤ mc ∧ e_j126 ≤ ms) ∧ ((0 ≤ x3j126 → ∃ b_47 : Nat, sO s_j126 a0 45 = some b_47 ∧ cl b_47 = 13 ∧ xP (uV s_j126 b_47 63 x3j126) (fun s_50 : St => ∃ b_51 : Nat, sO s_50 a0 45 = some b_51 ∧ cl b_51 = 13 ∧ xP (uV s_50 b_51 64 (sV s_50 b_51 65)) (fun s_54 : St => ∃ b_55 : Nat, sO s_54 a0 45 = some b_55 ∧ cl b_55 = 13 ∧ xQ y_j126 b_55 62 x3j126 (fun b_58 : Nat => nb 0 ∧ xP (uV s_54 b_58 1 0) (fun s_61 : St => wja_Mo_goOn_167 mc ms Post K_5 a0 y_j126 s_61 d_j126 e_j126 x1j126))))) ∧ (¬ (0 ≤ x3j126) → Post y_j126 s_j126 3 d_j126 e_j126))
def wja_Mo_goOn_119 (mc ms : Nat) (Post : Ly → St → Int32 → Nat → Nat → Prop) (K_5 : Ly → St → Nat → Nat → Int32 → Prop) (K_73 : Ly → St → Nat → Nat → Int32 → Int32 → Int32 → Prop) (a0 : Nat) (y_j119 : Ly) (s_j119 : St) (d_j119 e_j119 : Nat) (x1j119 : Int32) (x4j119 : Int32) (z0j119 : Int32) : Prop := (d_j119 ≤ mc ∧ e_j119 ≤ ms) ∧ K_73 y_j119 s_j119 d_j119 e_j119 x1j119 z0j119 (x4j119 + 1)
def wba_Mo_goOn_73 (mc ms : Nat) (Post : Ly → St → Int32 → Nat → Nat → Prop) (K_5 : Ly → St → Nat → Nat → Int32 → Prop) (K_73 : Ly → St → Nat → Nat → Int32 → Int32 → Int32 → Prop) (a0 : Nat) (y_h73 : Ly) (s_h73 : St) (d_h73 e_h73 : Nat) (x1h73 : Int32) (x3h73 : Int32) (x4h73 : Int32) : Prop := (d_h73 ≤ mc ∧ e_h73 ≤ ms) ∧ ((3 < x4h73 → wja_Mo_goOn_126 mc ms Post K_5 a0 y_h73 s_h73 d_h73 e_h73 x1h73 x3h73) ∧ (¬ (3 < x4h73) → ((0 ≤ x3h73 → wja_Mo_goOn_126 mc ms Post K_5 a0 y_h73 s_h73 d_h73 e_h73 x1h73 x3h73) ∧ (¬ (0 ≤ x3h73) → ∃ b_62 : Nat, sO s_h73 a0 45 = some b_62 ∧ cl b_62 = 13 ∧ wu_Mo_canGo y_h73 (fun (s_66 : St) (r_65 : Int32) => ((r_65 = 0 → wja_Mo_goOn_119 mc ms Post K_5 K_73 a0 y_h73 s_66 d_h73 e_h73 x1h73 x4h73 (-2)) ∧ (¬ (r_65 = 0) → ∃ b_67 : Nat, sO s_66 a0 45 = some b_67 ∧ cl b_67 = 13 ∧ wja_Mo_goOn_119 mc ms Post K_5 K_73 a0 y_h73 s_66 d_h73 e_h73 x1h73 x4h73 (((sV s_66 b_67 63) + x4h73) - ((sV s_66 b_67 63) + x4h73) / 3 * 3)))) s_h73 a0 (((sV s_h73 b_62 63) + x4h73) - ((sV s_h73 b_62 63) + x4h73) / 3 * 3)))))
def wla_Mo_goOn_73 (mc ms : Nat) (Post : Ly → St → Int32 → Nat → Nat → Prop) (K_5 : Ly → St → Nat → Nat → Int32 → Prop) (a0 : Nat) (y_h73 : Ly) (s_h73 : St) (d_h73 e_h73 : Nat) (x1h73 : Int32) (x3h73 : Int32) (x4h73 : Int32) : Prop := ∃ (I : Ly → St → Nat → Nat → Int32 → Int32 → Int32 → Prop) (μ : Ly → St → Nat → Nat → Int32 → Int32 → Int32 → Nat), I y_h73 s_h73 d_h73 e_h73 x1h73 x3h73 x4h73 ∧ ∀ (u1 : Ly) (u2 : St) (u3 u4 : Nat) (t0 : Int32) (t1 : Int32) (t2 : Int32), I u1 u2 u3 u4 t0 t1 t2 → wba_Mo_goOn_73 mc ms Post K_5 (fun z1 z2 z3 z4 t0q t1q t2q => I z1 z2 z3 z4 t0q t1q t2q ∧ μ z1 z2 z3 z4 t0q t1q t2q < μ u1 u2 u3 u4 t0 t1 t2) a0 u1 u2 u3 u4 t0 t1 t2
def wja_Mo_goOn_67 (mc ms : Nat) (Post : Ly → St → Int32 → Nat → Nat → Prop) (K_5 : Ly → St → Nat → Nat → Int32 → Prop) (a0 : Nat) (y_j67 : Ly) (s_j67 : St) (d_j67 e_j67 : Nat) (x1j67 : Int32) : Prop := (d_j67 ≤ mc ∧ e_j67 ≤ ms) ∧ wla_Mo_goOn_73 mc ms Post K_5 a0 y_j67 s_j67 d_j67 e_j67 x1j67 (-2) 1
def wba_Mo_goOn_5 (mc ms : Nat) (Post : Ly → St → Int32 → Nat → Nat → Prop) (K_5 : Ly → St → Nat → Nat → Int32 → Prop) (a0 : Nat) (y_h5 : Ly) (s_h5 : St) (d_h5 e_h5 : Nat) (x1h5 : Int32) : Prop := (d_h5 ≤ mc ∧ e_h5 ≤ ms) ∧ ∃ b_2 : Nat, sO s_h5 a0 45 = some b_2 ∧ cl b_2 = 13 ∧ wu_Mo_isAnyOn y_h5 (fun (s_6 : St) (r_5 : Int32) => ((r_5 = 0 → Post y_h5 s_6 0 d_h5 e_h5) ∧ (¬ (r_5 = 0) → ((¬ (sV s_6 a0 83) = x1h5 → ∃ b_7 : Nat, sO s_6 a0 45 = some b_7 ∧ cl b_7 = 13 ∧ xQ y_h5 b_7 62 (sV s_6 b_7 63) (fun b_10 : Nat => (((sV s_6 b_7 64) = 0 → wja_Mo_goOn_67 mc ms Post K_5 a0 y_h5 s_6 d_h5 e_h5 x1h5) ∧ (¬ ((sV s_6 b_7 64) = 0) → ((¬ (sV s_6 b_10 0) = 1 → wja_Mo_goOn_67 mc ms Post K_5 a0 y_h5 s_6 d_h5 e_h5 x1h5) ∧ ((sV s_6 b_10 0) = 1 → (((sV s_6 b_10 1) = 0 → wja_Mo_goOn_167 mc ms Post K_5 a0 y_h5 s_6 d_h5 e_h5 x1h5) ∧ (¬ ((sV s_6 b_10 1) = 0) → wja_Mo_goOn_67 mc ms Post K_5 a0 y_h5 s_6 d_h5 e_h5 x1h5)))))))) ∧ ((sV s_6 a0 83) = x1h5 → Post y_h5 s_6 1 d_h5 e_h5))))) s_h5 a0 b_2
def wla_Mo_goOn_5 (mc ms : Nat) (Post : Ly → St → Int32 → Nat → Nat → Prop) (a0 : Nat) (y_h5 : Ly) (s_h5 : St) (d_h5 e_h5 : Nat) (x1h5 : Int32) : Prop := ∃ (I : Ly → St → Nat → Nat → Int32 → Prop) (μ : Ly → St → Nat → Nat → Int32 → Nat), I y_h5 s_h5 d_h5 e_h5 x1h5 ∧ ∀ (u1 : Ly) (u2 : St) (u3 u4 : Nat) (t0 : Int32), I u1 u2 u3 u4 t0 → wba_Mo_goOn_5 mc ms Post (fun z1 z2 z3 z4 t0q => I z1 z2 z3 z4 t0q ∧ μ z1 z2 z3 z4 t0q < μ u1 u2 u3 u4 t0) a0 u1 u2 u3 u4 t0
def wa_Mo_goOn (mc ms : Nat) (y : Ly) (Post : Ly → St → Int32 → Nat → Nat → Prop) (σ : St) (a0 : Nat) (v1 : Int32) : Prop := xP (uV σ a0 83 0) (fun s_1 : St => wla_Mo_goOn_5 mc ms Post a0 y s_1 0 0 v1)
set_option maxHeartbeats 4000000 in
set_option maxRecDepth 100000 in
theorem ca_Mo_goOn (l : Launch) (D : va_G) (g : Nat → ClassId) (ad : Nat → Nat) (mc ms : Nat) (y : Ly) (Post : Ly → St → Int32 → Nat → Nat → Prop) (σ : St) (a0 : Nat) (v1 : Int32) (sz uz : Nat) (h_a0 : cl a0 = 14) (h : wa_Mo_goOn mc ms y Post σ a0 v1) : Met l y_Mo_goOn (mw y_Mo_goOn b_Mo_goOn 5 (some .int)) (ra_Mo_goOn mc ms) (PCu g D [] [.ref (ad a0), .int v1] sz uz (ws g ad y σ)) (va_Qi (fun (r : Int32) (u : Ly × St × Nat × Nat) => Post u.1 u.2.1 r u.2.2.1 u.2.2.2) (QU D (va_A (ws g ad y σ) sz) (fun u => ws g ad u.1 u.2.1) sz uz (fun u => u.2.2.1) (fun u => u.2.2.2)) (va_A (ws g ad y σ) sz)) mc ms (va_A (ws g ad y σ) sz) := by
  refine ofIu (by decide +kernel) (Nat.le_of_ble_eq_true rfl) ?_
  intro p e s m args below meth c A Q ls H locs G hsz hP hD hS hl hret
  subst hsz
  have hl : lv_has ls 5 [(0, .ref (ad a0)), (1, .int v1)] := hl
  have hd : 0 ≤ mc ∧ 0 ≤ ms := ⟨Nat.zero_le _, Nat.zero_le _⟩
  unfold wa_Mo_goOn at h
  refine lv_aload_n G.1 G.2.1 d_Mo_goOn_0 rfl (lv_at hl 0 rfl) ?_
  refine lv_iconst (v := 0) G.1 G.2.1 d_Mo_goOn_1 (by decide) ?_
  refine upf G hP hD hS h 83 putV h_a0 iMo tMo tMo_ok nMo rfl (by decide) rfl q3147 rfl rfl fV rfl rfl d_Mo_goOn_2 (fun s_1 H locs h hP hD hS => ?_)
  unfold wla_Mo_goOn_5 at h
  obtain ⟨I_5, μ_5, hI_5, hB_5⟩ := h
  have L_5 : ∀ (n_5 : Nat) (y_h5 : Ly) (s_h5 : St) (d_h5 e_h5 : Nat) (x1h5 : Int32), μ_5 y_h5 s_h5 d_h5 e_h5 x1h5 < n_5 → I_5 y_h5 s_h5 d_h5 e_h5 x1h5 → ∀ (H : Heap) (locs : List Loc), va_P D CL (ws g ad y_h5 s_h5) H → va_D A (ws g ad y_h5 s_h5) → va_S A s.heap H locs → ∀ ls, lv_has ls 5 [(0, .ref (ad a0)), (1, .int x1h5)] → W p l e (ra_Mo_goOn mc ms) s m args below meth c H locs d_h5 e_h5 Q (F0 m 5 ls []) := by
    intro n_5
    induction n_5 with
    | zero => intro y_h5 s_h5 d_h5 e_h5 x1h5 hμ; exact absurd hμ (Nat.not_lt_zero _)
    | succ n_5 ih_5 =>
      intro y_h5 s_h5 d_h5 e_h5 x1h5 hμ_5 hJ H locs hP hD hS ls hl
      obtain ⟨K_5, hK_5, h⟩ : ∃ K : Ly → St → Nat → Nat → Int32 → Prop, (∀ z1 z2 z3 z4 (t0 : Int32), K z1 z2 z3 z4 t0 → I_5 z1 z2 z3 z4 t0 ∧ μ_5 z1 z2 z3 z4 t0 < μ_5 y_h5 s_h5 d_h5 e_h5 x1h5) ∧ wba_Mo_goOn_5 mc ms Post K a0 y_h5 s_h5 d_h5 e_h5 x1h5 := ⟨_, fun _ _ _ _ _ h => h, hB_5 y_h5 s_h5 d_h5 e_h5 x1h5 hJ⟩
      unfold wba_Mo_goOn_5 at h
      obtain ⟨hd, h⟩ := h
      refine lv_aload_n G.1 G.2.1 d_Mo_goOn_5 rfl (lv_at hl 0 rfl) ?_
      refine lv_aload_n G.1 G.2.1 d_Mo_goOn_6 rfl (lv_at hl 0 rfl) ?_
      obtain ⟨b_2, e_3, c_4, h⟩ := h
      refine ugf (v := .ref (ad b_2)) G hP h_a0 iMo rfl 45 (by decide) rfl q3109 rfl (by show va_rf ((sO s_h5 a0 45).map ad) = _; rw [e_3]; rfl) d_Mo_goOn_7 ?_
      refine ucVi (As := [.ref (ad b_2)]) (rest := []) G hP hD hS (cu_Mo_isAnyOn l D g ad y_h5 _ s_h5 a0 b_2 H.size h_a0 c_4 h) w9_Mo_isAnyOn q3826 ⟨Nat.le_of_ble_eq_true rfl, Nat.le_of_ble_eq_true rfl⟩ rfl rfl h_a0 (q := (RMo, TMo, 131)) rfl rfl hl.1 rfl (Nat.le_of_ble_eq_true rfl) rfl hd d_Mo_goOn_10 (fun r_5 s_6 H locs h hP hD hS => ?_)
      refine lv_if_eq (tgt := 266) G.1 G.2.1 d_Mo_goOn_13 (by decide) (fun c13 => ?_) (fun c13 => ?_)
      · skip
        have h := h.1 c13
        refine lv_iconst (v := 0) G.1 G.2.1 d_Mo_goOn_266 (by decide) ?_
        exact hret _ (y_h5, s_6, d_h5, e_h5) _ _ _ _ _ ls h hP hD hS (Nat.le_refl _) (Nat.le_refl _) hd.1 hd.2 d_Mo_goOn_267
      · skip
        have h := h.2 c13
        refine lv_aload_n G.1 G.2.1 d_Mo_goOn_16 rfl (lv_at hl 0 rfl) ?_
        refine ugf (v := .int (sV s_6 a0 83)) G hP h_a0 iMo rfl 83 (by decide) rfl q3147 rfl rfl d_Mo_goOn_17 ?_
        refine lv_iload_n G.1 G.2.1 d_Mo_goOn_20 rfl (lv_at hl 1 rfl) ?_
        refine lv_icmp_ne (tgt := 26) G.1 G.2.1 d_Mo_goOn_21 (by decide) (fun c21 => ?_) (fun c21 => ?_)
        · skip
          have h := h.1 c21
          refine lv_aload_n G.1 G.2.1 d_Mo_goOn_26 rfl (lv_at hl 0 rfl) ?_
          obtain ⟨b_7, e_8, c_9, h⟩ := h
          refine ugf (v := .ref (ad b_7)) G hP h_a0 iMo rfl 45 (by decide) rfl q3109 rfl (by show va_rf ((sO s_6 a0 45).map ad) = _; rw [e_8]; rfl) d_Mo_goOn_27 ?_
          refine W.eq (g2 := F0 m 30 ls [.ref (ad b_7)]) rfl ?_
          refine ugfN (v := .ref (yP y_h5 b_7 62)) G hP c_9 iMw rfl 62 (by decide) rfl q2820 rfl rfl d_Mo_goOn_30 ?_
          refine lv_aload_n G.1 G.2.1 d_Mo_goOn_33 rfl (lv_at hl 0 rfl) ?_
          refine ugf (v := .ref (ad b_7)) G hP h_a0 iMo rfl 45 (by decide) rfl q3109 rfl (by show va_rf ((sO s_6 a0 45).map ad) = _; rw [e_8]; rfl) d_Mo_goOn_34 ?_
          refine ugfN (v := .int (sV s_6 b_7 63)) G hP c_9 iMw rfl 63 (by decide) rfl q2821 rfl rfl d_Mo_goOn_37 ?_
          refine uqald G hP (kdp c_9 rfl) (typ c_9 rfl) rfl h d_Mo_goOn_40 (fun b_10 n_11 h => ?_)
          refine lv_astore_n (lv' := [(2, .ref (ad b_10)), (0, .ref (ad a0)), (1, .int x1h5)]) G.1 G.2.1 d_Mo_goOn_41 rfl hl (by decide) rfl (fun ls hl => ?_)
          refine lv_aload_n G.1 G.2.1 d_Mo_goOn_42 rfl (lv_at hl 1 rfl) ?_
          refine ugf (v := .ref (ad b_7)) G hP h_a0 iMo rfl 45 (by decide) rfl q3109 rfl (by show va_rf ((sO s_6 a0 45).map ad) = _; rw [e_8]; rfl) d_Mo_goOn_43 ?_
          refine ugfN (v := .int (sV s_6 b_7 64)) G hP c_9 iMw rfl 64 (by decide) rfl q2822 rfl rfl d_Mo_goOn_46 ?_
          have J_167 : ∀ (y_j167 : Ly) (s_j167 : St) (d_j167 e_j167 : Nat) (x1j167 : Int32) (H : Heap) (locs : List Loc), wja_Mo_goOn_167 mc ms Post K_5 a0 y_j167 s_j167 d_j167 e_j167 x1j167 → va_P D CL (ws g ad y_j167 s_j167) H → va_D A (ws g ad y_j167 s_j167) → va_S A s.heap H locs → ∀ ls, lv_has ls 5 [(0, .ref (ad a0)), (1, .int x1j167)] → W p l e (ra_Mo_goOn mc ms) s m args below meth c H locs d_j167 e_j167 Q (F0 m 167 ls []) := by
            intro y_j167 s_j167 d_j167 e_j167 x1j167 H locs h hP hD hS ls hl
            unfold wja_Mo_goOn_167 at h
            obtain ⟨hd, h⟩ := h
            refine lv_aload_n G.1 G.2.1 d_Mo_goOn_167 rfl (lv_at hl 0 rfl) ?_
            refine lv_aload_n G.1 G.2.1 d_Mo_goOn_168 rfl (lv_at hl 0 rfl) ?_
            obtain ⟨b_12, e_13, c_14, h⟩ := h
            refine ugf (v := .ref (ad b_12)) G hP h_a0 iMo rfl 45 (by decide) rfl q3109 rfl (by show va_rf ((sO s_j167 a0 45).map ad) = _; rw [e_13]; rfl) d_Mo_goOn_169 ?_
            refine ugfN (v := .int (sV s_j167 b_12 63)) G hP c_14 iMw rfl 63 (by decide) rfl q2821 rfl rfl d_Mo_goOn_172 ?_
            refine upf G hP hD hS h 47 putV h_a0 iMo tMo tMo_ok nMo rfl (by decide) rfl q3111 rfl rfl fV rfl rfl d_Mo_goOn_175 (fun s_15 H locs h hP hD hS => ?_)
            refine lv_aload_n G.1 G.2.1 d_Mo_goOn_178 rfl (lv_at hl 0 rfl) ?_
            refine lv_aload_n G.1 G.2.1 d_Mo_goOn_179 rfl (lv_at hl 0 rfl) ?_
            obtain ⟨b_16, e_17, c_18, h⟩ := h
            refine ugf (v := .ref (ad b_16)) G hP h_a0 iMo rfl 45 (by decide) rfl q3109 rfl (by show va_rf ((sO s_15 a0 45).map ad) = _; rw [e_17]; rfl) d_Mo_goOn_180 ?_
            refine ugfN (v := .ref (yP y_j167 b_16 62)) G hP c_18 iMw rfl 62 (by decide) rfl q2820 rfl rfl d_Mo_goOn_183 ?_
            refine lv_aload_n G.1 G.2.1 d_Mo_goOn_186 rfl (lv_at hl 0 rfl) ?_
            refine ugf (v := .int (sV s_15 a0 47)) G hP h_a0 iMo rfl 47 (by decide) rfl q3111 rfl rfl d_Mo_goOn_187 ?_
            refine W.eq (g2 := F0 m 190 ls [.int (sV s_15 a0 47), .ref (yP y_j167 b_16 62), .ref (ad a0)]) rfl ?_
            refine uqald G hP (kdp c_18 rfl) (typ c_18 rfl) rfl h d_Mo_goOn_190 (fun b_19 n_20 h => ?_)
            refine upf G hP hD hS h 46 putO h_a0 iMo tMo tMo_ok nMo rfl (by decide) rfl q3110 rfl rfl fO rfl rfl d_Mo_goOn_191 (fun s_21 H locs h hP hD hS => ?_)
            refine lv_aload_n G.1 G.2.1 d_Mo_goOn_194 rfl (lv_at hl 0 rfl) ?_
            obtain ⟨mc_27, ms_28, hr_29, h⟩ := h
            refine uaVi (As := []) (rest := []) G hP hD hS (ca_Mo_advance l D g ad mc_27 ms_28 y_j167 _ s_21 a0 H.size (us H) h_a0 h) w9_Mo_advance q3847 ⟨Nat.le_of_ble_eq_true rfl, Nat.le_of_ble_eq_true rfl⟩ rfl rfl h_a0 (q := (RMo, TMo, 131)) rfl rfl hl.1 rfl (Nat.le_of_ble_eq_true rfl) rfl hr_29 d_Mo_goOn_195 (fun r_22 y_24 s_23 d_25 e_26 H locs h hP hD hS => ?_)
            obtain ⟨hd, h⟩ := h
            refine lv_istore_n (lv' := [(3, .int r_22), (0, .ref (ad a0)), (1, .int x1j167)]) G.1 G.2.1 d_Mo_goOn_198 rfl hl (by decide) rfl (fun ls hl => ?_)
            refine lv_iload_n G.1 G.2.1 d_Mo_goOn_199 rfl (lv_at hl 0 rfl) ?_
            refine lv_iconst (v := 1) G.1 G.2.1 d_Mo_goOn_200 (by decide) ?_
            have J_227 : ∀ (y_j227 : Ly) (s_j227 : St) (d_j227 e_j227 : Nat) (x1j227 : Int32) (x3j227 : Int32) (H : Heap) (locs : List Loc), wja_Mo_goOn_227 mc ms Post K_5 a0 y_j227 s_j227 d_j227 e_j227 x1j227 x3j227 → va_P D CL (ws g ad y_j227 s_j227) H → va_D A (ws g ad y_j227 s_j227) → va_S A s.heap H locs → ∀ ls, lv_has ls 5 [(0, .ref (ad a0)), (1, .int x1j227), (3, .int x3j227)] → W p l e (ra_Mo_goOn mc ms) s m args below meth c H locs d_j227 e_j227 Q (F0 m 227 ls []) := by
              intro y_j227 s_j227 d_j227 e_j227 x1j227 x3j227 H locs h hP hD hS ls hl
              unfold wja_Mo_goOn_227 at h
              obtain ⟨hd, h⟩ := h
              refine lv_aload_n G.1 G.2.1 d_Mo_goOn_227 rfl (lv_at hl 0 rfl) ?_
              obtain ⟨b_30, e_31, c_32, h⟩ := h
              refine ugf (v := .ref (ad b_30)) G hP h_a0 iMo rfl 46 (by decide) rfl q3110 rfl (by show va_rf ((sO s_j227 a0 46).map ad) = _; rw [e_31]; rfl) d_Mo_goOn_228 ?_
              refine lv_iload_n G.1 G.2.1 d_Mo_goOn_231 rfl (lv_at hl 2 rfl) ?_
              refine lv_iconst (v := 2) G.1 G.2.1 d_Mo_goOn_232 (by decide) ?_
              have J_241 : ∀ (y_j241 : Ly) (s_j241 : St) (d_j241 e_j241 : Nat) (x1j241 : Int32) (z0j241 : Nat) (z1j241 : Int32) (H : Heap) (locs : List Loc), wja_Mo_goOn_241 mc ms Post K_5 a0 y_j241 s_j241 d_j241 e_j241 x1j241 z0j241 z1j241 → va_P D CL (ws g ad y_j241 s_j241) H → va_D A (ws g ad y_j241 s_j241) → va_S A s.heap H locs → ∀ ls, lv_has ls 5 [(0, .ref (ad a0)), (1, .int x1j241)] → W p l e (ra_Mo_goOn mc ms) s m args below meth c H locs d_j241 e_j241 Q (F0 m 241 ls [.int z1j241, .ref (ad z0j241)]) := by
                intro y_j241 s_j241 d_j241 e_j241 x1j241 z0j241 z1j241 H locs h hP hD hS ls hl
                unfold wja_Mo_goOn_241 at h
                obtain ⟨hd, h⟩ := h
                obtain ⟨c_z0j241, h⟩ := h
                obtain ⟨n_33, h⟩ := h
                refine upfN G hP hD hS h 1 putV c_z0j241 iMr tMr tMr_ok nMr rfl (by decide) rfl q2988 rfl rfl fV (nb_n n_33) (nb_f n_33) d_Mo_goOn_241 (fun s_34 H locs h hP hD hS => ?_)
                refine lv_aload_n G.1 G.2.1 d_Mo_goOn_244 rfl (lv_at hl 0 rfl) ?_
                obtain ⟨b_35, e_36, c_37, h⟩ := h
                refine ugf (v := .ref (ad b_35)) G hP h_a0 iMo rfl 46 (by decide) rfl q3110 rfl (by show va_rf ((sO s_34 a0 46).map ad) = _; rw [e_36]; rfl) d_Mo_goOn_245 ?_
                refine ugfN (v := .int (sV s_34 b_35 0)) G hP c_37 iMr rfl 0 (by decide) rfl q2987 rfl rfl d_Mo_goOn_248 ?_
                refine lv_iconst (v := 1) G.1 G.2.1 d_Mo_goOn_251 (by decide) ?_
                have J_263 : ∀ (y_j263 : Ly) (s_j263 : St) (d_j263 e_j263 : Nat) (x1j263 : Int32) (H : Heap) (locs : List Loc), wja_Mo_goOn_263 mc ms Post K_5 a0 y_j263 s_j263 d_j263 e_j263 x1j263 → va_P D CL (ws g ad y_j263 s_j263) H → va_D A (ws g ad y_j263 s_j263) → va_S A s.heap H locs → ∀ ls, lv_has ls 5 [(0, .ref (ad a0)), (1, .int x1j263)] → W p l e (ra_Mo_goOn mc ms) s m args below meth c H locs d_j263 e_j263 Q (F0 m 263 ls []) := by
                  intro y_j263 s_j263 d_j263 e_j263 x1j263 H locs h hP hD hS ls hl
                  unfold wja_Mo_goOn_263 at h
                  obtain ⟨hd, h⟩ := h
                  refine lv_goto (tgt := 5) G.1 G.2.1 d_Mo_goOn_263 (by decide) ?_
                  have h := hK_5 y_j263 s_j263 d_j263 e_j263 x1j263 h
                  exact ih_5 y_j263 s_j263 d_j263 e_j263 x1j263 (Nat.lt_of_lt_of_le h.2 (Nat.le_of_lt_succ hμ_5)) h.1 H locs hP hD hS ls (lv_sub hl [0, 1] rfl)
                refine lv_icmp_eq (tgt := 263) G.1 G.2.1 d_Mo_goOn_252 (by decide) (fun c252 => ?_) (fun c252 => ?_)
                · skip
                  have h := h.1 c252
                  exact J_263 y_j241 s_34 d_j241 e_j241 x1j241 H locs h hP hD hS ls (lv_sub hl [0, 1] rfl)
                · skip
                  have h := h.2 c252
                  refine lv_aload_n G.1 G.2.1 d_Mo_goOn_255 rfl (lv_at hl 0 rfl) ?_
                  obtain ⟨b_38, e_39, c_40, h⟩ := h
                  refine ugf (v := .ref (ad b_38)) G hP h_a0 iMo rfl 45 (by decide) rfl q3109 rfl (by show va_rf ((sO s_34 a0 45).map ad) = _; rw [e_39]; rfl) d_Mo_goOn_256 ?_
                  refine lv_iconst (v := 0) G.1 G.2.1 d_Mo_goOn_259 (by decide) ?_
                  refine upfN G hP hD hS h 64 putV c_40 iMw tMw tMw_ok nMw rfl (by decide) rfl q2822 rfl rfl fV rfl rfl d_Mo_goOn_260 (fun s_41 H locs h hP hD hS => ?_)
                  exact J_263 y_j241 s_41 d_j241 e_j241 x1j241 H locs h hP hD hS ls (lv_sub hl [0, 1] rfl)
              refine lv_icmp_ne (tgt := 240) G.1 G.2.1 d_Mo_goOn_233 (by decide) (fun c233 => ?_) (fun c233 => ?_)
              · skip
                have h := h.1 c233
                refine lv_iconst (v := 0) G.1 G.2.1 d_Mo_goOn_240 (by decide) ?_
                exact J_241 y_j227 s_j227 d_j227 e_j227 x1j227 b_30 0 H locs h hP hD hS ls (lv_sub hl [0, 1] rfl)
              · skip
                have h := h.2 c233
                refine lv_iconst (v := 1) G.1 G.2.1 d_Mo_goOn_236 (by decide) ?_
                refine lv_goto (tgt := 241) G.1 G.2.1 d_Mo_goOn_237 (by decide) ?_
                exact J_241 y_j227 s_j227 d_j227 e_j227 x1j227 b_30 1 H locs h hP hD hS ls (lv_sub hl [0, 1] rfl)
            refine lv_icmp_ne (tgt := 227) G.1 G.2.1 d_Mo_goOn_201 (by decide) (fun c201 => ?_) (fun c201 => ?_)
            · skip
              have h := h.1 c201
              exact J_227 y_24 s_23 (d_j167 + d_25) (e_j167 + e_26) x1j167 r_22 H locs h hP hD hS ls (lv_sub hl [1, 2, 0] rfl)
            · skip
              have h := h.2 c201
              refine lv_aload_n G.1 G.2.1 d_Mo_goOn_204 rfl (lv_at hl 1 rfl) ?_
              refine lv_dup G.1 G.2.1 d_Mo_goOn_205 rfl ?_
              refine ugf (v := .int (sV s_23 a0 83)) G hP h_a0 iMo rfl 83 (by decide) rfl q3147 rfl rfl d_Mo_goOn_206 ?_
              refine lv_iconst (v := 1) G.1 G.2.1 d_Mo_goOn_209 (by decide) ?_
              refine W.eq (g2 := F0 m 210 ls [.int 1, .int (sV s_23 a0 83), .ref (ad a0)]) rfl ?_
              refine lv_iadd G.1 G.2.1 d_Mo_goOn_210 ?_
              refine upf G hP hD hS h 83 putV h_a0 iMo tMo tMo_ok nMo rfl (by decide) rfl q3147 rfl rfl fV rfl rfl d_Mo_goOn_211 (fun s_42 H locs h hP hD hS => ?_)
              refine lv_aload_n G.1 G.2.1 d_Mo_goOn_214 rfl (lv_at hl 1 rfl) ?_
              obtain ⟨b_43, e_44, c_45, h⟩ := h
              refine ugf (v := .ref (ad b_43)) G hP h_a0 iMo rfl 45 (by decide) rfl q3109 rfl (by show va_rf ((sO s_42 a0 45).map ad) = _; rw [e_44]; rfl) d_Mo_goOn_215 ?_
              refine lv_dup G.1 G.2.1 d_Mo_goOn_218 rfl ?_
              refine ugfN (v := .int (sV s_42 b_43 64)) G hP c_45 iMw rfl 64 (by decide) rfl q2822 rfl rfl d_Mo_goOn_219 ?_
              refine lv_iconst (v := 1) G.1 G.2.1 d_Mo_goOn_222 (by decide) ?_
              refine lv_isub G.1 G.2.1 d_Mo_goOn_223 ?_
              refine upfN G hP hD hS h 64 putV c_45 iMw tMw tMw_ok nMw rfl (by decide) rfl q2822 rfl rfl fV rfl rfl d_Mo_goOn_224 (fun s_46 H locs h hP hD hS => ?_)
              exact J_227 y_24 s_46 (d_j167 + d_25) (e_j167 + e_26) x1j167 r_22 H locs h hP hD hS ls (lv_sub hl [1, 2, 0] rfl)
          have J_67 : ∀ (y_j67 : Ly) (s_j67 : St) (d_j67 e_j67 : Nat) (x1j67 : Int32) (H : Heap) (locs : List Loc), wja_Mo_goOn_67 mc ms Post K_5 a0 y_j67 s_j67 d_j67 e_j67 x1j67 → va_P D CL (ws g ad y_j67 s_j67) H → va_D A (ws g ad y_j67 s_j67) → va_S A s.heap H locs → ∀ ls, lv_has ls 5 [(0, .ref (ad a0)), (1, .int x1j67)] → W p l e (ra_Mo_goOn mc ms) s m args below meth c H locs d_j67 e_j67 Q (F0 m 67 ls []) := by
            intro y_j67 s_j67 d_j67 e_j67 x1j67 H locs h hP hD hS ls hl
            unfold wja_Mo_goOn_67 at h
            obtain ⟨hd, h⟩ := h
            refine lv_bipush (v := (-2)) G.1 G.2.1 d_Mo_goOn_67 (by decide) ?_
            refine lv_istore_n (lv' := [(3, .int (-2)), (0, .ref (ad a0)), (1, .int x1j67)]) G.1 G.2.1 d_Mo_goOn_69 rfl hl (by decide) rfl (fun ls hl => ?_)
            refine lv_iconst (v := 1) G.1 G.2.1 d_Mo_goOn_70 (by decide) ?_
            refine lv_istore (lv' := [(4, .int 1), (3, .int (-2)), (0, .ref (ad a0)), (1, .int x1j67)]) G.1 G.2.1 d_Mo_goOn_71 hl (by decide) rfl (fun ls hl => ?_)
            unfold wla_Mo_goOn_73 at h
            obtain ⟨I_73, μ_73, hI_73, hB_73⟩ := h
            have L_73 : ∀ (n_73 : Nat) (y_h73 : Ly) (s_h73 : St) (d_h73 e_h73 : Nat) (x1h73 : Int32) (x3h73 : Int32) (x4h73 : Int32), μ_73 y_h73 s_h73 d_h73 e_h73 x1h73 x3h73 x4h73 < n_73 → I_73 y_h73 s_h73 d_h73 e_h73 x1h73 x3h73 x4h73 → ∀ (H : Heap) (locs : List Loc), va_P D CL (ws g ad y_h73 s_h73) H → va_D A (ws g ad y_h73 s_h73) → va_S A s.heap H locs → ∀ ls, lv_has ls 5 [(0, .ref (ad a0)), (1, .int x1h73), (3, .int x3h73), (4, .int x4h73)] → W p l e (ra_Mo_goOn mc ms) s m args below meth c H locs d_h73 e_h73 Q (F0 m 73 ls []) := by
              intro n_73
              induction n_73 with
              | zero => intro y_h73 s_h73 d_h73 e_h73 x1h73 x3h73 x4h73 hμ; exact absurd hμ (Nat.not_lt_zero _)
              | succ n_73 ih_73 =>
                intro y_h73 s_h73 d_h73 e_h73 x1h73 x3h73 x4h73 hμ_73 hJ H locs hP hD hS ls hl
                obtain ⟨K_73, hK_73, h⟩ : ∃ K : Ly → St → Nat → Nat → Int32 → Int32 → Int32 → Prop, (∀ z1 z2 z3 z4 (t0 : Int32) (t1 : Int32) (t2 : Int32), K z1 z2 z3 z4 t0 t1 t2 → I_73 z1 z2 z3 z4 t0 t1 t2 ∧ μ_73 z1 z2 z3 z4 t0 t1 t2 < μ_73 y_h73 s_h73 d_h73 e_h73 x1h73 x3h73 x4h73) ∧ wba_Mo_goOn_73 mc ms Post K_5 K a0 y_h73 s_h73 d_h73 e_h73 x1h73 x3h73 x4h73 := ⟨_, fun _ _ _ _ _ _ _ h => h, hB_73 y_h73 s_h73 d_h73 e_h73 x1h73 x3h73 x4h73 hJ⟩
                unfold wba_Mo_goOn_73 at h
                obtain ⟨hd, h⟩ := h
                refine lv_iload G.1 G.2.1 d_Mo_goOn_73 (lv_at hl 3 rfl) ?_
                refine lv_iconst (v := 3) G.1 G.2.1 d_Mo_goOn_75 (by decide) ?_
                have J_126 : ∀ (y_j126 : Ly) (s_j126 : St) (d_j126 e_j126 : Nat) (x1j126 : Int32) (x3j126 : Int32) (H : Heap) (locs : List Loc), wja_Mo_goOn_126 mc ms Post K_5 a0 y_j126 s_j126 d_j126 e_j126 x1j126 x3j126 → va_P D CL (ws g ad y_j126 s_j126) H → va_D A (ws g ad y_j126 s_j126) → va_S A s.heap H locs → ∀ ls, lv_has ls 5 [(0, .ref (ad a0)), (1, .int x1j126), (3, .int x3j126)] → W p l e (ra_Mo_goOn mc ms) s m args below meth c H locs d_j126 e_j126 Q (F0 m 126 ls []) := by
                  intro y_j126 s_j126 d_j126 e_j126 x1j126 x3j126 H locs h hP hD hS ls hl
                  unfold wja_Mo_goOn_126 at h
                  obtain ⟨hd, h⟩ := h
                  refine lv_iload_n G.1 G.2.1 d_Mo_goOn_126 rfl (lv_at hl 2 rfl) ?_
                  refine lv_if_ge (tgt := 132) G.1 G.2.1 d_Mo_goOn_127 (by decide) (fun c127 => ?_) (fun c127 => ?_)
                  · skip
                    have h := h.1 c127
                    refine lv_aload_n G.1 G.2.1 d_Mo_goOn_132 rfl (lv_at hl 0 rfl) ?_
                    obtain ⟨b_47, e_48, c_49, h⟩ := h
                    refine ugf (v := .ref (ad b_47)) G hP h_a0 iMo rfl 45 (by decide) rfl q3109 rfl (by show va_rf ((sO s_j126 a0 45).map ad) = _; rw [e_48]; rfl) d_Mo_goOn_133 ?_
                    refine lv_iload_n G.1 G.2.1 d_Mo_goOn_136 rfl (lv_at hl 2 rfl) ?_
                    refine upfN G hP hD hS h 63 putV c_49 iMw tMw tMw_ok nMw rfl (by decide) rfl q2821 rfl rfl fV rfl rfl d_Mo_goOn_137 (fun s_50 H locs h hP hD hS => ?_)
                    refine lv_aload_n G.1 G.2.1 d_Mo_goOn_140 rfl (lv_at hl 0 rfl) ?_
                    obtain ⟨b_51, e_52, c_53, h⟩ := h
                    refine ugf (v := .ref (ad b_51)) G hP h_a0 iMo rfl 45 (by decide) rfl q3109 rfl (by show va_rf ((sO s_50 a0 45).map ad) = _; rw [e_52]; rfl) d_Mo_goOn_141 ?_
                    refine lv_aload_n G.1 G.2.1 d_Mo_goOn_144 rfl (lv_at hl 0 rfl) ?_
                    refine ugf (v := .ref (ad b_51)) G hP h_a0 iMo rfl 45 (by decide) rfl q3109 rfl (by show va_rf ((sO s_50 a0 45).map ad) = _; rw [e_52]; rfl) d_Mo_goOn_145 ?_
                    refine ugfN (v := .int (sV s_50 b_51 65)) G hP c_53 iMw rfl 65 (by decide) rfl q2823 rfl rfl d_Mo_goOn_148 ?_
                    refine W.eq (g2 := F0 m 151 ls [.int (sV s_50 b_51 65), .ref (ad b_51)]) rfl ?_
                    refine upfN G hP hD hS h 64 putV c_53 iMw tMw tMw_ok nMw rfl (by decide) rfl q2822 rfl rfl fV rfl rfl d_Mo_goOn_151 (fun s_54 H locs h hP hD hS => ?_)
                    refine lv_aload_n G.1 G.2.1 d_Mo_goOn_154 rfl (lv_at hl 0 rfl) ?_
                    obtain ⟨b_55, e_56, c_57, h⟩ := h
                    refine ugf (v := .ref (ad b_55)) G hP h_a0 iMo rfl 45 (by decide) rfl q3109 rfl (by show va_rf ((sO s_54 a0 45).map ad) = _; rw [e_56]; rfl) d_Mo_goOn_155 ?_
                    refine ugfN (v := .ref (yP y_j126 b_55 62)) G hP c_57 iMw rfl 62 (by decide) rfl q2820 rfl rfl d_Mo_goOn_158 ?_
                    refine lv_iload_n G.1 G.2.1 d_Mo_goOn_161 rfl (lv_at hl 2 rfl) ?_
                    refine uqald G hP (kdp c_57 rfl) (typ c_57 rfl) rfl h d_Mo_goOn_162 (fun b_58 n_59 h => ?_)
                    refine lv_iconst (v := 0) G.1 G.2.1 d_Mo_goOn_163 (by decide) ?_
                    obtain ⟨n_60, h⟩ := h
                    refine upfN G hP hD hS h 1 putV (oa_13 c_57 n_59) iMr tMr tMr_ok nMr rfl (by decide) rfl q2988 rfl rfl fV (nb_n n_60) (nb_f n_60) d_Mo_goOn_164 (fun s_61 H locs h hP hD hS => ?_)
                    exact J_167 y_j126 s_61 d_j126 e_j126 x1j126 H locs h hP hD hS ls (lv_sub hl [0, 1] rfl)
                  · skip
                    have h := h.2 c127
                    refine lv_iconst (v := 3) G.1 G.2.1 d_Mo_goOn_130 (by decide) ?_
                    exact hret _ (y_j126, s_j126, d_j126, e_j126) _ _ _ _ _ ls h hP hD hS (Nat.le_refl _) (Nat.le_refl _) hd.1 hd.2 d_Mo_goOn_131
                refine lv_icmp_gt (tgt := 126) G.1 G.2.1 d_Mo_goOn_76 (by decide) (fun c76 => ?_) (fun c76 => ?_)
                · skip
                  have h := h.1 c76
                  exact J_126 y_h73 s_h73 d_h73 e_h73 x1h73 x3h73 H locs h hP hD hS ls (lv_sub hl [0, 1, 2] rfl)
                · skip
                  have h := h.2 c76
                  refine lv_iload_n G.1 G.2.1 d_Mo_goOn_79 rfl (lv_at hl 2 rfl) ?_
                  refine lv_if_ge (tgt := 126) G.1 G.2.1 d_Mo_goOn_80 (by decide) (fun c80 => ?_) (fun c80 => ?_)
                  · skip
                    have h := h.1 c80
                    exact J_126 y_h73 s_h73 d_h73 e_h73 x1h73 x3h73 H locs h hP hD hS ls (lv_sub hl [0, 1, 2] rfl)
                  · skip
                    have h := h.2 c80
                    refine lv_aload_n G.1 G.2.1 d_Mo_goOn_83 rfl (lv_at hl 0 rfl) ?_
                    refine lv_aload_n G.1 G.2.1 d_Mo_goOn_84 rfl (lv_at hl 0 rfl) ?_
                    obtain ⟨b_62, e_63, c_64, h⟩ := h
                    refine ugf (v := .ref (ad b_62)) G hP h_a0 iMo rfl 45 (by decide) rfl q3109 rfl (by show va_rf ((sO s_h73 a0 45).map ad) = _; rw [e_63]; rfl) d_Mo_goOn_85 ?_
                    refine ugfN (v := .int (sV s_h73 b_62 63)) G hP c_64 iMw rfl 63 (by decide) rfl q2821 rfl rfl d_Mo_goOn_88 ?_
                    refine lv_iload G.1 G.2.1 d_Mo_goOn_91 (lv_at hl 3 rfl) ?_
                    refine lv_iadd G.1 G.2.1 d_Mo_goOn_93 ?_
                    refine W.eq (g2 := F0 m 94 ls [.int ((sV s_h73 b_62 63) + x4h73), .ref (ad a0)]) rfl ?_
                    refine lv_iconst (v := 3) G.1 G.2.1 d_Mo_goOn_94 (by decide) ?_
                    refine lv_irem G.1 G.2.1 d_Mo_goOn_95 (by decide) ?_
                    refine ucVi (As := [.int (((sV s_h73 b_62 63) + x4h73) - ((sV s_h73 b_62 63) + x4h73) / 3 * 3)]) (rest := []) G hP hD hS (cu_Mo_canGo l D g ad y_h73 _ s_h73 a0 (((sV s_h73 b_62 63) + x4h73) - ((sV s_h73 b_62 63) + x4h73) / 3 * 3) H.size h_a0 h) w9_Mo_canGo q3835 ⟨Nat.le_of_ble_eq_true rfl, Nat.le_of_ble_eq_true rfl⟩ rfl rfl h_a0 (q := (RMo, TMo, 131)) rfl rfl hl.1 rfl (Nat.le_of_ble_eq_true rfl) rfl hd d_Mo_goOn_96 (fun r_65 s_66 H locs h hP hD hS => ?_)
                    have J_119 : ∀ (y_j119 : Ly) (s_j119 : St) (d_j119 e_j119 : Nat) (x1j119 : Int32) (x4j119 : Int32) (z0j119 : Int32) (H : Heap) (locs : List Loc), wja_Mo_goOn_119 mc ms Post K_5 K_73 a0 y_j119 s_j119 d_j119 e_j119 x1j119 x4j119 z0j119 → va_P D CL (ws g ad y_j119 s_j119) H → va_D A (ws g ad y_j119 s_j119) → va_S A s.heap H locs → ∀ ls, lv_has ls 5 [(0, .ref (ad a0)), (1, .int x1j119), (4, .int x4j119)] → W p l e (ra_Mo_goOn mc ms) s m args below meth c H locs d_j119 e_j119 Q (F0 m 119 ls [.int z0j119]) := by
                      intro y_j119 s_j119 d_j119 e_j119 x1j119 x4j119 z0j119 H locs h hP hD hS ls hl
                      unfold wja_Mo_goOn_119 at h
                      obtain ⟨hd, h⟩ := h
                      refine lv_istore_n (lv' := [(3, .int z0j119), (0, .ref (ad a0)), (1, .int x1j119), (4, .int x4j119)]) G.1 G.2.1 d_Mo_goOn_119 rfl hl (by decide) rfl (fun ls hl => ?_)
                      refine lv_iinc (v := x4j119 + 1) (lv' := [(4, .int (x4j119 + 1)), (3, .int z0j119), (0, .ref (ad a0)), (1, .int x1j119)]) G.1 G.2.1 d_Mo_goOn_120 hl (k := 3) rfl rfl (by decide) rfl (fun ls hl => ?_)
                      refine lv_goto (tgt := 73) G.1 G.2.1 d_Mo_goOn_123 (by decide) ?_
                      have h := hK_73 y_j119 s_j119 d_j119 e_j119 x1j119 z0j119 (x4j119 + 1) h
                      exact ih_73 y_j119 s_j119 d_j119 e_j119 x1j119 z0j119 (x4j119 + 1) (Nat.lt_of_lt_of_le h.2 (Nat.le_of_lt_succ hμ_73)) h.1 H locs hP hD hS ls (lv_sub hl [2, 3, 1, 0] rfl)
                    refine lv_if_eq (tgt := 117) G.1 G.2.1 d_Mo_goOn_99 (by decide) (fun c99 => ?_) (fun c99 => ?_)
                    · skip
                      have h := h.1 c99
                      refine lv_bipush (v := (-2)) G.1 G.2.1 d_Mo_goOn_117 (by decide) ?_
                      exact J_119 y_h73 s_66 d_h73 e_h73 x1h73 x4h73 (-2) H locs h hP hD hS ls (lv_sub hl [0, 1, 3] rfl)
                    · skip
                      have h := h.2 c99
                      refine lv_aload_n G.1 G.2.1 d_Mo_goOn_102 rfl (lv_at hl 0 rfl) ?_
                      obtain ⟨b_67, e_68, c_69, h⟩ := h
                      refine ugf (v := .ref (ad b_67)) G hP h_a0 iMo rfl 45 (by decide) rfl q3109 rfl (by show va_rf ((sO s_66 a0 45).map ad) = _; rw [e_68]; rfl) d_Mo_goOn_103 ?_
                      refine ugfN (v := .int (sV s_66 b_67 63)) G hP c_69 iMw rfl 63 (by decide) rfl q2821 rfl rfl d_Mo_goOn_106 ?_
                      refine lv_iload G.1 G.2.1 d_Mo_goOn_109 (lv_at hl 3 rfl) ?_
                      refine lv_iadd G.1 G.2.1 d_Mo_goOn_111 ?_
                      refine lv_iconst (v := 3) G.1 G.2.1 d_Mo_goOn_112 (by decide) ?_
                      refine lv_irem G.1 G.2.1 d_Mo_goOn_113 (by decide) ?_
                      refine lv_goto (tgt := 119) G.1 G.2.1 d_Mo_goOn_114 (by decide) ?_
                      exact J_119 y_h73 s_66 d_h73 e_h73 x1h73 x4h73 (((sV s_66 b_67 63) + x4h73) - ((sV s_66 b_67 63) + x4h73) / 3 * 3) H locs h hP hD hS ls (lv_sub hl [0, 1, 3] rfl)
            exact L_73 _ y_j67 s_j67 d_j67 e_j67 x1j67 (-2) 1 (Nat.lt_succ_self _) hI_73 H locs hP hD hS ls (lv_sub hl [2, 3, 1, 0] rfl)
          refine lv_if_eq (tgt := 67) G.1 G.2.1 d_Mo_goOn_49 (by decide) (fun c49 => ?_) (fun c49 => ?_)
          · skip
            have h := h.1 c49
            exact J_67 y_h5 s_6 d_h5 e_h5 x1h5 H locs h hP hD hS ls (lv_sub hl [1, 2] rfl)
          · skip
            have h := h.2 c49
            refine lv_aload_n G.1 G.2.1 d_Mo_goOn_52 rfl (lv_at hl 0 rfl) ?_
            refine ugfN (v := .int (sV s_6 b_10 0)) G hP (oa_13 c_9 n_11) iMr rfl 0 (by decide) rfl q2987 rfl rfl d_Mo_goOn_53 ?_
            refine W.eq (g2 := F0 m 56 ls [.int (sV s_6 b_10 0)]) rfl ?_
            refine lv_iconst (v := 1) G.1 G.2.1 d_Mo_goOn_56 (by decide) ?_
            refine lv_icmp_ne (tgt := 67) G.1 G.2.1 d_Mo_goOn_57 (by decide) (fun c57 => ?_) (fun c57 => ?_)
            · skip
              have h := h.1 c57
              exact J_67 y_h5 s_6 d_h5 e_h5 x1h5 H locs h hP hD hS ls (lv_sub hl [1, 2] rfl)
            · skip
              have h := h.2 c57
              refine lv_aload_n G.1 G.2.1 d_Mo_goOn_60 rfl (lv_at hl 0 rfl) ?_
              refine ugfN (v := .int (sV s_6 b_10 1)) G hP (oa_13 c_9 n_11) iMr rfl 1 (by decide) rfl q2988 rfl rfl d_Mo_goOn_61 ?_
              refine lv_if_eq (tgt := 167) G.1 G.2.1 d_Mo_goOn_64 (by decide) (fun c64 => ?_) (fun c64 => ?_)
              · skip
                have h := h.1 c64
                exact J_167 y_h5 s_6 d_h5 e_h5 x1h5 H locs h hP hD hS ls (lv_sub hl [1, 2] rfl)
              · skip
                have h := h.2 c64
                exact J_67 y_h5 s_6 d_h5 e_h5 x1h5 H locs h hP hD hS ls (lv_sub hl [1, 2] rfl)
        · skip
          have h := h.2 c21
          refine lv_iconst (v := 1) G.1 G.2.1 d_Mo_goOn_24 (by decide) ?_
          exact hret _ (y_h5, s_6, d_h5, e_h5) _ _ _ _ _ ls h hP hD hS (Nat.le_refl _) (Nat.le_refl _) hd.1 hd.2 d_Mo_goOn_25
  exact L_5 _ y s_1 0 0 v1 (Nat.lt_succ_self _) hI_5 H locs hP hD hS ls (lv_sub hl [0, 1] rfl)
theorem q3831 : Cond.methodLink "ClassWorksModel" 1167 y_Mo_goOn ∈ lw_ok := lw_okmem (List.mem_of_getElem? (i := 3831) (by decide +kernel)) rfl
theorem q3834 : Cond.code y_Mo_goOn b_Mo_goOn 5 (some .int) ∈ lw_ok := lw_okmem (List.mem_of_getElem? (i := 3834) (by decide +kernel)) rfl
theorem q3833 : Cond.instanceMethod y_Mo_goOn ∈ lw_ok := lw_okmem (List.mem_of_getElem? (i := 3833) (by decide +kernel)) rfl
theorem q247 : Cond.selects y_Mo_goOn.cls y_Mo_goOn y_Mo_goOn ∈ lw_ok := lw_okmem (List.mem_of_getElem? (i := 247) (by decide +kernel)) rfl
theorem w9_Mo_goOn : CWv y_Mo_goOn b_Mo_goOn 5 (some .int) 1 ∧ Cond.instanceMethod y_Mo_goOn ∈ lw_ok ∧ Cond.selects y_Mo_goOn.cls y_Mo_goOn y_Mo_goOn ∈ lw_ok := ⟨⟨q3834, q348, by decide +kernel, by decide +kernel, by decide +kernel⟩, q3833, q247⟩
def y_Mo_step : MethodName := ⟨"ClassWorksModel", "step", "(II)I"⟩
abbrev b_Mo_step : ByteArray := prog_14_method_147_code
theorem d_Mo_step_0 : decode b_Mo_step 0 = .ok (.aload_n 0, 1) := by decide +kernel
theorem d_Mo_step_1 : decode b_Mo_step 1 = .ok (.iload_n 1, 1) := by decide +kernel
theorem d_Mo_step_2 : decode b_Mo_step 2 = .ok (.invokevirtual 1118, 3) := by decide +kernel
theorem d_Mo_step_5 : decode b_Mo_step 5 = .ok (.ifCond .eq 15, 3) := by decide +kernel
theorem d_Mo_step_8 : decode b_Mo_step 8 = .ok (.iload_n 2, 1) := by decide +kernel
theorem d_Mo_step_9 : decode b_Mo_step 9 = .ok (.iconst 1, 1) := by decide +kernel
theorem d_Mo_step_10 : decode b_Mo_step 10 = .ok (.if_icmp .lt 10, 3) := by decide +kernel
theorem d_Mo_step_13 : decode b_Mo_step 13 = .ok (.iload_n 2, 1) := by decide +kernel
theorem d_Mo_step_14 : decode b_Mo_step 14 = .ok (.sipush 4000, 3) := by decide +kernel
theorem d_Mo_step_17 : decode b_Mo_step 17 = .ok (.if_icmp .le 5, 3) := by decide +kernel
theorem d_Mo_step_20 : decode b_Mo_step 20 = .ok (.iconst (-1), 1) := by decide +kernel
theorem d_Mo_step_21 : decode b_Mo_step 21 = .ok (.ireturn, 1) := by decide +kernel
theorem d_Mo_step_22 : decode b_Mo_step 22 = .ok (.aload_n 0, 1) := by decide +kernel
theorem d_Mo_step_23 : decode b_Mo_step 23 = .ok (.aload_n 0, 1) := by decide +kernel
theorem d_Mo_step_24 : decode b_Mo_step 24 = .ok (.getfield 263, 3) := by decide +kernel
theorem d_Mo_step_27 : decode b_Mo_step 27 = .ok (.iload_n 1, 1) := by decide +kernel
theorem d_Mo_step_28 : decode b_Mo_step 28 = .ok (.aaload, 1) := by decide +kernel
theorem d_Mo_step_29 : decode b_Mo_step 29 = .ok (.putfield 522, 3) := by decide +kernel
theorem d_Mo_step_32 : decode b_Mo_step 32 = .ok (.aload_n 0, 1) := by decide +kernel
theorem d_Mo_step_33 : decode b_Mo_step 33 = .ok (.getfield 522, 3) := by decide +kernel
theorem d_Mo_step_36 : decode b_Mo_step 36 = .ok (.getfield 406, 3) := by decide +kernel
theorem d_Mo_step_39 : decode b_Mo_step 39 = .ok (.iconst 0, 1) := by decide +kernel
theorem d_Mo_step_40 : decode b_Mo_step 40 = .ok (.aaload, 1) := by decide +kernel
theorem d_Mo_step_41 : decode b_Mo_step 41 = .ok (.getfield 486, 3) := by decide +kernel
theorem d_Mo_step_44 : decode b_Mo_step 44 = .ok (.bipush (-2), 2) := by decide +kernel
theorem d_Mo_step_46 : decode b_Mo_step 46 = .ok (.if_icmp .ne 40, 3) := by decide +kernel
theorem d_Mo_step_49 : decode b_Mo_step 49 = .ok (.aload_n 0, 1) := by decide +kernel
theorem d_Mo_step_50 : decode b_Mo_step 50 = .ok (.getfield 522, 3) := by decide +kernel
theorem d_Mo_step_53 : decode b_Mo_step 53 = .ok (.getfield 406, 3) := by decide +kernel
theorem d_Mo_step_56 : decode b_Mo_step 56 = .ok (.iconst 1, 1) := by decide +kernel
theorem d_Mo_step_57 : decode b_Mo_step 57 = .ok (.aaload, 1) := by decide +kernel
theorem d_Mo_step_58 : decode b_Mo_step 58 = .ok (.getfield 486, 3) := by decide +kernel
theorem d_Mo_step_61 : decode b_Mo_step 61 = .ok (.bipush (-2), 2) := by decide +kernel
theorem d_Mo_step_63 : decode b_Mo_step 63 = .ok (.if_icmp .ne 23, 3) := by decide +kernel
theorem d_Mo_step_66 : decode b_Mo_step 66 = .ok (.aload_n 0, 1) := by decide +kernel
theorem d_Mo_step_67 : decode b_Mo_step 67 = .ok (.getfield 522, 3) := by decide +kernel
theorem d_Mo_step_70 : decode b_Mo_step 70 = .ok (.getfield 406, 3) := by decide +kernel
theorem d_Mo_step_73 : decode b_Mo_step 73 = .ok (.iconst 2, 1) := by decide +kernel
theorem d_Mo_step_74 : decode b_Mo_step 74 = .ok (.aaload, 1) := by decide +kernel
theorem d_Mo_step_75 : decode b_Mo_step 75 = .ok (.getfield 486, 3) := by decide +kernel
theorem d_Mo_step_78 : decode b_Mo_step 78 = .ok (.bipush (-2), 2) := by decide +kernel
theorem d_Mo_step_80 : decode b_Mo_step 80 = .ok (.if_icmp .ne 6, 3) := by decide +kernel
theorem d_Mo_step_83 : decode b_Mo_step 83 = .ok (.bipush (-2), 2) := by decide +kernel
theorem d_Mo_step_85 : decode b_Mo_step 85 = .ok (.ireturn, 1) := by decide +kernel
theorem d_Mo_step_86 : decode b_Mo_step 86 = .ok (.aload_n 0, 1) := by decide +kernel
theorem d_Mo_step_87 : decode b_Mo_step 87 = .ok (.aload_n 0, 1) := by decide +kernel
theorem d_Mo_step_88 : decode b_Mo_step 88 = .ok (.getfield 522, 3) := by decide +kernel
theorem d_Mo_step_91 : decode b_Mo_step 91 = .ok (.invokevirtual 1102, 3) := by decide +kernel
theorem d_Mo_step_94 : decode b_Mo_step 94 = .ok (.ifCond .ne 5, 3) := by decide +kernel
theorem d_Mo_step_97 : decode b_Mo_step 97 = .ok (.iconst 0, 1) := by decide +kernel
theorem d_Mo_step_98 : decode b_Mo_step 98 = .ok (.ireturn, 1) := by decide +kernel
theorem d_Mo_step_99 : decode b_Mo_step 99 = .ok (.iload_n 2, 1) := by decide +kernel
theorem d_Mo_step_100 : decode b_Mo_step 100 = .ok (.ldc_w 1163, 3) := by decide +kernel
theorem d_Mo_step_103 : decode b_Mo_step 103 = .ok (.aload_n 0, 1) := by decide +kernel
theorem d_Mo_step_104 : decode b_Mo_step 104 = .ok (.getfield 1164, 3) := by decide +kernel
theorem d_Mo_step_107 : decode b_Mo_step 107 = .ok (.isub, 1) := by decide +kernel
theorem d_Mo_step_108 : decode b_Mo_step 108 = .ok (.if_icmp .le 6, 3) := by decide +kernel
theorem d_Mo_step_111 : decode b_Mo_step 111 = .ok (.bipush (-3), 2) := by decide +kernel
theorem d_Mo_step_113 : decode b_Mo_step 113 = .ok (.ireturn, 1) := by decide +kernel
theorem d_Mo_step_114 : decode b_Mo_step 114 = .ok (.aload_n 0, 1) := by decide +kernel
theorem d_Mo_step_115 : decode b_Mo_step 115 = .ok (.iload_n 2, 1) := by decide +kernel
theorem d_Mo_step_116 : decode b_Mo_step 116 = .ok (.invokevirtual 1167, 3) := by decide +kernel
theorem d_Mo_step_119 : decode b_Mo_step 119 = .ok (.istore_n 3, 1) := by decide +kernel
theorem d_Mo_step_120 : decode b_Mo_step 120 = .ok (.aload_n 0, 1) := by decide +kernel
theorem d_Mo_step_121 : decode b_Mo_step 121 = .ok (.dup, 1) := by decide +kernel
theorem d_Mo_step_122 : decode b_Mo_step 122 = .ok (.getfield 1164, 3) := by decide +kernel
theorem d_Mo_step_125 : decode b_Mo_step 125 = .ok (.aload_n 0, 1) := by decide +kernel
theorem d_Mo_step_126 : decode b_Mo_step 126 = .ok (.getfield 1099, 3) := by decide +kernel
theorem d_Mo_step_129 : decode b_Mo_step 129 = .ok (.iadd, 1) := by decide +kernel
theorem d_Mo_step_130 : decode b_Mo_step 130 = .ok (.putfield 1164, 3) := by decide +kernel
theorem d_Mo_step_133 : decode b_Mo_step 133 = .ok (.iload_n 3, 1) := by decide +kernel
theorem d_Mo_step_134 : decode b_Mo_step 134 = .ok (.ireturn, 1) := by decide +kernel
abbrev ra_Mo_step (mc ms : Nat) : Room := { frames := 475, cells := mc, slots := ms, locals := 11567 }
def wja_Mo_step_20 (mc ms : Nat) (Post : Ly → St → Int32 → Nat → Nat → Prop) (a0 : Nat) (y_j20 : Ly) (s_j20 : St) (d_j20 e_j20 : Nat) : Prop := (d_j20 ≤ mc ∧ e_j20 ≤ ms) ∧ Post y_j20 s_j20 (-1) d_j20 e_j20
def wja_Mo_step_86 (mc ms : Nat) (Post : Ly → St → Int32 → Nat → Nat → Prop) (a0 : Nat) (y_j86 : Ly) (s_j86 : St) (d_j86 e_j86 : Nat) (x2j86 : Int32) : Prop := (d_j86 ≤ mc ∧ e_j86 ≤ ms) ∧ ∃ b_11 : Nat, sO s_j86 a0 45 = some b_11 ∧ cl b_11 = 13 ∧ wu_Mo_isAnyOn y_j86 (fun (s_15 : St) (r_14 : Int32) => ((¬ r_14 = 0 → ((x2j86 ≤ (60000 - (sV s_15 a0 93)) → ∃ mc_21 ms_22 : Nat, (d_j86 + mc_21 ≤ mc ∧ e_j86 + ms_22 ≤ ms) ∧ wa_Mo_goOn mc_21 ms_22 y_j86 (fun (y_18 : Ly) (s_17 : St) (r_16 : Int32) (d_19 e_20 : Nat) => (d_j86 + d_19 ≤ mc ∧ e_j86 + e_20 ≤ ms) ∧ xP (uV s_17 a0 93 ((sV s_17 a0 93) + (sV s_17 a0 83))) (fun s_24 : St => Post y_18 s_24 r_16 (d_j86 + d_19) (e_j86 + e_20))) s_15 a0 x2j86) ∧ (¬ (x2j86 ≤ (60000 - (sV s_15 a0 93))) → Post y_j86 s_15 (-3) d_j86 e_j86))) ∧ (r_14 = 0 → Post y_j86 s_15 0 d_j86 e_j86))) s_j86 a0 b_11
def wa_Mo_step (mc ms : Nat) (y : Ly) (Post : Ly → St → Int32 → Nat → Nat → Prop) (σ : St) (a0 : Nat) (v1 : Int32) (v2 : Int32) : Prop := wu_Mo_isWorld y (fun (s_2 : St) (r_1 : Int32) => ((r_1 = 0 → wja_Mo_step_20 mc ms Post a0 y s_2 0 0) ∧ (¬ (r_1 = 0) → ((v2 < 1 → wja_Mo_step_20 mc ms Post a0 y s_2 0 0) ∧ (¬ (v2 < 1) → ((v2 ≤ 4000 → xQ y a0 44 v1 (fun b_3 : Nat => xP (uO s_2 a0 45 (some b_3)) (fun s_5 : St => ∃ b_6 : Nat, sO s_5 a0 45 = some b_6 ∧ cl b_6 = 13 ∧ xQ y b_6 62 0 (fun b_9 : Nat => ((¬ (sV s_5 b_9 0) = (-2) → wja_Mo_step_86 mc ms Post a0 y s_5 0 0 v2) ∧ ((sV s_5 b_9 0) = (-2) → xQ y b_6 62 1 (fun b_25 : Nat => ((¬ (sV s_5 b_25 0) = (-2) → wja_Mo_step_86 mc ms Post a0 y s_5 0 0 v2) ∧ ((sV s_5 b_25 0) = (-2) → xQ y b_6 62 2 (fun b_27 : Nat => ((¬ (sV s_5 b_27 0) = (-2) → wja_Mo_step_86 mc ms Post a0 y s_5 0 0 v2) ∧ ((sV s_5 b_27 0) = (-2) → Post y s_5 (-2) 0 0)))))))))))) ∧ (¬ (v2 ≤ 4000) → wja_Mo_step_20 mc ms Post a0 y s_2 0 0))))))) σ a0 v1
set_option maxHeartbeats 4000000 in
set_option maxRecDepth 100000 in
theorem ca_Mo_step (l : Launch) (D : va_G) (g : Nat → ClassId) (ad : Nat → Nat) (mc ms : Nat) (y : Ly) (Post : Ly → St → Int32 → Nat → Nat → Prop) (σ : St) (a0 : Nat) (v1 : Int32) (v2 : Int32) (sz uz : Nat) (h_a0 : cl a0 = 14) (h : wa_Mo_step mc ms y Post σ a0 v1 v2) : Met l y_Mo_step (mw y_Mo_step b_Mo_step 4 (some .int)) (ra_Mo_step mc ms) (PCu g D [] [.ref (ad a0), .int v1, .int v2] sz uz (ws g ad y σ)) (va_Qi (fun (r : Int32) (u : Ly × St × Nat × Nat) => Post u.1 u.2.1 r u.2.2.1 u.2.2.2) (QU D (va_A (ws g ad y σ) sz) (fun u => ws g ad u.1 u.2.1) sz uz (fun u => u.2.2.1) (fun u => u.2.2.2)) (va_A (ws g ad y σ) sz)) mc ms (va_A (ws g ad y σ) sz) := by
  refine ofIu (by decide +kernel) (Nat.le_of_ble_eq_true rfl) ?_
  intro p e s m args below meth c A Q ls H locs G hsz hP hD hS hl hret
  subst hsz
  have hl : lv_has ls 4 [(0, .ref (ad a0)), (1, .int v1), (2, .int v2)] := hl
  have hd : 0 ≤ mc ∧ 0 ≤ ms := ⟨Nat.zero_le _, Nat.zero_le _⟩
  unfold wa_Mo_step at h
  refine lv_aload_n G.1 G.2.1 d_Mo_step_0 rfl (lv_at hl 0 rfl) ?_
  refine lv_iload_n G.1 G.2.1 d_Mo_step_1 rfl (lv_at hl 1 rfl) ?_
  refine ucVi (As := [.int v1]) (rest := []) G hP hD hS (cu_Mo_isWorld l D g ad y _ σ a0 v1 H.size h_a0 h) w9_Mo_isWorld q3482 ⟨Nat.le_of_ble_eq_true rfl, Nat.le_of_ble_eq_true rfl⟩ rfl rfl h_a0 (q := (RMo, TMo, 131)) rfl rfl hl.1 rfl (Nat.le_of_ble_eq_true rfl) rfl hd d_Mo_step_2 (fun r_1 s_2 H locs h hP hD hS => ?_)
  have J_20 : ∀ (y_j20 : Ly) (s_j20 : St) (d_j20 e_j20 : Nat) (H : Heap) (locs : List Loc), wja_Mo_step_20 mc ms Post a0 y_j20 s_j20 d_j20 e_j20 → va_P D CL (ws g ad y_j20 s_j20) H → va_D A (ws g ad y_j20 s_j20) → va_S A s.heap H locs → ∀ ls, lv_has ls 4 [] → W p l e (ra_Mo_step mc ms) s m args below meth c H locs d_j20 e_j20 Q (F0 m 20 ls []) := by
    intro y_j20 s_j20 d_j20 e_j20 H locs h hP hD hS ls hl
    unfold wja_Mo_step_20 at h
    obtain ⟨hd, h⟩ := h
    refine lv_iconst (v := (-1)) G.1 G.2.1 d_Mo_step_20 (by decide) ?_
    exact hret _ (y_j20, s_j20, d_j20, e_j20) _ _ _ _ _ ls h hP hD hS (Nat.le_refl _) (Nat.le_refl _) hd.1 hd.2 d_Mo_step_21
  refine lv_if_eq (tgt := 20) G.1 G.2.1 d_Mo_step_5 (by decide) (fun c5 => ?_) (fun c5 => ?_)
  · skip
    have h := h.1 c5
    exact J_20 y s_2 0 0 H locs h hP hD hS ls (lv_sub hl [] rfl)
  · skip
    have h := h.2 c5
    refine lv_iload_n G.1 G.2.1 d_Mo_step_8 rfl (lv_at hl 2 rfl) ?_
    refine lv_iconst (v := 1) G.1 G.2.1 d_Mo_step_9 (by decide) ?_
    refine lv_icmp_lt (tgt := 20) G.1 G.2.1 d_Mo_step_10 (by decide) (fun c10 => ?_) (fun c10 => ?_)
    · skip
      have h := h.1 c10
      exact J_20 y s_2 0 0 H locs h hP hD hS ls (lv_sub hl [] rfl)
    · skip
      have h := h.2 c10
      refine lv_iload_n G.1 G.2.1 d_Mo_step_13 rfl (lv_at hl 2 rfl) ?_
      refine lv_sipush (v := 4000) G.1 G.2.1 d_Mo_step_14 (by decide) ?_
      refine lv_icmp_le (tgt := 22) G.1 G.2.1 d_Mo_step_17 (by decide) (fun c17 => ?_) (fun c17 => ?_)
      · skip
        have h := h.1 c17
        refine lv_aload_n G.1 G.2.1 d_Mo_step_22 rfl (lv_at hl 0 rfl) ?_
        refine W.eq (g2 := F0 m 23 ls [.ref (ad a0)]) rfl ?_
        refine lv_aload_n G.1 G.2.1 d_Mo_step_23 rfl (lv_at hl 0 rfl) ?_
        refine ugf (v := .ref (yP y a0 44)) G hP h_a0 iMo rfl 44 (by decide) rfl q3108 rfl rfl d_Mo_step_24 ?_
        refine lv_iload_n G.1 G.2.1 d_Mo_step_27 rfl (lv_at hl 1 rfl) ?_
        refine uqald G hP (kdp h_a0 rfl) (typ h_a0 rfl) rfl h d_Mo_step_28 (fun b_3 n_4 h => ?_)
        refine upf G hP hD hS h 45 putO h_a0 iMo tMo tMo_ok nMo rfl (by decide) rfl q3109 rfl rfl fO rfl rfl d_Mo_step_29 (fun s_5 H locs h hP hD hS => ?_)
        refine lv_aload_n G.1 G.2.1 d_Mo_step_32 rfl (lv_at hl 0 rfl) ?_
        obtain ⟨b_6, e_7, c_8, h⟩ := h
        refine ugf (v := .ref (ad b_6)) G hP h_a0 iMo rfl 45 (by decide) rfl q3109 rfl (by show va_rf ((sO s_5 a0 45).map ad) = _; rw [e_7]; rfl) d_Mo_step_33 ?_
        refine ugfN (v := .ref (yP y b_6 62)) G hP c_8 iMw rfl 62 (by decide) rfl q2820 rfl rfl d_Mo_step_36 ?_
        refine lv_iconst (v := 0) G.1 G.2.1 d_Mo_step_39 (by decide) ?_
        refine uqald G hP (kdp c_8 rfl) (typ c_8 rfl) rfl h d_Mo_step_40 (fun b_9 n_10 h => ?_)
        refine ugfN (v := .int (sV s_5 b_9 0)) G hP (oa_13 c_8 n_10) iMr rfl 0 (by decide) rfl q2987 rfl rfl d_Mo_step_41 ?_
        refine lv_bipush (v := (-2)) G.1 G.2.1 d_Mo_step_44 (by decide) ?_
        have J_86 : ∀ (y_j86 : Ly) (s_j86 : St) (d_j86 e_j86 : Nat) (x2j86 : Int32) (H : Heap) (locs : List Loc), wja_Mo_step_86 mc ms Post a0 y_j86 s_j86 d_j86 e_j86 x2j86 → va_P D CL (ws g ad y_j86 s_j86) H → va_D A (ws g ad y_j86 s_j86) → va_S A s.heap H locs → ∀ ls, lv_has ls 4 [(0, .ref (ad a0)), (2, .int x2j86)] → W p l e (ra_Mo_step mc ms) s m args below meth c H locs d_j86 e_j86 Q (F0 m 86 ls []) := by
          intro y_j86 s_j86 d_j86 e_j86 x2j86 H locs h hP hD hS ls hl
          unfold wja_Mo_step_86 at h
          obtain ⟨hd, h⟩ := h
          refine lv_aload_n G.1 G.2.1 d_Mo_step_86 rfl (lv_at hl 0 rfl) ?_
          refine lv_aload_n G.1 G.2.1 d_Mo_step_87 rfl (lv_at hl 0 rfl) ?_
          obtain ⟨b_11, e_12, c_13, h⟩ := h
          refine ugf (v := .ref (ad b_11)) G hP h_a0 iMo rfl 45 (by decide) rfl q3109 rfl (by show va_rf ((sO s_j86 a0 45).map ad) = _; rw [e_12]; rfl) d_Mo_step_88 ?_
          refine ucVi (As := [.ref (ad b_11)]) (rest := []) G hP hD hS (cu_Mo_isAnyOn l D g ad y_j86 _ s_j86 a0 b_11 H.size h_a0 c_13 h) w9_Mo_isAnyOn q3826 ⟨Nat.le_of_ble_eq_true rfl, Nat.le_of_ble_eq_true rfl⟩ rfl rfl h_a0 (q := (RMo, TMo, 131)) rfl rfl hl.1 rfl (Nat.le_of_ble_eq_true rfl) rfl hd d_Mo_step_91 (fun r_14 s_15 H locs h hP hD hS => ?_)
          refine lv_if_ne (tgt := 99) G.1 G.2.1 d_Mo_step_94 (by decide) (fun c94 => ?_) (fun c94 => ?_)
          · skip
            have h := h.1 c94
            refine lv_iload_n G.1 G.2.1 d_Mo_step_99 rfl (lv_at hl 1 rfl) ?_
            refine lv_ldcw (v := 60000) G.1 G.2.1 G.2.2.2.2.2.2.1 (G.2.2.2.2.2.1 _ q3830) d_Mo_step_100 ?_
            refine lv_aload_n G.1 G.2.1 d_Mo_step_103 rfl (lv_at hl 0 rfl) ?_
            refine ugf (v := .int (sV s_15 a0 93)) G hP h_a0 iMo rfl 93 (by decide) rfl q3157 rfl rfl d_Mo_step_104 ?_
            refine lv_isub G.1 G.2.1 d_Mo_step_107 ?_
            refine lv_icmp_le (tgt := 114) G.1 G.2.1 d_Mo_step_108 (by decide) (fun c108 => ?_) (fun c108 => ?_)
            · skip
              have h := h.1 c108
              refine W.eq (g2 := F0 m 114 ls []) rfl ?_
              refine lv_aload_n G.1 G.2.1 d_Mo_step_114 rfl (lv_at hl 0 rfl) ?_
              refine lv_iload_n G.1 G.2.1 d_Mo_step_115 rfl (lv_at hl 1 rfl) ?_
              obtain ⟨mc_21, ms_22, hr_23, h⟩ := h
              refine uaVi (As := [.int x2j86]) (rest := []) G hP hD hS (ca_Mo_goOn l D g ad mc_21 ms_22 y_j86 _ s_15 a0 x2j86 H.size (us H) h_a0 h) w9_Mo_goOn q3831 ⟨Nat.le_of_ble_eq_true rfl, Nat.le_of_ble_eq_true rfl⟩ rfl rfl h_a0 (q := (RMo, TMo, 131)) rfl rfl hl.1 rfl (Nat.le_of_ble_eq_true rfl) rfl hr_23 d_Mo_step_116 (fun r_16 y_18 s_17 d_19 e_20 H locs h hP hD hS => ?_)
              have hl := lv_sub (l' := [(0, .ref (ad a0))]) hl [0] rfl
              obtain ⟨hd, h⟩ := h
              refine lv_istore_n (lv' := [(3, .int r_16), (0, .ref (ad a0))]) G.1 G.2.1 d_Mo_step_119 rfl hl (by decide) rfl (fun ls hl => ?_)
              refine lv_aload_n G.1 G.2.1 d_Mo_step_120 rfl (lv_at hl 1 rfl) ?_
              refine lv_dup G.1 G.2.1 d_Mo_step_121 rfl ?_
              refine ugf (v := .int (sV s_17 a0 93)) G hP h_a0 iMo rfl 93 (by decide) rfl q3157 rfl rfl d_Mo_step_122 ?_
              refine lv_aload_n G.1 G.2.1 d_Mo_step_125 rfl (lv_at hl 1 rfl) ?_
              refine ugf (v := .int (sV s_17 a0 83)) G hP h_a0 iMo rfl 83 (by decide) rfl q3147 rfl rfl d_Mo_step_126 ?_
              refine lv_iadd G.1 G.2.1 d_Mo_step_129 ?_
              refine upf G hP hD hS h 93 putV h_a0 iMo tMo tMo_ok nMo rfl (by decide) rfl q3157 rfl rfl fV rfl rfl d_Mo_step_130 (fun s_24 H locs h hP hD hS => ?_)
              refine lv_iload_n G.1 G.2.1 d_Mo_step_133 rfl (lv_at hl 0 rfl) ?_
              refine W.eq (g2 := F0 m 134 ls [.int r_16]) rfl ?_
              exact hret _ (y_18, s_24, d_j86 + d_19, e_j86 + e_20) _ _ _ _ _ ls h hP hD hS (Nat.le_refl _) (Nat.le_refl _) hd.1 hd.2 d_Mo_step_134
            · skip
              have h := h.2 c108
              refine W.eq (g2 := F0 m 111 ls []) rfl ?_
              refine lv_bipush (v := (-3)) G.1 G.2.1 d_Mo_step_111 (by decide) ?_
              exact hret _ (y_j86, s_15, d_j86, e_j86) _ _ _ _ _ ls h hP hD hS (Nat.le_refl _) (Nat.le_refl _) hd.1 hd.2 d_Mo_step_113
          · skip
            have h := h.2 c94
            refine lv_iconst (v := 0) G.1 G.2.1 d_Mo_step_97 (by decide) ?_
            exact hret _ (y_j86, s_15, d_j86, e_j86) _ _ _ _ _ ls h hP hD hS (Nat.le_refl _) (Nat.le_refl _) hd.1 hd.2 d_Mo_step_98
        refine W.eq (g2 := F0 m 46 ls [.int (-2), .int (sV s_5 b_9 0)]) rfl ?_
        refine lv_icmp_ne (tgt := 86) G.1 G.2.1 d_Mo_step_46 (by decide) (fun c46 => ?_) (fun c46 => ?_)
        · skip
          have h := h.1 c46
          exact J_86 y s_5 0 0 v2 H locs h hP hD hS ls (lv_sub hl [0, 2] rfl)
        · skip
          have h := h.2 c46
          refine lv_aload_n G.1 G.2.1 d_Mo_step_49 rfl (lv_at hl 0 rfl) ?_
          refine ugf (v := .ref (ad b_6)) G hP h_a0 iMo rfl 45 (by decide) rfl q3109 rfl (by show va_rf ((sO s_5 a0 45).map ad) = _; rw [e_7]; rfl) d_Mo_step_50 ?_
          refine ugfN (v := .ref (yP y b_6 62)) G hP c_8 iMw rfl 62 (by decide) rfl q2820 rfl rfl d_Mo_step_53 ?_
          refine lv_iconst (v := 1) G.1 G.2.1 d_Mo_step_56 (by decide) ?_
          refine uqald G hP (kdp c_8 rfl) (typ c_8 rfl) rfl h d_Mo_step_57 (fun b_25 n_26 h => ?_)
          refine ugfN (v := .int (sV s_5 b_25 0)) G hP (oa_13 c_8 n_26) iMr rfl 0 (by decide) rfl q2987 rfl rfl d_Mo_step_58 ?_
          refine lv_bipush (v := (-2)) G.1 G.2.1 d_Mo_step_61 (by decide) ?_
          refine lv_icmp_ne (tgt := 86) G.1 G.2.1 d_Mo_step_63 (by decide) (fun c63 => ?_) (fun c63 => ?_)
          · skip
            have h := h.1 c63
            exact J_86 y s_5 0 0 v2 H locs h hP hD hS ls (lv_sub hl [0, 2] rfl)
          · skip
            have h := h.2 c63
            refine lv_aload_n G.1 G.2.1 d_Mo_step_66 rfl (lv_at hl 0 rfl) ?_
            refine ugf (v := .ref (ad b_6)) G hP h_a0 iMo rfl 45 (by decide) rfl q3109 rfl (by show va_rf ((sO s_5 a0 45).map ad) = _; rw [e_7]; rfl) d_Mo_step_67 ?_
            refine ugfN (v := .ref (yP y b_6 62)) G hP c_8 iMw rfl 62 (by decide) rfl q2820 rfl rfl d_Mo_step_70 ?_
            refine W.eq (g2 := F0 m 73 ls [.ref (yP y b_6 62)]) rfl ?_
            refine lv_iconst (v := 2) G.1 G.2.1 d_Mo_step_73 (by decide) ?_
            refine uqald G hP (kdp c_8 rfl) (typ c_8 rfl) rfl h d_Mo_step_74 (fun b_27 n_28 h => ?_)
            refine ugfN (v := .int (sV s_5 b_27 0)) G hP (oa_13 c_8 n_28) iMr rfl 0 (by decide) rfl q2987 rfl rfl d_Mo_step_75 ?_
            refine lv_bipush (v := (-2)) G.1 G.2.1 d_Mo_step_78 (by decide) ?_
            refine lv_icmp_ne (tgt := 86) G.1 G.2.1 d_Mo_step_80 (by decide) (fun c80 => ?_) (fun c80 => ?_)
            · skip
              have h := h.1 c80
              exact J_86 y s_5 0 0 v2 H locs h hP hD hS ls (lv_sub hl [0, 2] rfl)
            · skip
              have h := h.2 c80
              refine lv_bipush (v := (-2)) G.1 G.2.1 d_Mo_step_83 (by decide) ?_
              exact hret _ (y, s_5, 0, 0) _ _ _ _ _ ls h hP hD hS (Nat.le_refl _) (Nat.le_refl _) hd.1 hd.2 d_Mo_step_85
      · skip
        have h := h.2 c17
        exact J_20 y s_2 0 0 H locs h hP hD hS ls (lv_sub hl [] rfl)
def y_Mo_put : MethodName := ⟨"ClassWorksModel", "put", "(I)V"⟩
abbrev b_Mo_put : ByteArray := prog_14_method_155_code
theorem d_Mo_put_0 : decode b_Mo_put 0 = .ok (.aload_n 0, 1) := by decide +kernel
theorem d_Mo_put_1 : decode b_Mo_put 1 = .ok (.aload_n 0, 1) := by decide +kernel
theorem d_Mo_put_2 : decode b_Mo_put 2 = .ok (.getfield 323, 3) := by decide +kernel
theorem d_Mo_put_5 : decode b_Mo_put 5 = .ok (.aload_n 0, 1) := by decide +kernel
theorem d_Mo_put_6 : decode b_Mo_put 6 = .ok (.getfield 1176, 3) := by decide +kernel
theorem d_Mo_put_9 : decode b_Mo_put 9 = .ok (.iconst 1, 1) := by decide +kernel
theorem d_Mo_put_10 : decode b_Mo_put 10 = .ok (.iadd, 1) := by decide +kernel
theorem d_Mo_put_11 : decode b_Mo_put 11 = .ok (.invokestatic 36, 3) := by decide +kernel
theorem d_Mo_put_14 : decode b_Mo_put 14 = .ok (.putfield 323, 3) := by decide +kernel
theorem d_Mo_put_17 : decode b_Mo_put 17 = .ok (.aload_n 0, 1) := by decide +kernel
theorem d_Mo_put_18 : decode b_Mo_put 18 = .ok (.getfield 323, 3) := by decide +kernel
theorem d_Mo_put_21 : decode b_Mo_put 21 = .ok (.aload_n 0, 1) := by decide +kernel
theorem d_Mo_put_22 : decode b_Mo_put 22 = .ok (.getfield 1176, 3) := by decide +kernel
theorem d_Mo_put_25 : decode b_Mo_put 25 = .ok (.iload_n 1, 1) := by decide +kernel
theorem d_Mo_put_26 : decode b_Mo_put 26 = .ok (.i2b, 1) := by decide +kernel
theorem d_Mo_put_27 : decode b_Mo_put 27 = .ok (.bastore, 1) := by decide +kernel
theorem d_Mo_put_28 : decode b_Mo_put 28 = .ok (.aload_n 0, 1) := by decide +kernel
theorem d_Mo_put_29 : decode b_Mo_put 29 = .ok (.dup, 1) := by decide +kernel
theorem d_Mo_put_30 : decode b_Mo_put 30 = .ok (.getfield 1176, 3) := by decide +kernel
theorem d_Mo_put_33 : decode b_Mo_put 33 = .ok (.iconst 1, 1) := by decide +kernel
theorem d_Mo_put_34 : decode b_Mo_put 34 = .ok (.iadd, 1) := by decide +kernel
theorem d_Mo_put_35 : decode b_Mo_put 35 = .ok (.putfield 1176, 3) := by decide +kernel
theorem d_Mo_put_38 : decode b_Mo_put 38 = .ok (.return_, 1) := by decide +kernel
abbrev ra_Mo_put (mc ms : Nat) : Room := { frames := 2, cells := mc, slots := ms, locals := 150 }
def wa_Mo_put (mc ms : Nat) (y : Ly) (Post : Ly → St → Nat → Nat → Prop) (σ : St) (a0 : Nat) (v1 : Int32) : Prop := xR mc ms 0 0 .byte y σ a0 94 ((sV σ a0 95) + 1) (fun (y_1 : Ly) (s_2 : St) (d_3 e_4 : Nat) => (d_3 ≤ mc ∧ e_4 ≤ ms) ∧ xS y_1 s_2 a0 94 (sV s_2 a0 95) (vp_nar .byte v1.toInt8.toInt32) (fun s_5 : St => xP (uV s_5 a0 95 ((sV s_5 a0 95) + 1)) (fun s_6 : St => Post y_1 s_6 d_3 e_4)))
set_option maxHeartbeats 4000000 in
set_option maxRecDepth 100000 in
theorem ca_Mo_put (l : Launch) (D : va_G) (g : Nat → ClassId) (ad : Nat → Nat) (mc ms : Nat) (y : Ly) (Post : Ly → St → Nat → Nat → Prop) (σ : St) (a0 : Nat) (v1 : Int32) (sz uz : Nat) (h_a0 : cl a0 = 14) (h : wa_Mo_put mc ms y Post σ a0 v1) : Met l y_Mo_put (mw y_Mo_put b_Mo_put 2 (none)) (ra_Mo_put mc ms) (PCu g D [] [.ref (ad a0), .int v1] sz uz (ws g ad y σ)) (va_Qv (fun (u : Ly × St × Nat × Nat) => Post u.1 u.2.1 u.2.2.1 u.2.2.2) (QU D (va_A (ws g ad y σ) sz) (fun u => ws g ad u.1 u.2.1) sz uz (fun u => u.2.2.1) (fun u => u.2.2.2)) (va_A (ws g ad y σ) sz)) mc ms (va_A (ws g ad y σ) sz) := by
  refine ofVu (by decide +kernel) (Nat.le_of_ble_eq_true rfl) ?_
  intro p e s m args below meth c A Q ls H locs G hsz hP hD hS hl hret
  subst hsz
  have hl : lv_has ls 2 [(0, .ref (ad a0)), (1, .int v1)] := hl
  have hd : 0 ≤ mc ∧ 0 ≤ ms := ⟨Nat.zero_le _, Nat.zero_le _⟩
  unfold wa_Mo_put at h
  refine lv_aload_n G.1 G.2.1 d_Mo_put_0 rfl (lv_at hl 0 rfl) ?_
  refine lv_aload_n G.1 G.2.1 d_Mo_put_1 rfl (lv_at hl 0 rfl) ?_
  refine ugf (v := .ref (yP y a0 94)) G hP h_a0 iMo rfl 94 (by decide) rfl q3158 rfl rfl d_Mo_put_2 ?_
  refine lv_aload_n G.1 G.2.1 d_Mo_put_5 rfl (lv_at hl 0 rfl) ?_
  refine ugf (v := .int (sV σ a0 95)) G hP h_a0 iMo rfl 95 (by decide) rfl q3159 rfl rfl d_Mo_put_6 ?_
  refine lv_iconst (v := 1) G.1 G.2.1 d_Mo_put_9 (by decide) ?_
  refine lv_iadd G.1 G.2.1 d_Mo_put_10 ?_
  refine uroom (C := RMo) (T := TMo) (N := 131) G hP hD hS (fun ws0 q1 q t n f sz he ht hn => c_Mo_roomy_k l D g ws0 q1 q t n f sz he ht hn) (fun ws0 q1 q t n f sz he hn ht hf => c_Mo_roomy_g l D g ws0 q1 q t n f sz he hn ht hf) w9_Mo_roomy q2591 ⟨Nat.le_of_ble_eq_true rfl, Nat.le_of_ble_eq_true rfl⟩ (Nat.le_refl _) (Nat.le_refl _) hd (by decide) h_a0 rfl rfl iMo tMo tMo_ok nMo rfl (by decide) q3158 rfl rfl (fun _ => rfl) (fun _ => rfl) hl.1 (Nat.le_of_ble_eq_true rfl) h d_Mo_put_11 d_Mo_put_14 (fun y_1 s_2 d_3 e_4 H locs h hP hD hS => ?_)
  obtain ⟨hd, h⟩ := h
  refine lv_aload_n G.1 G.2.1 d_Mo_put_17 rfl (lv_at hl 0 rfl) ?_
  refine ugf (v := .ref (yP y_1 a0 94)) G hP h_a0 iMo rfl 94 (by decide) rfl q3158 rfl rfl d_Mo_put_18 ?_
  refine lv_aload_n G.1 G.2.1 d_Mo_put_21 rfl (lv_at hl 0 rfl) ?_
  refine W.eq (g2 := F0 m 22 ls [.ref (ad a0), .ref (yP y_1 a0 94)]) rfl ?_
  refine ugf (v := .int (sV s_2 a0 95)) G hP h_a0 iMo rfl 95 (by decide) rfl q3159 rfl rfl d_Mo_put_22 ?_
  refine lv_iload_n G.1 G.2.1 d_Mo_put_25 rfl (lv_at hl 1 rfl) ?_
  refine lv_i2b G.1 G.2.1 d_Mo_put_26 rfl ?_
  refine ubast G hP hD hS (kdp h_a0 rfl) (typ h_a0 rfl) h d_Mo_put_27 (fun s_5 H locs h hP hD hS => ?_)
  refine lv_aload_n G.1 G.2.1 d_Mo_put_28 rfl (lv_at hl 0 rfl) ?_
  refine lv_dup G.1 G.2.1 d_Mo_put_29 rfl ?_
  refine ugf (v := .int (sV s_5 a0 95)) G hP h_a0 iMo rfl 95 (by decide) rfl q3159 rfl rfl d_Mo_put_30 ?_
  refine lv_iconst (v := 1) G.1 G.2.1 d_Mo_put_33 (by decide) ?_
  refine lv_iadd G.1 G.2.1 d_Mo_put_34 ?_
  refine upf G hP hD hS h 95 putV h_a0 iMo tMo tMo_ok nMo rfl (by decide) rfl q3159 rfl rfl fV rfl rfl d_Mo_put_35 (fun s_6 H locs h hP hD hS => ?_)
  exact hret (y_1, s_6, d_3, e_4) _ _ _ _ _ ls h hP hD hS (Nat.le_refl _) (Nat.le_refl _) hd.1 hd.2 d_Mo_put_38
theorem q4055 : Cond.methodLink "ClassWorksModel" 1179 y_Mo_put ∈ lw_ok := lw_okmem (List.mem_of_getElem? (i := 4055) (by decide +kernel)) rfl
theorem q4058 : Cond.code y_Mo_put b_Mo_put 2 (none) ∈ lw_ok := lw_okmem (List.mem_of_getElem? (i := 4058) (by decide +kernel)) rfl
theorem q4057 : Cond.instanceMethod y_Mo_put ∈ lw_ok := lw_okmem (List.mem_of_getElem? (i := 4057) (by decide +kernel)) rfl
theorem q296 : Cond.selects y_Mo_put.cls y_Mo_put y_Mo_put ∈ lw_ok := lw_okmem (List.mem_of_getElem? (i := 296) (by decide +kernel)) rfl
theorem w9_Mo_put : CWv y_Mo_put b_Mo_put 2 (none) 1 ∧ Cond.instanceMethod y_Mo_put ∈ lw_ok ∧ Cond.selects y_Mo_put.cls y_Mo_put y_Mo_put ∈ lw_ok := ⟨⟨q4058, q348, by decide +kernel, by decide +kernel, by decide +kernel⟩, q4057, q296⟩
def y_Mo_putWord : MethodName := ⟨"ClassWorksModel", "putWord", "(Ljava/lang/String;)V"⟩
abbrev b_Mo_putWord : ByteArray := prog_14_method_156_code
theorem d_Mo_putWord_0 : decode b_Mo_putWord 0 = .ok (.iconst 0, 1) := by decide +kernel
theorem d_Mo_putWord_1 : decode b_Mo_putWord 1 = .ok (.istore_n 2, 1) := by decide +kernel
theorem d_Mo_putWord_2 : decode b_Mo_putWord 2 = .ok (.iload_n 2, 1) := by decide +kernel
theorem d_Mo_putWord_3 : decode b_Mo_putWord 3 = .ok (.aload_n 1, 1) := by decide +kernel
theorem d_Mo_putWord_4 : decode b_Mo_putWord 4 = .ok (.invokevirtual 47, 3) := by decide +kernel
theorem d_Mo_putWord_7 : decode b_Mo_putWord 7 = .ok (.if_icmp .ge 18, 3) := by decide +kernel
theorem d_Mo_putWord_10 : decode b_Mo_putWord 10 = .ok (.aload_n 0, 1) := by decide +kernel
theorem d_Mo_putWord_11 : decode b_Mo_putWord 11 = .ok (.aload_n 1, 1) := by decide +kernel
theorem d_Mo_putWord_12 : decode b_Mo_putWord 12 = .ok (.iload_n 2, 1) := by decide +kernel
theorem d_Mo_putWord_13 : decode b_Mo_putWord 13 = .ok (.invokevirtual 56, 3) := by decide +kernel
theorem d_Mo_putWord_16 : decode b_Mo_putWord 16 = .ok (.invokevirtual 1179, 3) := by decide +kernel
theorem d_Mo_putWord_19 : decode b_Mo_putWord 19 = .ok (.iinc 2 1, 3) := by decide +kernel
theorem d_Mo_putWord_22 : decode b_Mo_putWord 22 = .ok (.goto (-20), 3) := by decide +kernel
theorem d_Mo_putWord_25 : decode b_Mo_putWord 25 = .ok (.return_, 1) := by decide +kernel
abbrev ra_Mo_putWord (mc ms : Nat) : Room := { frames := 4, cells := mc, slots := ms, locals := 171 }
def wba_Mo_putWord_2 (mc ms : Nat) (Post : Ly → St → Nat → Nat → Prop) (K_2 : Ly → St → Nat → Nat → Int32 → Prop) (a0 : Nat) (n1 : Nat) (y_h2 : Ly) (s_h2 : St) (d_h2 e_h2 : Nat) (x2h2 : Int32) : Prop := (d_h2 ≤ mc ∧ e_h2 ≤ ms) ∧ (((nI (stb n1).length) ≤ x2h2 → Post y_h2 s_h2 d_h2 e_h2) ∧ (¬ ((nI (stb n1).length) ≤ x2h2) → xH n1 x2h2 (fun x_1 : Int32 => ∃ mc_7 ms_8 : Nat, (d_h2 + mc_7 ≤ mc ∧ e_h2 + ms_8 ≤ ms) ∧ wa_Mo_put mc_7 ms_8 y_h2 (fun (y_4 : Ly) (s_3 : St) (d_5 e_6 : Nat) => (d_h2 + d_5 ≤ mc ∧ e_h2 + e_6 ≤ ms) ∧ K_2 y_4 s_3 (d_h2 + d_5) (e_h2 + e_6) (x2h2 + 1)) s_h2 a0 x_1)))
def wla_Mo_putWord_2 (mc ms : Nat) (Post : Ly → St → Nat → Nat → Prop) (a0 : Nat) (n1 : Nat) (y_h2 : Ly) (s_h2 : St) (d_h2 e_h2 : Nat) (x2h2 : Int32) : Prop := ∃ (I : Ly → St → Nat → Nat → Int32 → Prop) (μ : Ly → St → Nat → Nat → Int32 → Nat), I y_h2 s_h2 d_h2 e_h2 x2h2 ∧ ∀ (u1 : Ly) (u2 : St) (u3 u4 : Nat) (t0 : Int32), I u1 u2 u3 u4 t0 → wba_Mo_putWord_2 mc ms Post (fun z1 z2 z3 z4 t0q => I z1 z2 z3 z4 t0q ∧ μ z1 z2 z3 z4 t0q < μ u1 u2 u3 u4 t0) a0 n1 u1 u2 u3 u4 t0
def wa_Mo_putWord (mc ms : Nat) (y : Ly) (Post : Ly → St → Nat → Nat → Prop) (σ : St) (a0 : Nat) (n1 : Nat) : Prop := wla_Mo_putWord_2 mc ms Post a0 n1 y σ 0 0 0
set_option maxHeartbeats 4000000 in
set_option maxRecDepth 100000 in
theorem ca_Mo_putWord (l : Launch) (D : va_G) (g : Nat → ClassId) (F : Nat → SL) (sl : List SL) (hF : SOK F sl) (ad : Nat → Nat) (mc ms : Nat) (y : Ly) (Post : Ly → St → Nat → Nat → Prop) (σ : St) (a0 : Nat) (n1 : Nat) (sz uz : Nat) (h_a0 : cl a0 = 14) (h_n1 : n1 < strT.length) (h : wa_Mo_putWord mc ms y Post σ a0 n1) : Met l y_Mo_putWord (mw y_Mo_putWord b_Mo_putWord 3 (none)) (ra_Mo_putWord mc ms) (PCu g D sl [.ref (ad a0), .ref (sk (F n1))] sz uz (ws g ad y σ)) (va_Qv (fun (u : Ly × St × Nat × Nat) => Post u.1 u.2.1 u.2.2.1 u.2.2.2) (QU D (va_A (ws g ad y σ) sz) (fun u => ws g ad u.1 u.2.1) sz uz (fun u => u.2.2.1) (fun u => u.2.2.2)) (va_A (ws g ad y σ) sz)) mc ms (va_A (ws g ad y σ) sz) := by
  refine ofVu (by decide +kernel) (Nat.le_of_ble_eq_true rfl) ?_
  intro p e s m args below meth c A Q ls H locs G hsz hP hD hS hl hret
  subst hsz
  have hl : lv_has ls 3 [(0, .ref (ad a0)), (1, .ref (sk (F n1)))] := hl
  have hd : 0 ≤ mc ∧ 0 ≤ ms := ⟨Nat.zero_le _, Nat.zero_le _⟩
  unfold wa_Mo_putWord at h
  refine lv_iconst (v := 0) G.1 G.2.1 d_Mo_putWord_0 (by decide) ?_
  refine lv_istore_n (lv' := [(2, .int 0), (0, .ref (ad a0)), (1, .ref (sk (F n1)))]) G.1 G.2.1 d_Mo_putWord_1 rfl hl (by decide) rfl (fun ls hl => ?_)
  unfold wla_Mo_putWord_2 at h
  obtain ⟨I_2, μ_2, hI_2, hB_2⟩ := h
  have L_2 : ∀ (n_2 : Nat) (y_h2 : Ly) (s_h2 : St) (d_h2 e_h2 : Nat) (x2h2 : Int32), μ_2 y_h2 s_h2 d_h2 e_h2 x2h2 < n_2 → I_2 y_h2 s_h2 d_h2 e_h2 x2h2 → ∀ (H : Heap) (locs : List Loc), va_P D CL (ws g ad y_h2 s_h2) H → va_D A (ws g ad y_h2 s_h2) → va_S A s.heap H locs → ∀ ls, lv_has ls 3 [(0, .ref (ad a0)), (1, .ref (sk (F n1))), (2, .int x2h2)] → W p l e (ra_Mo_putWord mc ms) s m args below meth c H locs d_h2 e_h2 Q (F0 m 2 ls []) := by
    intro n_2
    induction n_2 with
    | zero => intro y_h2 s_h2 d_h2 e_h2 x2h2 hμ; exact absurd hμ (Nat.not_lt_zero _)
    | succ n_2 ih_2 =>
      intro y_h2 s_h2 d_h2 e_h2 x2h2 hμ_2 hJ H locs hP hD hS ls hl
      obtain ⟨K_2, hK_2, h⟩ : ∃ K : Ly → St → Nat → Nat → Int32 → Prop, (∀ z1 z2 z3 z4 (t0 : Int32), K z1 z2 z3 z4 t0 → I_2 z1 z2 z3 z4 t0 ∧ μ_2 z1 z2 z3 z4 t0 < μ_2 y_h2 s_h2 d_h2 e_h2 x2h2) ∧ wba_Mo_putWord_2 mc ms Post K a0 n1 y_h2 s_h2 d_h2 e_h2 x2h2 := ⟨_, fun _ _ _ _ _ h => h, hB_2 y_h2 s_h2 d_h2 e_h2 x2h2 hJ⟩
      unfold wba_Mo_putWord_2 at h
      obtain ⟨hd, h⟩ := h
      refine lv_iload_n G.1 G.2.1 d_Mo_putWord_2 rfl (lv_at hl 2 rfl) ?_
      refine lv_aload_n G.1 G.2.1 d_Mo_putWord_3 rfl (lv_at hl 1 rfl) ?_
      refine ulen hF h_n1 G hP hD hS w9_Js_length q2581 ⟨Nat.le_of_ble_eq_true rfl, Nat.le_of_ble_eq_true rfl⟩ hl.1 (Nat.le_of_ble_eq_true rfl) hd d_Mo_putWord_4 (fun H locs hP hD hS => ?_)
      refine lv_icmp_ge (tgt := 25) G.1 G.2.1 d_Mo_putWord_7 (by decide) (fun c7 => ?_) (fun c7 => ?_)
      · skip
        have h := h.1 c7
        exact hret (y_h2, s_h2, d_h2, e_h2) _ _ _ _ _ ls h hP hD hS (Nat.le_refl _) (Nat.le_refl _) hd.1 hd.2 d_Mo_putWord_25
      · skip
        have h := h.2 c7
        refine lv_aload_n G.1 G.2.1 d_Mo_putWord_10 rfl (lv_at hl 0 rfl) ?_
        refine lv_aload_n G.1 G.2.1 d_Mo_putWord_11 rfl (lv_at hl 1 rfl) ?_
        refine lv_iload_n G.1 G.2.1 d_Mo_putWord_12 rfl (lv_at hl 2 rfl) ?_
        refine uchar hF h_n1 G hP hD hS h w9_Js_charAt q2582 ⟨Nat.le_of_ble_eq_true rfl, Nat.le_of_ble_eq_true rfl⟩ hl.1 (Nat.le_of_ble_eq_true rfl) hd d_Mo_putWord_13 (fun x_1 H locs h hP hD hS => ?_)
        obtain ⟨mc_7, ms_8, hr_9, h⟩ := h
        refine uaVv (As := [.int x_1]) (rest := []) G hP hD hS (ca_Mo_put l D g ad mc_7 ms_8 y_h2 _ s_h2 a0 x_1 H.size (us H) h_a0 h) w9_Mo_put q4055 ⟨Nat.le_of_ble_eq_true rfl, Nat.le_of_ble_eq_true rfl⟩ rfl rfl h_a0 (q := (RMo, TMo, 131)) rfl rfl hl.1 rfl (Nat.le_of_ble_eq_true rfl) rfl hr_9 d_Mo_putWord_16 (fun y_4 s_3 d_5 e_6 H locs h hP hD hS => ?_)
        obtain ⟨hd, h⟩ := h
        refine lv_iinc (v := x2h2 + 1) (lv' := [(2, .int (x2h2 + 1)), (0, .ref (ad a0)), (1, .ref (sk (F n1)))]) G.1 G.2.1 d_Mo_putWord_19 hl (k := 2) rfl rfl (by decide) rfl (fun ls hl => ?_)
        refine lv_goto (tgt := 2) G.1 G.2.1 d_Mo_putWord_22 (by decide) ?_
        have h := hK_2 y_4 s_3 (d_h2 + d_5) (e_h2 + e_6) (x2h2 + 1) h
        exact ih_2 y_4 s_3 (d_h2 + d_5) (e_h2 + e_6) (x2h2 + 1) (Nat.lt_of_lt_of_le h.2 (Nat.le_of_lt_succ hμ_2)) h.1 H locs hP hD hS ls (lv_sub hl [1, 2, 0] rfl)
  exact L_2 _ y σ 0 0 0 (Nat.lt_succ_self _) hI_2 H locs hP hD hS ls (lv_sub hl [1, 2, 0] rfl)
theorem q4051 : Cond.methodLink "ClassWorksModel" 1187 y_Mo_putWord ∈ lw_ok := lw_okmem (List.mem_of_getElem? (i := 4051) (by decide +kernel)) rfl
theorem q4054 : Cond.code y_Mo_putWord b_Mo_putWord 3 (none) ∈ lw_ok := lw_okmem (List.mem_of_getElem? (i := 4054) (by decide +kernel)) rfl
theorem q4053 : Cond.instanceMethod y_Mo_putWord ∈ lw_ok := lw_okmem (List.mem_of_getElem? (i := 4053) (by decide +kernel)) rfl
theorem q295 : Cond.selects y_Mo_putWord.cls y_Mo_putWord y_Mo_putWord ∈ lw_ok := lw_okmem (List.mem_of_getElem? (i := 295) (by decide +kernel)) rfl
theorem w9_Mo_putWord : CWv y_Mo_putWord b_Mo_putWord 3 (none) 1 ∧ Cond.instanceMethod y_Mo_putWord ∈ lw_ok ∧ Cond.selects y_Mo_putWord.cls y_Mo_putWord y_Mo_putWord ∈ lw_ok := ⟨⟨q4054, q348, by decide +kernel, by decide +kernel, by decide +kernel⟩, q4053, q295⟩
def y_Mo_putFlag : MethodName := ⟨"ClassWorksModel", "putFlag", "(ZLjava/lang/String;)V"⟩
abbrev b_Mo_putFlag : ByteArray := prog_14_method_161_code
theorem d_Mo_putFlag_0 : decode b_Mo_putFlag 0 = .ok (.iload_n 1, 1) := by decide +kernel
theorem d_Mo_putFlag_1 : decode b_Mo_putFlag 1 = .ok (.ifCond .eq 8, 3) := by decide +kernel
theorem d_Mo_putFlag_4 : decode b_Mo_putFlag 4 = .ok (.aload_n 0, 1) := by decide +kernel
theorem d_Mo_putFlag_5 : decode b_Mo_putFlag 5 = .ok (.aload_n 2, 1) := by decide +kernel
theorem d_Mo_putFlag_6 : decode b_Mo_putFlag 6 = .ok (.invokevirtual 1187, 3) := by decide +kernel
theorem d_Mo_putFlag_9 : decode b_Mo_putFlag 9 = .ok (.return_, 1) := by decide +kernel
abbrev ra_Mo_putFlag (mc ms : Nat) : Room := { frames := 5, cells := mc, slots := ms, locals := 193 }
def wja_Mo_putFlag_9 (mc ms : Nat) (Post : Ly → St → Nat → Nat → Prop) (a0 : Nat) (n2 : Nat) (y_j9 : Ly) (s_j9 : St) (d_j9 e_j9 : Nat) : Prop := (d_j9 ≤ mc ∧ e_j9 ≤ ms) ∧ Post y_j9 s_j9 d_j9 e_j9
def wa_Mo_putFlag (mc ms : Nat) (y : Ly) (Post : Ly → St → Nat → Nat → Prop) (σ : St) (a0 : Nat) (v1 : Int32) (n2 : Nat) : Prop := ((v1 = 0 → wja_Mo_putFlag_9 mc ms Post a0 n2 y σ 0 0) ∧ (¬ (v1 = 0) → ∃ mc_6 ms_7 : Nat, (0 + mc_6 ≤ mc ∧ 0 + ms_7 ≤ ms) ∧ wa_Mo_putWord mc_6 ms_7 y (fun (y_3 : Ly) (s_2 : St) (d_4 e_5 : Nat) => (0 + d_4 ≤ mc ∧ 0 + e_5 ≤ ms) ∧ wja_Mo_putFlag_9 mc ms Post a0 n2 y_3 s_2 (0 + d_4) (0 + e_5)) σ a0 n2))
set_option maxHeartbeats 4000000 in
set_option maxRecDepth 100000 in
theorem ca_Mo_putFlag (l : Launch) (D : va_G) (g : Nat → ClassId) (F : Nat → SL) (sl : List SL) (hF : SOK F sl) (ad : Nat → Nat) (mc ms : Nat) (y : Ly) (Post : Ly → St → Nat → Nat → Prop) (σ : St) (a0 : Nat) (v1 : Int32) (n2 : Nat) (sz uz : Nat) (h_a0 : cl a0 = 14) (h_n2 : n2 < strT.length) (h : wa_Mo_putFlag mc ms y Post σ a0 v1 n2) : Met l y_Mo_putFlag (mw y_Mo_putFlag b_Mo_putFlag 3 (none)) (ra_Mo_putFlag mc ms) (PCu g D sl [.ref (ad a0), .int v1, .ref (sk (F n2))] sz uz (ws g ad y σ)) (va_Qv (fun (u : Ly × St × Nat × Nat) => Post u.1 u.2.1 u.2.2.1 u.2.2.2) (QU D (va_A (ws g ad y σ) sz) (fun u => ws g ad u.1 u.2.1) sz uz (fun u => u.2.2.1) (fun u => u.2.2.2)) (va_A (ws g ad y σ) sz)) mc ms (va_A (ws g ad y σ) sz) := by
  refine ofVu (by decide +kernel) (Nat.le_of_ble_eq_true rfl) ?_
  intro p e s m args below meth c A Q ls H locs G hsz hP hD hS hl hret
  subst hsz
  have hl : lv_has ls 3 [(0, .ref (ad a0)), (1, .int v1), (2, .ref (sk (F n2)))] := hl
  have hd : 0 ≤ mc ∧ 0 ≤ ms := ⟨Nat.zero_le _, Nat.zero_le _⟩
  unfold wa_Mo_putFlag at h
  refine lv_iload_n G.1 G.2.1 d_Mo_putFlag_0 rfl (lv_at hl 1 rfl) ?_
  have J_9 : ∀ (y_j9 : Ly) (s_j9 : St) (d_j9 e_j9 : Nat) (H : Heap) (locs : List Loc), wja_Mo_putFlag_9 mc ms Post a0 n2 y_j9 s_j9 d_j9 e_j9 → va_P D CL (ws g ad y_j9 s_j9) H → va_D A (ws g ad y_j9 s_j9) → va_S A s.heap H locs → ∀ ls, lv_has ls 3 [] → W p l e (ra_Mo_putFlag mc ms) s m args below meth c H locs d_j9 e_j9 Q (F0 m 9 ls []) := by
    intro y_j9 s_j9 d_j9 e_j9 H locs h hP hD hS ls hl
    unfold wja_Mo_putFlag_9 at h
    obtain ⟨hd, h⟩ := h
    exact hret (y_j9, s_j9, d_j9, e_j9) _ _ _ _ _ ls h hP hD hS (Nat.le_refl _) (Nat.le_refl _) hd.1 hd.2 d_Mo_putFlag_9
  refine lv_if_eq (tgt := 9) G.1 G.2.1 d_Mo_putFlag_1 (by decide) (fun c1 => ?_) (fun c1 => ?_)
  · skip
    have h := h.1 c1
    exact J_9 y σ 0 0 H locs h hP hD hS ls (lv_sub hl [] rfl)
  · skip
    have h := h.2 c1
    refine lv_aload_n G.1 G.2.1 d_Mo_putFlag_4 rfl (lv_at hl 0 rfl) ?_
    refine lv_aload_n G.1 G.2.1 d_Mo_putFlag_5 rfl (lv_at hl 2 rfl) ?_
    obtain ⟨mc_6, ms_7, hr_8, h⟩ := h
    refine utVv (As := [.ref (sk (F n2))]) (rest := []) G hP hD hS (ca_Mo_putWord l D g F sl hF ad mc_6 ms_7 y _ σ a0 n2 H.size (us H) h_a0 h_n2 h) w9_Mo_putWord q4051 ⟨Nat.le_of_ble_eq_true rfl, Nat.le_of_ble_eq_true rfl⟩ rfl rfl h_a0 (q := (RMo, TMo, 131)) rfl rfl hl.1 rfl (Nat.le_of_ble_eq_true rfl) rfl hr_8 d_Mo_putFlag_6 (fun y_3 s_2 d_4 e_5 H locs h hP hD hS => ?_)
    have hl := lv_sub (l' := []) hl [] rfl
    obtain ⟨hd, h⟩ := h
    exact J_9 y_3 s_2 (0 + d_4) (0 + e_5) H locs h hP hD hS ls (lv_sub hl [] rfl)
def y_Mo_putName : MethodName := ⟨"ClassWorksModel", "putName", "(I)V"⟩
abbrev b_Mo_putName : ByteArray := prog_14_method_157_code
theorem d_Mo_putName_0 : decode b_Mo_putName 0 = .ok (.iconst 0, 1) := by decide +kernel
theorem d_Mo_putName_1 : decode b_Mo_putName 1 = .ok (.istore_n 2, 1) := by decide +kernel
theorem d_Mo_putName_2 : decode b_Mo_putName 2 = .ok (.iload_n 2, 1) := by decide +kernel
theorem d_Mo_putName_3 : decode b_Mo_putName 3 = .ok (.aload_n 0, 1) := by decide +kernel
theorem d_Mo_putName_4 : decode b_Mo_putName 4 = .ok (.getfield 40, 3) := by decide +kernel
theorem d_Mo_putName_7 : decode b_Mo_putName 7 = .ok (.iload_n 1, 1) := by decide +kernel
theorem d_Mo_putName_8 : decode b_Mo_putName 8 = .ok (.baload, 1) := by decide +kernel
theorem d_Mo_putName_9 : decode b_Mo_putName 9 = .ok (.if_icmp .ge 24, 3) := by decide +kernel
theorem d_Mo_putName_12 : decode b_Mo_putName 12 = .ok (.aload_n 0, 1) := by decide +kernel
theorem d_Mo_putName_13 : decode b_Mo_putName 13 = .ok (.aload_n 0, 1) := by decide +kernel
theorem d_Mo_putName_14 : decode b_Mo_putName 14 = .ok (.getfield 28, 3) := by decide +kernel
theorem d_Mo_putName_17 : decode b_Mo_putName 17 = .ok (.bipush 12, 2) := by decide +kernel
theorem d_Mo_putName_19 : decode b_Mo_putName 19 = .ok (.iload_n 1, 1) := by decide +kernel
theorem d_Mo_putName_20 : decode b_Mo_putName 20 = .ok (.imul, 1) := by decide +kernel
theorem d_Mo_putName_21 : decode b_Mo_putName 21 = .ok (.iload_n 2, 1) := by decide +kernel
theorem d_Mo_putName_22 : decode b_Mo_putName 22 = .ok (.iadd, 1) := by decide +kernel
theorem d_Mo_putName_23 : decode b_Mo_putName 23 = .ok (.baload, 1) := by decide +kernel
theorem d_Mo_putName_24 : decode b_Mo_putName 24 = .ok (.invokevirtual 1179, 3) := by decide +kernel
theorem d_Mo_putName_27 : decode b_Mo_putName 27 = .ok (.iinc 2 1, 3) := by decide +kernel
theorem d_Mo_putName_30 : decode b_Mo_putName 30 = .ok (.goto (-28), 3) := by decide +kernel
theorem d_Mo_putName_33 : decode b_Mo_putName 33 = .ok (.return_, 1) := by decide +kernel
abbrev ra_Mo_putName (mc ms : Nat) : Room := { frames := 3, cells := mc, slots := ms, locals := 171 }
def wba_Mo_putName_2 (mc ms : Nat) (Post : Ly → St → Nat → Nat → Prop) (K_2 : Ly → St → Nat → Nat → Int32 → Int32 → Prop) (a0 : Nat) (y_h2 : Ly) (s_h2 : St) (d_h2 e_h2 : Nat) (x1h2 : Int32) (x2h2 : Int32) : Prop := (d_h2 ≤ mc ∧ e_h2 ≤ ms) ∧ xA y_h2 s_h2 a0 1 x1h2 (fun x_1 : Int32 => ((x_1 ≤ x2h2 → Post y_h2 s_h2 d_h2 e_h2) ∧ (¬ (x_1 ≤ x2h2) → xA y_h2 s_h2 a0 0 ((12 * x1h2) + x2h2) (fun x_2 : Int32 => ∃ mc_8 ms_9 : Nat, (d_h2 + mc_8 ≤ mc ∧ e_h2 + ms_9 ≤ ms) ∧ wa_Mo_put mc_8 ms_9 y_h2 (fun (y_5 : Ly) (s_4 : St) (d_6 e_7 : Nat) => (d_h2 + d_6 ≤ mc ∧ e_h2 + e_7 ≤ ms) ∧ K_2 y_5 s_4 (d_h2 + d_6) (e_h2 + e_7) x1h2 (x2h2 + 1)) s_h2 a0 x_2))))
def wla_Mo_putName_2 (mc ms : Nat) (Post : Ly → St → Nat → Nat → Prop) (a0 : Nat) (y_h2 : Ly) (s_h2 : St) (d_h2 e_h2 : Nat) (x1h2 : Int32) (x2h2 : Int32) : Prop := ∃ (I : Ly → St → Nat → Nat → Int32 → Int32 → Prop) (μ : Ly → St → Nat → Nat → Int32 → Int32 → Nat), I y_h2 s_h2 d_h2 e_h2 x1h2 x2h2 ∧ ∀ (u1 : Ly) (u2 : St) (u3 u4 : Nat) (t0 : Int32) (t1 : Int32), I u1 u2 u3 u4 t0 t1 → wba_Mo_putName_2 mc ms Post (fun z1 z2 z3 z4 t0q t1q => I z1 z2 z3 z4 t0q t1q ∧ μ z1 z2 z3 z4 t0q t1q < μ u1 u2 u3 u4 t0 t1) a0 u1 u2 u3 u4 t0 t1
def wa_Mo_putName (mc ms : Nat) (y : Ly) (Post : Ly → St → Nat → Nat → Prop) (σ : St) (a0 : Nat) (v1 : Int32) : Prop := wla_Mo_putName_2 mc ms Post a0 y σ 0 0 v1 0
set_option maxHeartbeats 4000000 in
set_option maxRecDepth 100000 in
theorem ca_Mo_putName (l : Launch) (D : va_G) (g : Nat → ClassId) (ad : Nat → Nat) (mc ms : Nat) (y : Ly) (Post : Ly → St → Nat → Nat → Prop) (σ : St) (a0 : Nat) (v1 : Int32) (sz uz : Nat) (h_a0 : cl a0 = 14) (h : wa_Mo_putName mc ms y Post σ a0 v1) : Met l y_Mo_putName (mw y_Mo_putName b_Mo_putName 3 (none)) (ra_Mo_putName mc ms) (PCu g D [] [.ref (ad a0), .int v1] sz uz (ws g ad y σ)) (va_Qv (fun (u : Ly × St × Nat × Nat) => Post u.1 u.2.1 u.2.2.1 u.2.2.2) (QU D (va_A (ws g ad y σ) sz) (fun u => ws g ad u.1 u.2.1) sz uz (fun u => u.2.2.1) (fun u => u.2.2.2)) (va_A (ws g ad y σ) sz)) mc ms (va_A (ws g ad y σ) sz) := by
  refine ofVu (by decide +kernel) (Nat.le_of_ble_eq_true rfl) ?_
  intro p e s m args below meth c A Q ls H locs G hsz hP hD hS hl hret
  subst hsz
  have hl : lv_has ls 3 [(0, .ref (ad a0)), (1, .int v1)] := hl
  have hd : 0 ≤ mc ∧ 0 ≤ ms := ⟨Nat.zero_le _, Nat.zero_le _⟩
  unfold wa_Mo_putName at h
  refine lv_iconst (v := 0) G.1 G.2.1 d_Mo_putName_0 (by decide) ?_
  refine lv_istore_n (lv' := [(2, .int 0), (0, .ref (ad a0)), (1, .int v1)]) G.1 G.2.1 d_Mo_putName_1 rfl hl (by decide) rfl (fun ls hl => ?_)
  unfold wla_Mo_putName_2 at h
  obtain ⟨I_2, μ_2, hI_2, hB_2⟩ := h
  have L_2 : ∀ (n_2 : Nat) (y_h2 : Ly) (s_h2 : St) (d_h2 e_h2 : Nat) (x1h2 : Int32) (x2h2 : Int32), μ_2 y_h2 s_h2 d_h2 e_h2 x1h2 x2h2 < n_2 → I_2 y_h2 s_h2 d_h2 e_h2 x1h2 x2h2 → ∀ (H : Heap) (locs : List Loc), va_P D CL (ws g ad y_h2 s_h2) H → va_D A (ws g ad y_h2 s_h2) → va_S A s.heap H locs → ∀ ls, lv_has ls 3 [(0, .ref (ad a0)), (1, .int x1h2), (2, .int x2h2)] → W p l e (ra_Mo_putName mc ms) s m args below meth c H locs d_h2 e_h2 Q (F0 m 2 ls []) := by
    intro n_2
    induction n_2 with
    | zero => intro y_h2 s_h2 d_h2 e_h2 x1h2 x2h2 hμ; exact absurd hμ (Nat.not_lt_zero _)
    | succ n_2 ih_2 =>
      intro y_h2 s_h2 d_h2 e_h2 x1h2 x2h2 hμ_2 hJ H locs hP hD hS ls hl
      obtain ⟨K_2, hK_2, h⟩ : ∃ K : Ly → St → Nat → Nat → Int32 → Int32 → Prop, (∀ z1 z2 z3 z4 (t0 : Int32) (t1 : Int32), K z1 z2 z3 z4 t0 t1 → I_2 z1 z2 z3 z4 t0 t1 ∧ μ_2 z1 z2 z3 z4 t0 t1 < μ_2 y_h2 s_h2 d_h2 e_h2 x1h2 x2h2) ∧ wba_Mo_putName_2 mc ms Post K a0 y_h2 s_h2 d_h2 e_h2 x1h2 x2h2 := ⟨_, fun _ _ _ _ _ _ h => h, hB_2 y_h2 s_h2 d_h2 e_h2 x1h2 x2h2 hJ⟩
      unfold wba_Mo_putName_2 at h
      obtain ⟨hd, h⟩ := h
      refine lv_iload_n G.1 G.2.1 d_Mo_putName_2 rfl (lv_at hl 2 rfl) ?_
      refine lv_aload_n G.1 G.2.1 d_Mo_putName_3 rfl (lv_at hl 0 rfl) ?_
      refine ugf (v := .ref (yP y_h2 a0 1)) G hP h_a0 iMo rfl 1 (by decide) rfl q3065 rfl rfl d_Mo_putName_4 ?_
      refine lv_iload_n G.1 G.2.1 d_Mo_putName_7 rfl (lv_at hl 1 rfl) ?_
      refine ubald G hP (kdp h_a0 rfl) (typ h_a0 rfl) h d_Mo_putName_8 (fun x_1 h => ?_)
      refine lv_icmp_ge (tgt := 33) G.1 G.2.1 d_Mo_putName_9 (by decide) (fun c9 => ?_) (fun c9 => ?_)
      · skip
        have h := h.1 c9
        exact hret (y_h2, s_h2, d_h2, e_h2) _ _ _ _ _ ls h hP hD hS (Nat.le_refl _) (Nat.le_refl _) hd.1 hd.2 d_Mo_putName_33
      · skip
        have h := h.2 c9
        refine lv_aload_n G.1 G.2.1 d_Mo_putName_12 rfl (lv_at hl 0 rfl) ?_
        refine lv_aload_n G.1 G.2.1 d_Mo_putName_13 rfl (lv_at hl 0 rfl) ?_
        refine ugf (v := .ref (yP y_h2 a0 0)) G hP h_a0 iMo rfl 0 (by decide) rfl q3064 rfl rfl d_Mo_putName_14 ?_
        refine lv_bipush (v := 12) G.1 G.2.1 d_Mo_putName_17 (by decide) ?_
        refine lv_iload_n G.1 G.2.1 d_Mo_putName_19 rfl (lv_at hl 1 rfl) ?_
        refine W.eq (g2 := F0 m 20 ls [.int x1h2, .int 12, .ref (yP y_h2 a0 0), .ref (ad a0)]) rfl ?_
        refine lv_imul G.1 G.2.1 d_Mo_putName_20 ?_
        refine lv_iload_n G.1 G.2.1 d_Mo_putName_21 rfl (lv_at hl 2 rfl) ?_
        refine lv_iadd G.1 G.2.1 d_Mo_putName_22 ?_
        refine ubald G hP (kdp h_a0 rfl) (typ h_a0 rfl) h d_Mo_putName_23 (fun x_2 h => ?_)
        obtain ⟨mc_8, ms_9, hr_10, h⟩ := h
        refine uaVv (As := [.int x_2]) (rest := []) G hP hD hS (ca_Mo_put l D g ad mc_8 ms_9 y_h2 _ s_h2 a0 x_2 H.size (us H) h_a0 h) w9_Mo_put q4055 ⟨Nat.le_of_ble_eq_true rfl, Nat.le_of_ble_eq_true rfl⟩ rfl rfl h_a0 (q := (RMo, TMo, 131)) rfl rfl hl.1 rfl (Nat.le_of_ble_eq_true rfl) rfl hr_10 d_Mo_putName_24 (fun y_5 s_4 d_6 e_7 H locs h hP hD hS => ?_)
        obtain ⟨hd, h⟩ := h
        refine lv_iinc (v := x2h2 + 1) (lv' := [(2, .int (x2h2 + 1)), (0, .ref (ad a0)), (1, .int x1h2)]) G.1 G.2.1 d_Mo_putName_27 hl (k := 2) rfl rfl (by decide) rfl (fun ls hl => ?_)
        refine lv_goto (tgt := 2) G.1 G.2.1 d_Mo_putName_30 (by decide) ?_
        have h := hK_2 y_5 s_4 (d_h2 + d_6) (e_h2 + e_7) x1h2 (x2h2 + 1) h
        exact ih_2 y_5 s_4 (d_h2 + d_6) (e_h2 + e_7) x1h2 (x2h2 + 1) (Nat.lt_of_lt_of_le h.2 (Nat.le_of_lt_succ hμ_2)) h.1 H locs hP hD hS ls (lv_sub hl [1, 2, 0] rfl)
  exact L_2 _ y σ 0 0 v1 0 (Nat.lt_succ_self _) hI_2 H locs hP hD hS ls (lv_sub hl [1, 2, 0] rfl)
theorem q4047 : Cond.methodLink "ClassWorksModel" 1201 y_Mo_putFlag ∈ lw_ok := lw_okmem (List.mem_of_getElem? (i := 4047) (by decide +kernel)) rfl
theorem q4050 : Cond.code y_Mo_putFlag b_Mo_putFlag 3 (none) ∈ lw_ok := lw_okmem (List.mem_of_getElem? (i := 4050) (by decide +kernel)) rfl
theorem q4049 : Cond.instanceMethod y_Mo_putFlag ∈ lw_ok := lw_okmem (List.mem_of_getElem? (i := 4049) (by decide +kernel)) rfl
theorem q294 : Cond.selects y_Mo_putFlag.cls y_Mo_putFlag y_Mo_putFlag ∈ lw_ok := lw_okmem (List.mem_of_getElem? (i := 294) (by decide +kernel)) rfl
theorem w9_Mo_putFlag : CWv y_Mo_putFlag b_Mo_putFlag 3 (none) 2 ∧ Cond.instanceMethod y_Mo_putFlag ∈ lw_ok ∧ Cond.selects y_Mo_putFlag.cls y_Mo_putFlag y_Mo_putFlag ∈ lw_ok := ⟨⟨q4050, q348, by decide +kernel, by decide +kernel, by decide +kernel⟩, q4049, q294⟩
def y_Mo_putFlags : MethodName := ⟨"ClassWorksModel", "putFlags", "(I)V"⟩
abbrev b_Mo_putFlags : ByteArray := prog_14_method_163_code
theorem d_Mo_putFlags_0 : decode b_Mo_putFlags 0 = .ok (.aload_n 0, 1) := by decide +kernel
theorem d_Mo_putFlags_1 : decode b_Mo_putFlags 1 = .ok (.iload_n 1, 1) := by decide +kernel
theorem d_Mo_putFlags_2 : decode b_Mo_putFlags 2 = .ok (.iconst 1, 1) := by decide +kernel
theorem d_Mo_putFlags_3 : decode b_Mo_putFlags 3 = .ok (.iand, 1) := by decide +kernel
theorem d_Mo_putFlags_4 : decode b_Mo_putFlags 4 = .ok (.ifCond .eq 7, 3) := by decide +kernel
theorem d_Mo_putFlags_7 : decode b_Mo_putFlags 7 = .ok (.iconst 1, 1) := by decide +kernel
theorem d_Mo_putFlags_8 : decode b_Mo_putFlags 8 = .ok (.goto 4, 3) := by decide +kernel
theorem d_Mo_putFlags_11 : decode b_Mo_putFlags 11 = .ok (.iconst 0, 1) := by decide +kernel
theorem d_Mo_putFlags_12 : decode b_Mo_putFlags 12 = .ok (.ldc_w 1226, 3) := by decide +kernel
theorem d_Mo_putFlags_15 : decode b_Mo_putFlags 15 = .ok (.invokevirtual 1201, 3) := by decide +kernel
theorem d_Mo_putFlags_18 : decode b_Mo_putFlags 18 = .ok (.aload_n 0, 1) := by decide +kernel
theorem d_Mo_putFlags_19 : decode b_Mo_putFlags 19 = .ok (.iload_n 1, 1) := by decide +kernel
theorem d_Mo_putFlags_20 : decode b_Mo_putFlags 20 = .ok (.iconst 2, 1) := by decide +kernel
theorem d_Mo_putFlags_21 : decode b_Mo_putFlags 21 = .ok (.iand, 1) := by decide +kernel
theorem d_Mo_putFlags_22 : decode b_Mo_putFlags 22 = .ok (.ifCond .eq 7, 3) := by decide +kernel
theorem d_Mo_putFlags_25 : decode b_Mo_putFlags 25 = .ok (.iconst 1, 1) := by decide +kernel
theorem d_Mo_putFlags_26 : decode b_Mo_putFlags 26 = .ok (.goto 4, 3) := by decide +kernel
theorem d_Mo_putFlags_29 : decode b_Mo_putFlags 29 = .ok (.iconst 0, 1) := by decide +kernel
theorem d_Mo_putFlags_30 : decode b_Mo_putFlags 30 = .ok (.ldc_w 1199, 3) := by decide +kernel
theorem d_Mo_putFlags_33 : decode b_Mo_putFlags 33 = .ok (.invokevirtual 1201, 3) := by decide +kernel
theorem d_Mo_putFlags_36 : decode b_Mo_putFlags 36 = .ok (.aload_n 0, 1) := by decide +kernel
theorem d_Mo_putFlags_37 : decode b_Mo_putFlags 37 = .ok (.iload_n 1, 1) := by decide +kernel
theorem d_Mo_putFlags_38 : decode b_Mo_putFlags 38 = .ok (.iconst 4, 1) := by decide +kernel
theorem d_Mo_putFlags_39 : decode b_Mo_putFlags 39 = .ok (.iand, 1) := by decide +kernel
theorem d_Mo_putFlags_40 : decode b_Mo_putFlags 40 = .ok (.ifCond .eq 7, 3) := by decide +kernel
theorem d_Mo_putFlags_43 : decode b_Mo_putFlags 43 = .ok (.iconst 1, 1) := by decide +kernel
theorem d_Mo_putFlags_44 : decode b_Mo_putFlags 44 = .ok (.goto 4, 3) := by decide +kernel
theorem d_Mo_putFlags_47 : decode b_Mo_putFlags 47 = .ok (.iconst 0, 1) := by decide +kernel
theorem d_Mo_putFlags_48 : decode b_Mo_putFlags 48 = .ok (.ldc_w 1228, 3) := by decide +kernel
theorem d_Mo_putFlags_51 : decode b_Mo_putFlags 51 = .ok (.invokevirtual 1201, 3) := by decide +kernel
theorem d_Mo_putFlags_54 : decode b_Mo_putFlags 54 = .ok (.aload_n 0, 1) := by decide +kernel
theorem d_Mo_putFlags_55 : decode b_Mo_putFlags 55 = .ok (.iload_n 1, 1) := by decide +kernel
theorem d_Mo_putFlags_56 : decode b_Mo_putFlags 56 = .ok (.bipush 8, 2) := by decide +kernel
theorem d_Mo_putFlags_58 : decode b_Mo_putFlags 58 = .ok (.iand, 1) := by decide +kernel
theorem d_Mo_putFlags_59 : decode b_Mo_putFlags 59 = .ok (.ifCond .eq 7, 3) := by decide +kernel
theorem d_Mo_putFlags_62 : decode b_Mo_putFlags 62 = .ok (.iconst 1, 1) := by decide +kernel
theorem d_Mo_putFlags_63 : decode b_Mo_putFlags 63 = .ok (.goto 4, 3) := by decide +kernel
theorem d_Mo_putFlags_66 : decode b_Mo_putFlags 66 = .ok (.iconst 0, 1) := by decide +kernel
theorem d_Mo_putFlags_67 : decode b_Mo_putFlags 67 = .ok (.ldc_w 1205, 3) := by decide +kernel
theorem d_Mo_putFlags_70 : decode b_Mo_putFlags 70 = .ok (.invokevirtual 1201, 3) := by decide +kernel
theorem d_Mo_putFlags_73 : decode b_Mo_putFlags 73 = .ok (.return_, 1) := by decide +kernel
abbrev ra_Mo_putFlags (mc ms : Nat) : Room := { frames := 6, cells := mc, slots := ms, locals := 215 }
def wja_Mo_putFlags_67 (mc ms : Nat) (Post : Ly → St → Nat → Nat → Prop) (a0 : Nat) (y_j67 : Ly) (s_j67 : St) (d_j67 e_j67 : Nat) (z1j67 : Int32) : Prop := (d_j67 ≤ mc ∧ e_j67 ≤ ms) ∧ ∃ mc_30 ms_31 : Nat, (d_j67 + mc_30 ≤ mc ∧ e_j67 + ms_31 ≤ ms) ∧ wa_Mo_putFlag mc_30 ms_31 y_j67 (fun (y_27 : Ly) (s_26 : St) (d_28 e_29 : Nat) => (d_j67 + d_28 ≤ mc ∧ e_j67 + e_29 ≤ ms) ∧ Post y_27 s_26 (d_j67 + d_28) (e_j67 + e_29)) s_j67 a0 z1j67 39
def wja_Mo_putFlags_48 (mc ms : Nat) (Post : Ly → St → Nat → Nat → Prop) (a0 : Nat) (y_j48 : Ly) (s_j48 : St) (d_j48 e_j48 : Nat) (x1j48 : Int32) (z1j48 : Int32) : Prop := (d_j48 ≤ mc ∧ e_j48 ≤ ms) ∧ ∃ mc_22 ms_23 : Nat, (d_j48 + mc_22 ≤ mc ∧ e_j48 + ms_23 ≤ ms) ∧ wa_Mo_putFlag mc_22 ms_23 y_j48 (fun (y_19 : Ly) (s_18 : St) (d_20 e_21 : Nat) => (d_j48 + d_20 ≤ mc ∧ e_j48 + e_21 ≤ ms) ∧ (((x1j48 &&& 8) = 0 → wja_Mo_putFlags_67 mc ms Post a0 y_19 s_18 (d_j48 + d_20) (e_j48 + e_21) 0) ∧ (¬ ((x1j48 &&& 8) = 0) → wja_Mo_putFlags_67 mc ms Post a0 y_19 s_18 (d_j48 + d_20) (e_j48 + e_21) 1))) s_j48 a0 z1j48 46
def wja_Mo_putFlags_30 (mc ms : Nat) (Post : Ly → St → Nat → Nat → Prop) (a0 : Nat) (y_j30 : Ly) (s_j30 : St) (d_j30 e_j30 : Nat) (x1j30 : Int32) (z1j30 : Int32) : Prop := (d_j30 ≤ mc ∧ e_j30 ≤ ms) ∧ ∃ mc_14 ms_15 : Nat, (d_j30 + mc_14 ≤ mc ∧ e_j30 + ms_15 ≤ ms) ∧ wa_Mo_putFlag mc_14 ms_15 y_j30 (fun (y_11 : Ly) (s_10 : St) (d_12 e_13 : Nat) => (d_j30 + d_12 ≤ mc ∧ e_j30 + e_13 ≤ ms) ∧ (((x1j30 &&& 4) = 0 → wja_Mo_putFlags_48 mc ms Post a0 y_11 s_10 (d_j30 + d_12) (e_j30 + e_13) x1j30 0) ∧ (¬ ((x1j30 &&& 4) = 0) → wja_Mo_putFlags_48 mc ms Post a0 y_11 s_10 (d_j30 + d_12) (e_j30 + e_13) x1j30 1))) s_j30 a0 z1j30 38
def wja_Mo_putFlags_12 (mc ms : Nat) (Post : Ly → St → Nat → Nat → Prop) (a0 : Nat) (y_j12 : Ly) (s_j12 : St) (d_j12 e_j12 : Nat) (x1j12 : Int32) (z1j12 : Int32) : Prop := (d_j12 ≤ mc ∧ e_j12 ≤ ms) ∧ ∃ mc_6 ms_7 : Nat, (d_j12 + mc_6 ≤ mc ∧ e_j12 + ms_7 ≤ ms) ∧ wa_Mo_putFlag mc_6 ms_7 y_j12 (fun (y_3 : Ly) (s_2 : St) (d_4 e_5 : Nat) => (d_j12 + d_4 ≤ mc ∧ e_j12 + e_5 ≤ ms) ∧ (((x1j12 &&& 2) = 0 → wja_Mo_putFlags_30 mc ms Post a0 y_3 s_2 (d_j12 + d_4) (e_j12 + e_5) x1j12 0) ∧ (¬ ((x1j12 &&& 2) = 0) → wja_Mo_putFlags_30 mc ms Post a0 y_3 s_2 (d_j12 + d_4) (e_j12 + e_5) x1j12 1))) s_j12 a0 z1j12 45
def wa_Mo_putFlags (mc ms : Nat) (y : Ly) (Post : Ly → St → Nat → Nat → Prop) (σ : St) (a0 : Nat) (v1 : Int32) : Prop := (((v1 &&& 1) = 0 → wja_Mo_putFlags_12 mc ms Post a0 y σ 0 0 v1 0) ∧ (¬ ((v1 &&& 1) = 0) → wja_Mo_putFlags_12 mc ms Post a0 y σ 0 0 v1 1))
set_option maxHeartbeats 4000000 in
set_option maxRecDepth 100000 in
theorem ca_Mo_putFlags (l : Launch) (D : va_G) (g : Nat → ClassId) (F : Nat → SL) (sl : List SL) (hF : SOK F sl) (ad : Nat → Nat) (mc ms : Nat) (y : Ly) (Post : Ly → St → Nat → Nat → Prop) (σ : St) (a0 : Nat) (v1 : Int32) (sz uz : Nat) (h_a0 : cl a0 = 14) (h : wa_Mo_putFlags mc ms y Post σ a0 v1) : Met l y_Mo_putFlags (mw y_Mo_putFlags b_Mo_putFlags 2 (none)) (ra_Mo_putFlags mc ms) (PCu g D sl [.ref (ad a0), .int v1] sz uz (ws g ad y σ)) (va_Qv (fun (u : Ly × St × Nat × Nat) => Post u.1 u.2.1 u.2.2.1 u.2.2.2) (QU D (va_A (ws g ad y σ) sz) (fun u => ws g ad u.1 u.2.1) sz uz (fun u => u.2.2.1) (fun u => u.2.2.2)) (va_A (ws g ad y σ) sz)) mc ms (va_A (ws g ad y σ) sz) := by
  refine ofVu (by decide +kernel) (Nat.le_of_ble_eq_true rfl) ?_
  intro p e s m args below meth c A Q ls H locs G hsz hP hD hS hl hret
  subst hsz
  have hl : lv_has ls 2 [(0, .ref (ad a0)), (1, .int v1)] := hl
  have hd : 0 ≤ mc ∧ 0 ≤ ms := ⟨Nat.zero_le _, Nat.zero_le _⟩
  unfold wa_Mo_putFlags at h
  refine lv_aload_n G.1 G.2.1 d_Mo_putFlags_0 rfl (lv_at hl 0 rfl) ?_
  refine lv_iload_n G.1 G.2.1 d_Mo_putFlags_1 rfl (lv_at hl 1 rfl) ?_
  refine lv_iconst (v := 1) G.1 G.2.1 d_Mo_putFlags_2 (by decide) ?_
  refine lv_iand G.1 G.2.1 d_Mo_putFlags_3 ?_
  have J_12 : ∀ (y_j12 : Ly) (s_j12 : St) (d_j12 e_j12 : Nat) (x1j12 : Int32) (z1j12 : Int32) (H : Heap) (locs : List Loc), wja_Mo_putFlags_12 mc ms Post a0 y_j12 s_j12 d_j12 e_j12 x1j12 z1j12 → va_P D CL (ws g ad y_j12 s_j12) H → va_D A (ws g ad y_j12 s_j12) → va_S A s.heap H locs → ∀ ls, lv_has ls 2 [(0, .ref (ad a0)), (1, .int x1j12)] → W p l e (ra_Mo_putFlags mc ms) s m args below meth c H locs d_j12 e_j12 Q (F0 m 12 ls [.int z1j12, .ref (ad a0)]) := by
    intro y_j12 s_j12 d_j12 e_j12 x1j12 z1j12 H locs h hP hD hS ls hl
    unfold wja_Mo_putFlags_12 at h
    obtain ⟨hd, h⟩ := h
    refine uldcw (n := 45) hF rfl G d_Mo_putFlags_12 ?_
    obtain ⟨mc_6, ms_7, hr_8, h⟩ := h
    refine utVv (As := [.int z1j12, .ref (sk (F 45))]) (rest := []) G hP hD hS (ca_Mo_putFlag l D g F sl hF ad mc_6 ms_7 y_j12 _ s_j12 a0 z1j12 45 H.size (us H) h_a0 (by decide +kernel) h) w9_Mo_putFlag q4047 ⟨Nat.le_of_ble_eq_true rfl, Nat.le_of_ble_eq_true rfl⟩ rfl rfl h_a0 (q := (RMo, TMo, 131)) rfl rfl hl.1 rfl (Nat.le_of_ble_eq_true rfl) rfl hr_8 d_Mo_putFlags_15 (fun y_3 s_2 d_4 e_5 H locs h hP hD hS => ?_)
    obtain ⟨hd, h⟩ := h
    refine lv_aload_n G.1 G.2.1 d_Mo_putFlags_18 rfl (lv_at hl 0 rfl) ?_
    refine lv_iload_n G.1 G.2.1 d_Mo_putFlags_19 rfl (lv_at hl 1 rfl) ?_
    refine lv_iconst (v := 2) G.1 G.2.1 d_Mo_putFlags_20 (by decide) ?_
    refine lv_iand G.1 G.2.1 d_Mo_putFlags_21 ?_
    have J_30 : ∀ (y_j30 : Ly) (s_j30 : St) (d_j30 e_j30 : Nat) (x1j30 : Int32) (z1j30 : Int32) (H : Heap) (locs : List Loc), wja_Mo_putFlags_30 mc ms Post a0 y_j30 s_j30 d_j30 e_j30 x1j30 z1j30 → va_P D CL (ws g ad y_j30 s_j30) H → va_D A (ws g ad y_j30 s_j30) → va_S A s.heap H locs → ∀ ls, lv_has ls 2 [(0, .ref (ad a0)), (1, .int x1j30)] → W p l e (ra_Mo_putFlags mc ms) s m args below meth c H locs d_j30 e_j30 Q (F0 m 30 ls [.int z1j30, .ref (ad a0)]) := by
      intro y_j30 s_j30 d_j30 e_j30 x1j30 z1j30 H locs h hP hD hS ls hl
      unfold wja_Mo_putFlags_30 at h
      obtain ⟨hd, h⟩ := h
      refine uldcw (n := 38) hF rfl G d_Mo_putFlags_30 ?_
      obtain ⟨mc_14, ms_15, hr_16, h⟩ := h
      refine utVv (As := [.int z1j30, .ref (sk (F 38))]) (rest := []) G hP hD hS (ca_Mo_putFlag l D g F sl hF ad mc_14 ms_15 y_j30 _ s_j30 a0 z1j30 38 H.size (us H) h_a0 (by decide +kernel) h) w9_Mo_putFlag q4047 ⟨Nat.le_of_ble_eq_true rfl, Nat.le_of_ble_eq_true rfl⟩ rfl rfl h_a0 (q := (RMo, TMo, 131)) rfl rfl hl.1 rfl (Nat.le_of_ble_eq_true rfl) rfl hr_16 d_Mo_putFlags_33 (fun y_11 s_10 d_12 e_13 H locs h hP hD hS => ?_)
      obtain ⟨hd, h⟩ := h
      refine lv_aload_n G.1 G.2.1 d_Mo_putFlags_36 rfl (lv_at hl 0 rfl) ?_
      refine lv_iload_n G.1 G.2.1 d_Mo_putFlags_37 rfl (lv_at hl 1 rfl) ?_
      refine lv_iconst (v := 4) G.1 G.2.1 d_Mo_putFlags_38 (by decide) ?_
      refine lv_iand G.1 G.2.1 d_Mo_putFlags_39 ?_
      have J_48 : ∀ (y_j48 : Ly) (s_j48 : St) (d_j48 e_j48 : Nat) (x1j48 : Int32) (z1j48 : Int32) (H : Heap) (locs : List Loc), wja_Mo_putFlags_48 mc ms Post a0 y_j48 s_j48 d_j48 e_j48 x1j48 z1j48 → va_P D CL (ws g ad y_j48 s_j48) H → va_D A (ws g ad y_j48 s_j48) → va_S A s.heap H locs → ∀ ls, lv_has ls 2 [(0, .ref (ad a0)), (1, .int x1j48)] → W p l e (ra_Mo_putFlags mc ms) s m args below meth c H locs d_j48 e_j48 Q (F0 m 48 ls [.int z1j48, .ref (ad a0)]) := by
        intro y_j48 s_j48 d_j48 e_j48 x1j48 z1j48 H locs h hP hD hS ls hl
        unfold wja_Mo_putFlags_48 at h
        obtain ⟨hd, h⟩ := h
        refine uldcw (n := 46) hF rfl G d_Mo_putFlags_48 ?_
        obtain ⟨mc_22, ms_23, hr_24, h⟩ := h
        refine utVv (As := [.int z1j48, .ref (sk (F 46))]) (rest := []) G hP hD hS (ca_Mo_putFlag l D g F sl hF ad mc_22 ms_23 y_j48 _ s_j48 a0 z1j48 46 H.size (us H) h_a0 (by decide +kernel) h) w9_Mo_putFlag q4047 ⟨Nat.le_of_ble_eq_true rfl, Nat.le_of_ble_eq_true rfl⟩ rfl rfl h_a0 (q := (RMo, TMo, 131)) rfl rfl hl.1 rfl (Nat.le_of_ble_eq_true rfl) rfl hr_24 d_Mo_putFlags_51 (fun y_19 s_18 d_20 e_21 H locs h hP hD hS => ?_)
        obtain ⟨hd, h⟩ := h
        refine lv_aload_n G.1 G.2.1 d_Mo_putFlags_54 rfl (lv_at hl 0 rfl) ?_
        refine lv_iload_n G.1 G.2.1 d_Mo_putFlags_55 rfl (lv_at hl 1 rfl) ?_
        refine lv_bipush (v := 8) G.1 G.2.1 d_Mo_putFlags_56 (by decide) ?_
        refine lv_iand G.1 G.2.1 d_Mo_putFlags_58 ?_
        have J_67 : ∀ (y_j67 : Ly) (s_j67 : St) (d_j67 e_j67 : Nat) (z1j67 : Int32) (H : Heap) (locs : List Loc), wja_Mo_putFlags_67 mc ms Post a0 y_j67 s_j67 d_j67 e_j67 z1j67 → va_P D CL (ws g ad y_j67 s_j67) H → va_D A (ws g ad y_j67 s_j67) → va_S A s.heap H locs → ∀ ls, lv_has ls 2 [] → W p l e (ra_Mo_putFlags mc ms) s m args below meth c H locs d_j67 e_j67 Q (F0 m 67 ls [.int z1j67, .ref (ad a0)]) := by
          intro y_j67 s_j67 d_j67 e_j67 z1j67 H locs h hP hD hS ls hl
          unfold wja_Mo_putFlags_67 at h
          obtain ⟨hd, h⟩ := h
          refine uldcw (n := 39) hF rfl G d_Mo_putFlags_67 ?_
          obtain ⟨mc_30, ms_31, hr_32, h⟩ := h
          refine utVv (As := [.int z1j67, .ref (sk (F 39))]) (rest := []) G hP hD hS (ca_Mo_putFlag l D g F sl hF ad mc_30 ms_31 y_j67 _ s_j67 a0 z1j67 39 H.size (us H) h_a0 (by decide +kernel) h) w9_Mo_putFlag q4047 ⟨Nat.le_of_ble_eq_true rfl, Nat.le_of_ble_eq_true rfl⟩ rfl rfl h_a0 (q := (RMo, TMo, 131)) rfl rfl hl.1 rfl (Nat.le_of_ble_eq_true rfl) rfl hr_32 d_Mo_putFlags_70 (fun y_27 s_26 d_28 e_29 H locs h hP hD hS => ?_)
          obtain ⟨hd, h⟩ := h
          exact hret (y_27, s_26, d_j67 + d_28, e_j67 + e_29) _ _ _ _ _ ls h hP hD hS (Nat.le_refl _) (Nat.le_refl _) hd.1 hd.2 d_Mo_putFlags_73
        refine lv_if_eq (tgt := 66) G.1 G.2.1 d_Mo_putFlags_59 (by decide) (fun c59 => ?_) (fun c59 => ?_)
        · skip
          have h := h.1 c59
          refine lv_iconst (v := 0) G.1 G.2.1 d_Mo_putFlags_66 (by decide) ?_
          exact J_67 y_19 s_18 (d_j48 + d_20) (e_j48 + e_21) 0 H locs h hP hD hS ls (lv_sub hl [] rfl)
        · skip
          have h := h.2 c59
          refine lv_iconst (v := 1) G.1 G.2.1 d_Mo_putFlags_62 (by decide) ?_
          refine lv_goto (tgt := 67) G.1 G.2.1 d_Mo_putFlags_63 (by decide) ?_
          exact J_67 y_19 s_18 (d_j48 + d_20) (e_j48 + e_21) 1 H locs h hP hD hS ls (lv_sub hl [] rfl)
      refine lv_if_eq (tgt := 47) G.1 G.2.1 d_Mo_putFlags_40 (by decide) (fun c40 => ?_) (fun c40 => ?_)
      · skip
        have h := h.1 c40
        refine lv_iconst (v := 0) G.1 G.2.1 d_Mo_putFlags_47 (by decide) ?_
        exact J_48 y_11 s_10 (d_j30 + d_12) (e_j30 + e_13) x1j30 0 H locs h hP hD hS ls (lv_sub hl [0, 1] rfl)
      · skip
        have h := h.2 c40
        refine lv_iconst (v := 1) G.1 G.2.1 d_Mo_putFlags_43 (by decide) ?_
        refine lv_goto (tgt := 48) G.1 G.2.1 d_Mo_putFlags_44 (by decide) ?_
        exact J_48 y_11 s_10 (d_j30 + d_12) (e_j30 + e_13) x1j30 1 H locs h hP hD hS ls (lv_sub hl [0, 1] rfl)
    refine lv_if_eq (tgt := 29) G.1 G.2.1 d_Mo_putFlags_22 (by decide) (fun c22 => ?_) (fun c22 => ?_)
    · skip
      have h := h.1 c22
      refine lv_iconst (v := 0) G.1 G.2.1 d_Mo_putFlags_29 (by decide) ?_
      exact J_30 y_3 s_2 (d_j12 + d_4) (e_j12 + e_5) x1j12 0 H locs h hP hD hS ls (lv_sub hl [0, 1] rfl)
    · skip
      have h := h.2 c22
      refine lv_iconst (v := 1) G.1 G.2.1 d_Mo_putFlags_25 (by decide) ?_
      refine lv_goto (tgt := 30) G.1 G.2.1 d_Mo_putFlags_26 (by decide) ?_
      exact J_30 y_3 s_2 (d_j12 + d_4) (e_j12 + e_5) x1j12 1 H locs h hP hD hS ls (lv_sub hl [0, 1] rfl)
  refine lv_if_eq (tgt := 11) G.1 G.2.1 d_Mo_putFlags_4 (by decide) (fun c4 => ?_) (fun c4 => ?_)
  · skip
    have h := h.1 c4
    refine lv_iconst (v := 0) G.1 G.2.1 d_Mo_putFlags_11 (by decide) ?_
    exact J_12 y σ 0 0 v1 0 H locs h hP hD hS ls (lv_sub hl [0, 1] rfl)
  · skip
    have h := h.2 c4
    refine lv_iconst (v := 1) G.1 G.2.1 d_Mo_putFlags_7 (by decide) ?_
    refine lv_goto (tgt := 12) G.1 G.2.1 d_Mo_putFlags_8 (by decide) ?_
    exact J_12 y σ 0 0 v1 1 H locs h hP hD hS ls (lv_sub hl [0, 1] rfl)
theorem q4062 : Cond.methodLink "ClassWorksModel" 1182 y_Mo_putName ∈ lw_ok := lw_okmem (List.mem_of_getElem? (i := 4062) (by decide +kernel)) rfl
theorem q4065 : Cond.code y_Mo_putName b_Mo_putName 3 (none) ∈ lw_ok := lw_okmem (List.mem_of_getElem? (i := 4065) (by decide +kernel)) rfl
theorem q4064 : Cond.instanceMethod y_Mo_putName ∈ lw_ok := lw_okmem (List.mem_of_getElem? (i := 4064) (by decide +kernel)) rfl
theorem q297 : Cond.selects y_Mo_putName.cls y_Mo_putName y_Mo_putName ∈ lw_ok := lw_okmem (List.mem_of_getElem? (i := 297) (by decide +kernel)) rfl
theorem w9_Mo_putName : CWv y_Mo_putName b_Mo_putName 3 (none) 1 ∧ Cond.instanceMethod y_Mo_putName ∈ lw_ok ∧ Cond.selects y_Mo_putName.cls y_Mo_putName y_Mo_putName ∈ lw_ok := ⟨⟨q4065, q348, by decide +kernel, by decide +kernel, by decide +kernel⟩, q4064, q297⟩
def y_Mo_putType : MethodName := ⟨"ClassWorksModel", "putType", "(I)V"⟩
abbrev b_Mo_putType : ByteArray := prog_14_method_159_code
theorem d_Mo_putType_0 : decode b_Mo_putType 0 = .ok (.iload_n 1, 1) := by decide +kernel
theorem d_Mo_putType_1 : decode b_Mo_putType 1 = .ok (.bipush 16, 2) := by decide +kernel
theorem d_Mo_putType_3 : decode b_Mo_putType 3 = .ok (.if_icmp .lt 14, 3) := by decide +kernel
theorem d_Mo_putType_6 : decode b_Mo_putType 6 = .ok (.aload_n 0, 1) := by decide +kernel
theorem d_Mo_putType_7 : decode b_Mo_putType 7 = .ok (.iload_n 1, 1) := by decide +kernel
theorem d_Mo_putType_8 : decode b_Mo_putType 8 = .ok (.bipush 16, 2) := by decide +kernel
theorem d_Mo_putType_10 : decode b_Mo_putType 10 = .ok (.isub, 1) := by decide +kernel
theorem d_Mo_putType_11 : decode b_Mo_putType 11 = .ok (.invokevirtual 1182, 3) := by decide +kernel
theorem d_Mo_putType_14 : decode b_Mo_putType 14 = .ok (.goto 29, 3) := by decide +kernel
theorem d_Mo_putType_17 : decode b_Mo_putType 17 = .ok (.aload_n 0, 1) := by decide +kernel
theorem d_Mo_putType_18 : decode b_Mo_putType 18 = .ok (.iload_n 1, 1) := by decide +kernel
theorem d_Mo_putType_19 : decode b_Mo_putType 19 = .ok (.ifCond .ne 8, 3) := by decide +kernel
theorem d_Mo_putType_22 : decode b_Mo_putType 22 = .ok (.ldc 215, 2) := by decide +kernel
theorem d_Mo_putType_24 : decode b_Mo_putType 24 = .ok (.goto 16, 3) := by decide +kernel
theorem d_Mo_putType_27 : decode b_Mo_putType 27 = .ok (.iload_n 1, 1) := by decide +kernel
theorem d_Mo_putType_28 : decode b_Mo_putType 28 = .ok (.iconst 1, 1) := by decide +kernel
theorem d_Mo_putType_29 : decode b_Mo_putType 29 = .ok (.if_icmp .ne 9, 3) := by decide +kernel
theorem d_Mo_putType_32 : decode b_Mo_putType 32 = .ok (.ldc_w 1185, 3) := by decide +kernel
theorem d_Mo_putType_35 : decode b_Mo_putType 35 = .ok (.goto 5, 3) := by decide +kernel
theorem d_Mo_putType_38 : decode b_Mo_putType 38 = .ok (.ldc 210, 2) := by decide +kernel
theorem d_Mo_putType_40 : decode b_Mo_putType 40 = .ok (.invokevirtual 1187, 3) := by decide +kernel
theorem d_Mo_putType_43 : decode b_Mo_putType 43 = .ok (.return_, 1) := by decide +kernel
abbrev ra_Mo_putType (mc ms : Nat) : Room := { frames := 5, cells := mc, slots := ms, locals := 193 }
def wja_Mo_putType_43 (mc ms : Nat) (Post : Ly → St → Nat → Nat → Prop) (a0 : Nat) (y_j43 : Ly) (s_j43 : St) (d_j43 e_j43 : Nat) : Prop := (d_j43 ≤ mc ∧ e_j43 ≤ ms) ∧ Post y_j43 s_j43 d_j43 e_j43
def wja_Mo_putType_40 (mc ms : Nat) (Post : Ly → St → Nat → Nat → Prop) (a0 : Nat) (y_j40 : Ly) (s_j40 : St) (d_j40 e_j40 : Nat) (z1j40 : Nat) : Prop := (d_j40 ≤ mc ∧ e_j40 ≤ ms) ∧ z1j40 < strT.length ∧ ∃ mc_6 ms_7 : Nat, (d_j40 + mc_6 ≤ mc ∧ e_j40 + ms_7 ≤ ms) ∧ wa_Mo_putWord mc_6 ms_7 y_j40 (fun (y_3 : Ly) (s_2 : St) (d_4 e_5 : Nat) => (d_j40 + d_4 ≤ mc ∧ e_j40 + e_5 ≤ ms) ∧ wja_Mo_putType_43 mc ms Post a0 y_3 s_2 (d_j40 + d_4) (e_j40 + e_5)) s_j40 a0 z1j40
def wa_Mo_putType (mc ms : Nat) (y : Ly) (Post : Ly → St → Nat → Nat → Prop) (σ : St) (a0 : Nat) (v1 : Int32) : Prop := ((v1 < 16 → ((¬ v1 = 0 → ((¬ v1 = 1 → wja_Mo_putType_40 mc ms Post a0 y σ 0 0 30) ∧ (v1 = 1 → wja_Mo_putType_40 mc ms Post a0 y σ 0 0 47))) ∧ (v1 = 0 → wja_Mo_putType_40 mc ms Post a0 y σ 0 0 31))) ∧ (¬ (v1 < 16) → ∃ mc_14 ms_15 : Nat, (0 + mc_14 ≤ mc ∧ 0 + ms_15 ≤ ms) ∧ wa_Mo_putName mc_14 ms_15 y (fun (y_11 : Ly) (s_10 : St) (d_12 e_13 : Nat) => (0 + d_12 ≤ mc ∧ 0 + e_13 ≤ ms) ∧ wja_Mo_putType_43 mc ms Post a0 y_11 s_10 (0 + d_12) (0 + e_13)) σ a0 (v1 - 16)))
set_option maxHeartbeats 4000000 in
set_option maxRecDepth 100000 in
theorem ca_Mo_putType (l : Launch) (D : va_G) (g : Nat → ClassId) (F : Nat → SL) (sl : List SL) (hF : SOK F sl) (ad : Nat → Nat) (mc ms : Nat) (y : Ly) (Post : Ly → St → Nat → Nat → Prop) (σ : St) (a0 : Nat) (v1 : Int32) (sz uz : Nat) (h_a0 : cl a0 = 14) (h : wa_Mo_putType mc ms y Post σ a0 v1) : Met l y_Mo_putType (mw y_Mo_putType b_Mo_putType 2 (none)) (ra_Mo_putType mc ms) (PCu g D sl [.ref (ad a0), .int v1] sz uz (ws g ad y σ)) (va_Qv (fun (u : Ly × St × Nat × Nat) => Post u.1 u.2.1 u.2.2.1 u.2.2.2) (QU D (va_A (ws g ad y σ) sz) (fun u => ws g ad u.1 u.2.1) sz uz (fun u => u.2.2.1) (fun u => u.2.2.2)) (va_A (ws g ad y σ) sz)) mc ms (va_A (ws g ad y σ) sz) := by
  refine ofVu (by decide +kernel) (Nat.le_of_ble_eq_true rfl) ?_
  intro p e s m args below meth c A Q ls H locs G hsz hP hD hS hl hret
  subst hsz
  have hl : lv_has ls 2 [(0, .ref (ad a0)), (1, .int v1)] := hl
  have hd : 0 ≤ mc ∧ 0 ≤ ms := ⟨Nat.zero_le _, Nat.zero_le _⟩
  unfold wa_Mo_putType at h
  refine lv_iload_n G.1 G.2.1 d_Mo_putType_0 rfl (lv_at hl 1 rfl) ?_
  refine lv_bipush (v := 16) G.1 G.2.1 d_Mo_putType_1 (by decide) ?_
  have J_43 : ∀ (y_j43 : Ly) (s_j43 : St) (d_j43 e_j43 : Nat) (H : Heap) (locs : List Loc), wja_Mo_putType_43 mc ms Post a0 y_j43 s_j43 d_j43 e_j43 → va_P D CL (ws g ad y_j43 s_j43) H → va_D A (ws g ad y_j43 s_j43) → va_S A s.heap H locs → ∀ ls, lv_has ls 2 [] → W p l e (ra_Mo_putType mc ms) s m args below meth c H locs d_j43 e_j43 Q (F0 m 43 ls []) := by
    intro y_j43 s_j43 d_j43 e_j43 H locs h hP hD hS ls hl
    unfold wja_Mo_putType_43 at h
    obtain ⟨hd, h⟩ := h
    exact hret (y_j43, s_j43, d_j43, e_j43) _ _ _ _ _ ls h hP hD hS (Nat.le_refl _) (Nat.le_refl _) hd.1 hd.2 d_Mo_putType_43
  refine lv_icmp_lt (tgt := 17) G.1 G.2.1 d_Mo_putType_3 (by decide) (fun c3 => ?_) (fun c3 => ?_)
  · skip
    have h := h.1 c3
    refine lv_aload_n G.1 G.2.1 d_Mo_putType_17 rfl (lv_at hl 0 rfl) ?_
    refine lv_iload_n G.1 G.2.1 d_Mo_putType_18 rfl (lv_at hl 1 rfl) ?_
    have J_40 : ∀ (y_j40 : Ly) (s_j40 : St) (d_j40 e_j40 : Nat) (z1j40 : Nat) (H : Heap) (locs : List Loc), wja_Mo_putType_40 mc ms Post a0 y_j40 s_j40 d_j40 e_j40 z1j40 → va_P D CL (ws g ad y_j40 s_j40) H → va_D A (ws g ad y_j40 s_j40) → va_S A s.heap H locs → ∀ ls, lv_has ls 2 [] → W p l e (ra_Mo_putType mc ms) s m args below meth c H locs d_j40 e_j40 Q (F0 m 40 ls [.ref (sk (F z1j40)), .ref (ad a0)]) := by
      intro y_j40 s_j40 d_j40 e_j40 z1j40 H locs h hP hD hS ls hl
      unfold wja_Mo_putType_40 at h
      obtain ⟨hd, h⟩ := h
      obtain ⟨c_z1j40, h⟩ := h
      obtain ⟨mc_6, ms_7, hr_8, h⟩ := h
      refine utVv (As := [.ref (sk (F z1j40))]) (rest := []) G hP hD hS (ca_Mo_putWord l D g F sl hF ad mc_6 ms_7 y_j40 _ s_j40 a0 z1j40 H.size (us H) h_a0 c_z1j40 h) w9_Mo_putWord q4051 ⟨Nat.le_of_ble_eq_true rfl, Nat.le_of_ble_eq_true rfl⟩ rfl rfl h_a0 (q := (RMo, TMo, 131)) rfl rfl hl.1 rfl (Nat.le_of_ble_eq_true rfl) rfl hr_8 d_Mo_putType_40 (fun y_3 s_2 d_4 e_5 H locs h hP hD hS => ?_)
      obtain ⟨hd, h⟩ := h
      exact J_43 y_3 s_2 (d_j40 + d_4) (e_j40 + e_5) H locs h hP hD hS ls (lv_sub hl [] rfl)
    refine lv_if_ne (tgt := 27) G.1 G.2.1 d_Mo_putType_19 (by decide) (fun c19 => ?_) (fun c19 => ?_)
    · skip
      have h := h.1 c19
      refine lv_iload_n G.1 G.2.1 d_Mo_putType_27 rfl (lv_at hl 1 rfl) ?_
      refine lv_iconst (v := 1) G.1 G.2.1 d_Mo_putType_28 (by decide) ?_
      refine lv_icmp_ne (tgt := 38) G.1 G.2.1 d_Mo_putType_29 (by decide) (fun c29 => ?_) (fun c29 => ?_)
      · skip
        have h := h.1 c29
        refine uldc (n := 30) hF rfl G d_Mo_putType_38 ?_
        exact J_40 y σ 0 0 30 H locs h hP hD hS ls (lv_sub hl [] rfl)
      · skip
        have h := h.2 c29
        refine uldcw (n := 47) hF rfl G d_Mo_putType_32 ?_
        refine lv_goto (tgt := 40) G.1 G.2.1 d_Mo_putType_35 (by decide) ?_
        exact J_40 y σ 0 0 47 H locs h hP hD hS ls (lv_sub hl [] rfl)
    · skip
      have h := h.2 c19
      refine uldc (n := 31) hF rfl G d_Mo_putType_22 ?_
      refine lv_goto (tgt := 40) G.1 G.2.1 d_Mo_putType_24 (by decide) ?_
      exact J_40 y σ 0 0 31 H locs h hP hD hS ls (lv_sub hl [] rfl)
  · skip
    have h := h.2 c3
    refine lv_aload_n G.1 G.2.1 d_Mo_putType_6 rfl (lv_at hl 0 rfl) ?_
    refine lv_iload_n G.1 G.2.1 d_Mo_putType_7 rfl (lv_at hl 1 rfl) ?_
    refine lv_bipush (v := 16) G.1 G.2.1 d_Mo_putType_8 (by decide) ?_
    refine lv_isub G.1 G.2.1 d_Mo_putType_10 ?_
    obtain ⟨mc_14, ms_15, hr_16, h⟩ := h
    refine uaVv (As := [.int (v1 - 16)]) (rest := []) G hP hD hS (ca_Mo_putName l D g ad mc_14 ms_15 y _ σ a0 (v1 - 16) H.size (us H) h_a0 h) w9_Mo_putName q4062 ⟨Nat.le_of_ble_eq_true rfl, Nat.le_of_ble_eq_true rfl⟩ rfl rfl h_a0 (q := (RMo, TMo, 131)) rfl rfl hl.1 rfl (Nat.le_of_ble_eq_true rfl) rfl hr_16 d_Mo_putType_11 (fun y_11 s_10 d_12 e_13 H locs h hP hD hS => ?_)
    have hl := lv_sub (l' := []) hl [] rfl
    obtain ⟨hd, h⟩ := h
    refine lv_goto (tgt := 43) G.1 G.2.1 d_Mo_putType_14 (by decide) ?_
    exact J_43 y_11 s_10 (0 + d_12) (0 + e_13) H locs h hP hD hS ls (lv_sub hl [] rfl)
def y_Mo_putNumber : MethodName := ⟨"ClassWorksModel", "putNumber", "(I)V"⟩
abbrev b_Mo_putNumber : ByteArray := prog_14_method_158_code
theorem d_Mo_putNumber_0 : decode b_Mo_putNumber 0 = .ok (.iload_n 1, 1) := by decide +kernel
theorem d_Mo_putNumber_1 : decode b_Mo_putNumber 1 = .ok (.ifCond .ge 9, 3) := by decide +kernel
theorem d_Mo_putNumber_4 : decode b_Mo_putNumber 4 = .ok (.iload_n 1, 1) := by decide +kernel
theorem d_Mo_putNumber_5 : decode b_Mo_putNumber 5 = .ok (.i2l, 1) := by decide +kernel
theorem d_Mo_putNumber_6 : decode b_Mo_putNumber 6 = .ok (.lneg, 1) := by decide +kernel
theorem d_Mo_putNumber_7 : decode b_Mo_putNumber 7 = .ok (.goto 5, 3) := by decide +kernel
theorem d_Mo_putNumber_10 : decode b_Mo_putNumber 10 = .ok (.iload_n 1, 1) := by decide +kernel
theorem d_Mo_putNumber_11 : decode b_Mo_putNumber 11 = .ok (.i2l, 1) := by decide +kernel
theorem d_Mo_putNumber_12 : decode b_Mo_putNumber 12 = .ok (.lstore_n 2, 1) := by decide +kernel
theorem d_Mo_putNumber_13 : decode b_Mo_putNumber 13 = .ok (.lconst 1, 1) := by decide +kernel
theorem d_Mo_putNumber_14 : decode b_Mo_putNumber 14 = .ok (.lstore 4, 2) := by decide +kernel
theorem d_Mo_putNumber_16 : decode b_Mo_putNumber 16 = .ok (.lload 4, 2) := by decide +kernel
theorem d_Mo_putNumber_18 : decode b_Mo_putNumber 18 = .ok (.ldc2_w 130, 3) := by decide +kernel
theorem d_Mo_putNumber_21 : decode b_Mo_putNumber 21 = .ok (.lmul, 1) := by decide +kernel
theorem d_Mo_putNumber_22 : decode b_Mo_putNumber 22 = .ok (.lload_n 2, 1) := by decide +kernel
theorem d_Mo_putNumber_23 : decode b_Mo_putNumber 23 = .ok (.lcmp, 1) := by decide +kernel
theorem d_Mo_putNumber_24 : decode b_Mo_putNumber 24 = .ok (.ifCond .gt 14, 3) := by decide +kernel
theorem d_Mo_putNumber_27 : decode b_Mo_putNumber 27 = .ok (.lload 4, 2) := by decide +kernel
theorem d_Mo_putNumber_29 : decode b_Mo_putNumber 29 = .ok (.ldc2_w 130, 3) := by decide +kernel
theorem d_Mo_putNumber_32 : decode b_Mo_putNumber 32 = .ok (.lmul, 1) := by decide +kernel
theorem d_Mo_putNumber_33 : decode b_Mo_putNumber 33 = .ok (.lstore 4, 2) := by decide +kernel
theorem d_Mo_putNumber_35 : decode b_Mo_putNumber 35 = .ok (.goto (-19), 3) := by decide +kernel
theorem d_Mo_putNumber_38 : decode b_Mo_putNumber 38 = .ok (.iload_n 1, 1) := by decide +kernel
theorem d_Mo_putNumber_39 : decode b_Mo_putNumber 39 = .ok (.ifCond .ge 9, 3) := by decide +kernel
theorem d_Mo_putNumber_42 : decode b_Mo_putNumber 42 = .ok (.aload_n 0, 1) := by decide +kernel
theorem d_Mo_putNumber_43 : decode b_Mo_putNumber 43 = .ok (.bipush 45, 2) := by decide +kernel
theorem d_Mo_putNumber_45 : decode b_Mo_putNumber 45 = .ok (.invokevirtual 1179, 3) := by decide +kernel
theorem d_Mo_putNumber_48 : decode b_Mo_putNumber 48 = .ok (.lload 4, 2) := by decide +kernel
theorem d_Mo_putNumber_50 : decode b_Mo_putNumber 50 = .ok (.lconst 0, 1) := by decide +kernel
theorem d_Mo_putNumber_51 : decode b_Mo_putNumber 51 = .ok (.lcmp, 1) := by decide +kernel
theorem d_Mo_putNumber_52 : decode b_Mo_putNumber 52 = .ok (.ifCond .le 31, 3) := by decide +kernel
theorem d_Mo_putNumber_55 : decode b_Mo_putNumber 55 = .ok (.aload_n 0, 1) := by decide +kernel
theorem d_Mo_putNumber_56 : decode b_Mo_putNumber 56 = .ok (.ldc2_w 132, 3) := by decide +kernel
theorem d_Mo_putNumber_59 : decode b_Mo_putNumber 59 = .ok (.lload_n 2, 1) := by decide +kernel
theorem d_Mo_putNumber_60 : decode b_Mo_putNumber 60 = .ok (.lload 4, 2) := by decide +kernel
theorem d_Mo_putNumber_62 : decode b_Mo_putNumber 62 = .ok (.ldiv, 1) := by decide +kernel
theorem d_Mo_putNumber_63 : decode b_Mo_putNumber 63 = .ok (.ldc2_w 130, 3) := by decide +kernel
theorem d_Mo_putNumber_66 : decode b_Mo_putNumber 66 = .ok (.lrem, 1) := by decide +kernel
theorem d_Mo_putNumber_67 : decode b_Mo_putNumber 67 = .ok (.ladd, 1) := by decide +kernel
theorem d_Mo_putNumber_68 : decode b_Mo_putNumber 68 = .ok (.l2i, 1) := by decide +kernel
theorem d_Mo_putNumber_69 : decode b_Mo_putNumber 69 = .ok (.invokevirtual 1179, 3) := by decide +kernel
theorem d_Mo_putNumber_72 : decode b_Mo_putNumber 72 = .ok (.lload 4, 2) := by decide +kernel
theorem d_Mo_putNumber_74 : decode b_Mo_putNumber 74 = .ok (.ldc2_w 130, 3) := by decide +kernel
theorem d_Mo_putNumber_77 : decode b_Mo_putNumber 77 = .ok (.ldiv, 1) := by decide +kernel
theorem d_Mo_putNumber_78 : decode b_Mo_putNumber 78 = .ok (.lstore 4, 2) := by decide +kernel
theorem d_Mo_putNumber_80 : decode b_Mo_putNumber 80 = .ok (.goto (-32), 3) := by decide +kernel
theorem d_Mo_putNumber_83 : decode b_Mo_putNumber 83 = .ok (.return_, 1) := by decide +kernel
abbrev ra_Mo_putNumber (mc ms : Nat) : Room := { frames := 3, cells := mc, slots := ms, locals := 171 }
def wba_Mo_putNumber_48 (mc ms : Nat) (Post : Ly → St → Nat → Nat → Prop) (K_48 : Ly → St → Nat → Nat → Int64 → Int64 → Prop) (a0 : Nat) (y_h48 : Ly) (s_h48 : St) (d_h48 e_h48 : Nat) (x2h48 : Int64) (x4h48 : Int64) : Prop := (d_h48 ≤ mc ∧ e_h48 ≤ ms) ∧ (((lg_cmp x4h48 0) ≤ 0 → Post y_h48 s_h48 d_h48 e_h48) ∧ (¬ ((lg_cmp x4h48 0) ≤ 0) → ¬ x4h48 = 0 ∧ ∃ mc_7 ms_8 : Nat, (d_h48 + mc_7 ≤ mc ∧ e_h48 + ms_8 ≤ ms) ∧ wa_Mo_put mc_7 ms_8 y_h48 (fun (y_4 : Ly) (s_3 : St) (d_5 e_6 : Nat) => (d_h48 + d_5 ≤ mc ∧ e_h48 + e_6 ≤ ms) ∧ K_48 y_4 s_3 (d_h48 + d_5) (e_h48 + e_6) x2h48 (x4h48 / (10))) s_h48 a0 (((48) + ((x2h48 / x4h48) - (x2h48 / x4h48) / (10) * (10))).toInt32)))
def wla_Mo_putNumber_48 (mc ms : Nat) (Post : Ly → St → Nat → Nat → Prop) (a0 : Nat) (y_h48 : Ly) (s_h48 : St) (d_h48 e_h48 : Nat) (x2h48 : Int64) (x4h48 : Int64) : Prop := ∃ (I : Ly → St → Nat → Nat → Int64 → Int64 → Prop) (μ : Ly → St → Nat → Nat → Int64 → Int64 → Nat), I y_h48 s_h48 d_h48 e_h48 x2h48 x4h48 ∧ ∀ (u1 : Ly) (u2 : St) (u3 u4 : Nat) (t0 : Int64) (t1 : Int64), I u1 u2 u3 u4 t0 t1 → wba_Mo_putNumber_48 mc ms Post (fun z1 z2 z3 z4 t0q t1q => I z1 z2 z3 z4 t0q t1q ∧ μ z1 z2 z3 z4 t0q t1q < μ u1 u2 u3 u4 t0 t1) a0 u1 u2 u3 u4 t0 t1
def wja_Mo_putNumber_48 (mc ms : Nat) (Post : Ly → St → Nat → Nat → Prop) (a0 : Nat) (y_j48 : Ly) (s_j48 : St) (d_j48 e_j48 : Nat) (x2j48 : Int64) (x4j48 : Int64) : Prop := (d_j48 ≤ mc ∧ e_j48 ≤ ms) ∧ wla_Mo_putNumber_48 mc ms Post a0 y_j48 s_j48 d_j48 e_j48 x2j48 x4j48
def wba_Mo_putNumber_16 (mc ms : Nat) (Post : Ly → St → Nat → Nat → Prop) (K_16 : Ly → St → Nat → Nat → Int32 → Int64 → Int64 → Prop) (a0 : Nat) (y_h16 : Ly) (s_h16 : St) (d_h16 e_h16 : Nat) (x1h16 : Int32) (x2h16 : Int64) (x4h16 : Int64) : Prop := (d_h16 ≤ mc ∧ e_h16 ≤ ms) ∧ ((0 < (lg_cmp (x4h16 * (10)) x2h16) → ((0 ≤ x1h16 → wja_Mo_putNumber_48 mc ms Post a0 y_h16 s_h16 d_h16 e_h16 x2h16 x4h16) ∧ (¬ (0 ≤ x1h16) → ∃ mc_15 ms_16 : Nat, (d_h16 + mc_15 ≤ mc ∧ e_h16 + ms_16 ≤ ms) ∧ wa_Mo_put mc_15 ms_16 y_h16 (fun (y_12 : Ly) (s_11 : St) (d_13 e_14 : Nat) => (d_h16 + d_13 ≤ mc ∧ e_h16 + e_14 ≤ ms) ∧ wja_Mo_putNumber_48 mc ms Post a0 y_12 s_11 (d_h16 + d_13) (e_h16 + e_14) x2h16 x4h16) s_h16 a0 45))) ∧ (¬ (0 < (lg_cmp (x4h16 * (10)) x2h16)) → K_16 y_h16 s_h16 d_h16 e_h16 x1h16 x2h16 (x4h16 * (10))))
def wla_Mo_putNumber_16 (mc ms : Nat) (Post : Ly → St → Nat → Nat → Prop) (a0 : Nat) (y_h16 : Ly) (s_h16 : St) (d_h16 e_h16 : Nat) (x1h16 : Int32) (x2h16 : Int64) (x4h16 : Int64) : Prop := ∃ (I : Ly → St → Nat → Nat → Int32 → Int64 → Int64 → Prop) (μ : Ly → St → Nat → Nat → Int32 → Int64 → Int64 → Nat), I y_h16 s_h16 d_h16 e_h16 x1h16 x2h16 x4h16 ∧ ∀ (u1 : Ly) (u2 : St) (u3 u4 : Nat) (t0 : Int32) (t1 : Int64) (t2 : Int64), I u1 u2 u3 u4 t0 t1 t2 → wba_Mo_putNumber_16 mc ms Post (fun z1 z2 z3 z4 t0q t1q t2q => I z1 z2 z3 z4 t0q t1q t2q ∧ μ z1 z2 z3 z4 t0q t1q t2q < μ u1 u2 u3 u4 t0 t1 t2) a0 u1 u2 u3 u4 t0 t1 t2
def wja_Mo_putNumber_12 (mc ms : Nat) (Post : Ly → St → Nat → Nat → Prop) (a0 : Nat) (y_j12 : Ly) (s_j12 : St) (d_j12 e_j12 : Nat) (x1j12 : Int32) (z0j12 : Int64) : Prop := (d_j12 ≤ mc ∧ e_j12 ≤ ms) ∧ wla_Mo_putNumber_16 mc ms Post a0 y_j12 s_j12 d_j12 e_j12 x1j12 z0j12 1
def wa_Mo_putNumber (mc ms : Nat) (y : Ly) (Post : Ly → St → Nat → Nat → Prop) (σ : St) (a0 : Nat) (v1 : Int32) : Prop := ((0 ≤ v1 → wja_Mo_putNumber_12 mc ms Post a0 y σ 0 0 v1 v1.toInt64) ∧ (¬ (0 ≤ v1) → wja_Mo_putNumber_12 mc ms Post a0 y σ 0 0 v1 (-v1.toInt64)))
set_option maxHeartbeats 4000000 in
set_option maxRecDepth 100000 in
theorem ca_Mo_putNumber (l : Launch) (D : va_G) (g : Nat → ClassId) (ad : Nat → Nat) (mc ms : Nat) (y : Ly) (Post : Ly → St → Nat → Nat → Prop) (σ : St) (a0 : Nat) (v1 : Int32) (sz uz : Nat) (h_a0 : cl a0 = 14) (h : wa_Mo_putNumber mc ms y Post σ a0 v1) : Met l y_Mo_putNumber (mw y_Mo_putNumber b_Mo_putNumber 6 (none)) (ra_Mo_putNumber mc ms) (PCu g D [] [.ref (ad a0), .int v1] sz uz (ws g ad y σ)) (va_Qv (fun (u : Ly × St × Nat × Nat) => Post u.1 u.2.1 u.2.2.1 u.2.2.2) (QU D (va_A (ws g ad y σ) sz) (fun u => ws g ad u.1 u.2.1) sz uz (fun u => u.2.2.1) (fun u => u.2.2.2)) (va_A (ws g ad y σ) sz)) mc ms (va_A (ws g ad y σ) sz) := by
  refine ofVu (by decide +kernel) (Nat.le_of_ble_eq_true rfl) ?_
  intro p e s m args below meth c A Q ls H locs G hsz hP hD hS hl hret
  subst hsz
  have hl : lv_has ls 6 [(0, .ref (ad a0)), (1, .int v1)] := hl
  have hd : 0 ≤ mc ∧ 0 ≤ ms := ⟨Nat.zero_le _, Nat.zero_le _⟩
  unfold wa_Mo_putNumber at h
  refine lv_iload_n G.1 G.2.1 d_Mo_putNumber_0 rfl (lv_at hl 1 rfl) ?_
  have J_12 : ∀ (y_j12 : Ly) (s_j12 : St) (d_j12 e_j12 : Nat) (x1j12 : Int32) (z0j12 : Int64) (H : Heap) (locs : List Loc), wja_Mo_putNumber_12 mc ms Post a0 y_j12 s_j12 d_j12 e_j12 x1j12 z0j12 → va_P D CL (ws g ad y_j12 s_j12) H → va_D A (ws g ad y_j12 s_j12) → va_S A s.heap H locs → ∀ ls, lv_has ls 6 [(0, .ref (ad a0)), (1, .int x1j12)] → W p l e (ra_Mo_putNumber mc ms) s m args below meth c H locs d_j12 e_j12 Q (F0 m 12 ls [.long z0j12]) := by
    intro y_j12 s_j12 d_j12 e_j12 x1j12 z0j12 H locs h hP hD hS ls hl
    unfold wja_Mo_putNumber_12 at h
    obtain ⟨hd, h⟩ := h
    refine lv_lstore_n (lv' := [(2, .long z0j12), (0, .ref (ad a0)), (1, .int x1j12)]) G.1 G.2.1 d_Mo_putNumber_12 rfl hl (by decide) rfl (fun ls hl => ?_)
    refine lv_lconst (v := 1) G.1 G.2.1 d_Mo_putNumber_13 (by decide) ?_
    refine lv_lstore (lv' := [(4, .long 1), (2, .long z0j12), (0, .ref (ad a0)), (1, .int x1j12)]) G.1 G.2.1 d_Mo_putNumber_14 hl (by decide) rfl (fun ls hl => ?_)
    unfold wla_Mo_putNumber_16 at h
    obtain ⟨I_16, μ_16, hI_16, hB_16⟩ := h
    have L_16 : ∀ (n_16 : Nat) (y_h16 : Ly) (s_h16 : St) (d_h16 e_h16 : Nat) (x1h16 : Int32) (x2h16 : Int64) (x4h16 : Int64), μ_16 y_h16 s_h16 d_h16 e_h16 x1h16 x2h16 x4h16 < n_16 → I_16 y_h16 s_h16 d_h16 e_h16 x1h16 x2h16 x4h16 → ∀ (H : Heap) (locs : List Loc), va_P D CL (ws g ad y_h16 s_h16) H → va_D A (ws g ad y_h16 s_h16) → va_S A s.heap H locs → ∀ ls, lv_has ls 6 [(0, .ref (ad a0)), (1, .int x1h16), (2, .long x2h16), (4, .long x4h16)] → W p l e (ra_Mo_putNumber mc ms) s m args below meth c H locs d_h16 e_h16 Q (F0 m 16 ls []) := by
      intro n_16
      induction n_16 with
      | zero => intro y_h16 s_h16 d_h16 e_h16 x1h16 x2h16 x4h16 hμ; exact absurd hμ (Nat.not_lt_zero _)
      | succ n_16 ih_16 =>
        intro y_h16 s_h16 d_h16 e_h16 x1h16 x2h16 x4h16 hμ_16 hJ H locs hP hD hS ls hl
        obtain ⟨K_16, hK_16, h⟩ : ∃ K : Ly → St → Nat → Nat → Int32 → Int64 → Int64 → Prop, (∀ z1 z2 z3 z4 (t0 : Int32) (t1 : Int64) (t2 : Int64), K z1 z2 z3 z4 t0 t1 t2 → I_16 z1 z2 z3 z4 t0 t1 t2 ∧ μ_16 z1 z2 z3 z4 t0 t1 t2 < μ_16 y_h16 s_h16 d_h16 e_h16 x1h16 x2h16 x4h16) ∧ wba_Mo_putNumber_16 mc ms Post K a0 y_h16 s_h16 d_h16 e_h16 x1h16 x2h16 x4h16 := ⟨_, fun _ _ _ _ _ _ _ h => h, hB_16 y_h16 s_h16 d_h16 e_h16 x1h16 x2h16 x4h16 hJ⟩
        unfold wba_Mo_putNumber_16 at h
        obtain ⟨hd, h⟩ := h
        refine lv_lload G.1 G.2.1 d_Mo_putNumber_16 (lv_at hl 3 rfl) ?_
        refine lv_ldc2 (v := (10)) G.1 G.2.1 G.2.2.2.2.2.2.1 (G.2.2.2.2.2.1 _ q3512) d_Mo_putNumber_18 ?_
        refine lv_lmul G.1 G.2.1 d_Mo_putNumber_21 ?_
        refine lv_lload_n G.1 G.2.1 d_Mo_putNumber_22 rfl (lv_at hl 2 rfl) ?_
        refine W.lcmp G.1 G.2.1 d_Mo_putNumber_23 ?_
        refine lv_if_gt (tgt := 38) G.1 G.2.1 d_Mo_putNumber_24 (by decide) (fun c24 => ?_) (fun c24 => ?_)
        · skip
          have h := h.1 c24
          refine lv_iload_n G.1 G.2.1 d_Mo_putNumber_38 rfl (lv_at hl 1 rfl) ?_
          have J_48 : ∀ (y_j48 : Ly) (s_j48 : St) (d_j48 e_j48 : Nat) (x2j48 : Int64) (x4j48 : Int64) (H : Heap) (locs : List Loc), wja_Mo_putNumber_48 mc ms Post a0 y_j48 s_j48 d_j48 e_j48 x2j48 x4j48 → va_P D CL (ws g ad y_j48 s_j48) H → va_D A (ws g ad y_j48 s_j48) → va_S A s.heap H locs → ∀ ls, lv_has ls 6 [(0, .ref (ad a0)), (2, .long x2j48), (4, .long x4j48)] → W p l e (ra_Mo_putNumber mc ms) s m args below meth c H locs d_j48 e_j48 Q (F0 m 48 ls []) := by
            intro y_j48 s_j48 d_j48 e_j48 x2j48 x4j48 H locs h hP hD hS ls hl
            unfold wja_Mo_putNumber_48 at h
            obtain ⟨hd, h⟩ := h
            unfold wla_Mo_putNumber_48 at h
            obtain ⟨I_48, μ_48, hI_48, hB_48⟩ := h
            have L_48 : ∀ (n_48 : Nat) (y_h48 : Ly) (s_h48 : St) (d_h48 e_h48 : Nat) (x2h48 : Int64) (x4h48 : Int64), μ_48 y_h48 s_h48 d_h48 e_h48 x2h48 x4h48 < n_48 → I_48 y_h48 s_h48 d_h48 e_h48 x2h48 x4h48 → ∀ (H : Heap) (locs : List Loc), va_P D CL (ws g ad y_h48 s_h48) H → va_D A (ws g ad y_h48 s_h48) → va_S A s.heap H locs → ∀ ls, lv_has ls 6 [(0, .ref (ad a0)), (2, .long x2h48), (4, .long x4h48)] → W p l e (ra_Mo_putNumber mc ms) s m args below meth c H locs d_h48 e_h48 Q (F0 m 48 ls []) := by
              intro n_48
              induction n_48 with
              | zero => intro y_h48 s_h48 d_h48 e_h48 x2h48 x4h48 hμ; exact absurd hμ (Nat.not_lt_zero _)
              | succ n_48 ih_48 =>
                intro y_h48 s_h48 d_h48 e_h48 x2h48 x4h48 hμ_48 hJ H locs hP hD hS ls hl
                obtain ⟨K_48, hK_48, h⟩ : ∃ K : Ly → St → Nat → Nat → Int64 → Int64 → Prop, (∀ z1 z2 z3 z4 (t0 : Int64) (t1 : Int64), K z1 z2 z3 z4 t0 t1 → I_48 z1 z2 z3 z4 t0 t1 ∧ μ_48 z1 z2 z3 z4 t0 t1 < μ_48 y_h48 s_h48 d_h48 e_h48 x2h48 x4h48) ∧ wba_Mo_putNumber_48 mc ms Post K a0 y_h48 s_h48 d_h48 e_h48 x2h48 x4h48 := ⟨_, fun _ _ _ _ _ _ h => h, hB_48 y_h48 s_h48 d_h48 e_h48 x2h48 x4h48 hJ⟩
                unfold wba_Mo_putNumber_48 at h
                obtain ⟨hd, h⟩ := h
                refine lv_lload G.1 G.2.1 d_Mo_putNumber_48 (lv_at hl 2 rfl) ?_
                refine lv_lconst (v := 0) G.1 G.2.1 d_Mo_putNumber_50 (by decide) ?_
                refine W.lcmp G.1 G.2.1 d_Mo_putNumber_51 ?_
                refine lv_if_le (tgt := 83) G.1 G.2.1 d_Mo_putNumber_52 (by decide) (fun c52 => ?_) (fun c52 => ?_)
                · skip
                  have h := h.1 c52
                  exact hret (y_h48, s_h48, d_h48, e_h48) _ _ _ _ _ ls h hP hD hS (Nat.le_refl _) (Nat.le_refl _) hd.1 hd.2 d_Mo_putNumber_83
                · skip
                  have h := h.2 c52
                  refine lv_aload_n G.1 G.2.1 d_Mo_putNumber_55 rfl (lv_at hl 0 rfl) ?_
                  refine lv_ldc2 (v := (48)) G.1 G.2.1 G.2.2.2.2.2.2.1 (G.2.2.2.2.2.1 _ q3513) d_Mo_putNumber_56 ?_
                  refine lv_lload_n G.1 G.2.1 d_Mo_putNumber_59 rfl (lv_at hl 1 rfl) ?_
                  refine lv_lload G.1 G.2.1 d_Mo_putNumber_60 (lv_at hl 2 rfl) ?_
                  obtain ⟨n_1, h⟩ := h
                  refine lv_ldiv G.1 G.2.1 d_Mo_putNumber_62 n_1 ?_
                  refine lv_ldc2 (v := (10)) G.1 G.2.1 G.2.2.2.2.2.2.1 (G.2.2.2.2.2.1 _ q3512) d_Mo_putNumber_63 ?_
                  refine lv_lrem G.1 G.2.1 d_Mo_putNumber_66 (by decide) ?_
                  refine W.eq (g2 := F0 m 67 ls [.long ((x2h48 / x4h48) - (x2h48 / x4h48) / (10) * (10)), .long (48), .ref (ad a0)]) rfl ?_
                  refine lv_ladd G.1 G.2.1 d_Mo_putNumber_67 ?_
                  refine lv_l2i G.1 G.2.1 d_Mo_putNumber_68 rfl ?_
                  obtain ⟨mc_7, ms_8, hr_9, h⟩ := h
                  refine uaVv (As := [.int (((48) + ((x2h48 / x4h48) - (x2h48 / x4h48) / (10) * (10))).toInt32)]) (rest := []) G hP hD hS (ca_Mo_put l D g ad mc_7 ms_8 y_h48 _ s_h48 a0 (((48) + ((x2h48 / x4h48) - (x2h48 / x4h48) / (10) * (10))).toInt32) H.size (us H) h_a0 h) w9_Mo_put q4055 ⟨Nat.le_of_ble_eq_true rfl, Nat.le_of_ble_eq_true rfl⟩ rfl rfl h_a0 (q := (RMo, TMo, 131)) rfl rfl hl.1 rfl (Nat.le_of_ble_eq_true rfl) rfl hr_9 d_Mo_putNumber_69 (fun y_4 s_3 d_5 e_6 H locs h hP hD hS => ?_)
                  obtain ⟨hd, h⟩ := h
                  refine lv_lload G.1 G.2.1 d_Mo_putNumber_72 (lv_at hl 2 rfl) ?_
                  refine lv_ldc2 (v := (10)) G.1 G.2.1 G.2.2.2.2.2.2.1 (G.2.2.2.2.2.1 _ q3512) d_Mo_putNumber_74 ?_
                  refine lv_ldiv G.1 G.2.1 d_Mo_putNumber_77 (by decide) ?_
                  refine lv_lstore (lv' := [(4, .long (x4h48 / (10))), (0, .ref (ad a0)), (2, .long x2h48)]) G.1 G.2.1 d_Mo_putNumber_78 hl (by decide) rfl (fun ls hl => ?_)
                  refine lv_goto (tgt := 48) G.1 G.2.1 d_Mo_putNumber_80 (by decide) ?_
                  have h := hK_48 y_4 s_3 (d_h48 + d_5) (e_h48 + e_6) x2h48 (x4h48 / (10)) h
                  exact ih_48 y_4 s_3 (d_h48 + d_5) (e_h48 + e_6) x2h48 (x4h48 / (10)) (Nat.lt_of_lt_of_le h.2 (Nat.le_of_lt_succ hμ_48)) h.1 H locs hP hD hS ls (lv_sub hl [1, 2, 0] rfl)
            exact L_48 _ y_j48 s_j48 d_j48 e_j48 x2j48 x4j48 (Nat.lt_succ_self _) hI_48 H locs hP hD hS ls (lv_sub hl [0, 1, 2] rfl)
          refine lv_if_ge (tgt := 48) G.1 G.2.1 d_Mo_putNumber_39 (by decide) (fun c39 => ?_) (fun c39 => ?_)
          · skip
            have h := h.1 c39
            exact J_48 y_h16 s_h16 d_h16 e_h16 x2h16 x4h16 H locs h hP hD hS ls (lv_sub hl [0, 2, 3] rfl)
          · skip
            have h := h.2 c39
            refine lv_aload_n G.1 G.2.1 d_Mo_putNumber_42 rfl (lv_at hl 0 rfl) ?_
            refine lv_bipush (v := 45) G.1 G.2.1 d_Mo_putNumber_43 (by decide) ?_
            obtain ⟨mc_15, ms_16, hr_17, h⟩ := h
            refine uaVv (As := [.int 45]) (rest := []) G hP hD hS (ca_Mo_put l D g ad mc_15 ms_16 y_h16 _ s_h16 a0 45 H.size (us H) h_a0 h) w9_Mo_put q4055 ⟨Nat.le_of_ble_eq_true rfl, Nat.le_of_ble_eq_true rfl⟩ rfl rfl h_a0 (q := (RMo, TMo, 131)) rfl rfl hl.1 rfl (Nat.le_of_ble_eq_true rfl) rfl hr_17 d_Mo_putNumber_45 (fun y_12 s_11 d_13 e_14 H locs h hP hD hS => ?_)
            have hl := lv_sub (l' := [(0, .ref (ad a0)), (2, .long x2h16), (4, .long x4h16)]) hl [0, 2, 3] rfl
            obtain ⟨hd, h⟩ := h
            exact J_48 y_12 s_11 (d_h16 + d_13) (e_h16 + e_14) x2h16 x4h16 H locs h hP hD hS ls (lv_sub hl [0, 1, 2] rfl)
        · skip
          have h := h.2 c24
          refine lv_lload G.1 G.2.1 d_Mo_putNumber_27 (lv_at hl 3 rfl) ?_
          refine lv_ldc2 (v := (10)) G.1 G.2.1 G.2.2.2.2.2.2.1 (G.2.2.2.2.2.1 _ q3512) d_Mo_putNumber_29 ?_
          refine lv_lmul G.1 G.2.1 d_Mo_putNumber_32 ?_
          refine lv_lstore (lv' := [(4, .long (x4h16 * (10))), (0, .ref (ad a0)), (1, .int x1h16), (2, .long x2h16)]) G.1 G.2.1 d_Mo_putNumber_33 hl (by decide) rfl (fun ls hl => ?_)
          refine lv_goto (tgt := 16) G.1 G.2.1 d_Mo_putNumber_35 (by decide) ?_
          have h := hK_16 y_h16 s_h16 d_h16 e_h16 x1h16 x2h16 (x4h16 * (10)) h
          exact ih_16 y_h16 s_h16 d_h16 e_h16 x1h16 x2h16 (x4h16 * (10)) (Nat.lt_of_lt_of_le h.2 (Nat.le_of_lt_succ hμ_16)) h.1 H locs hP hD hS ls (lv_sub hl [1, 2, 3, 0] rfl)
    exact L_16 _ y_j12 s_j12 d_j12 e_j12 x1j12 z0j12 1 (Nat.lt_succ_self _) hI_16 H locs hP hD hS ls (lv_sub hl [2, 3, 1, 0] rfl)
  refine lv_if_ge (tgt := 10) G.1 G.2.1 d_Mo_putNumber_1 (by decide) (fun c1 => ?_) (fun c1 => ?_)
  · skip
    have h := h.1 c1
    refine lv_iload_n G.1 G.2.1 d_Mo_putNumber_10 rfl (lv_at hl 1 rfl) ?_
    refine lv_i2l G.1 G.2.1 d_Mo_putNumber_11 rfl ?_
    exact J_12 y σ 0 0 v1 v1.toInt64 H locs h hP hD hS ls (lv_sub hl [0, 1] rfl)
  · skip
    have h := h.2 c1
    refine lv_iload_n G.1 G.2.1 d_Mo_putNumber_4 rfl (lv_at hl 1 rfl) ?_
    refine lv_i2l G.1 G.2.1 d_Mo_putNumber_5 rfl ?_
    refine lv_lneg G.1 G.2.1 d_Mo_putNumber_6 ?_
    refine lv_goto (tgt := 12) G.1 G.2.1 d_Mo_putNumber_7 (by decide) ?_
    exact J_12 y σ 0 0 v1 (-v1.toInt64) H locs h hP hD hS ls (lv_sub hl [0, 1] rfl)
theorem q4075 : Cond.methodLink "ClassWorksModel" 1194 y_Mo_putType ∈ lw_ok := lw_okmem (List.mem_of_getElem? (i := 4075) (by decide +kernel)) rfl
theorem q4078 : Cond.code y_Mo_putType b_Mo_putType 2 (none) ∈ lw_ok := lw_okmem (List.mem_of_getElem? (i := 4078) (by decide +kernel)) rfl
theorem q4077 : Cond.instanceMethod y_Mo_putType ∈ lw_ok := lw_okmem (List.mem_of_getElem? (i := 4077) (by decide +kernel)) rfl
theorem q299 : Cond.selects y_Mo_putType.cls y_Mo_putType y_Mo_putType ∈ lw_ok := lw_okmem (List.mem_of_getElem? (i := 299) (by decide +kernel)) rfl
theorem w9_Mo_putType : CWv y_Mo_putType b_Mo_putType 2 (none) 1 ∧ Cond.instanceMethod y_Mo_putType ∈ lw_ok ∧ Cond.selects y_Mo_putType.cls y_Mo_putType y_Mo_putType ∈ lw_ok := ⟨⟨q4078, q348, by decide +kernel, by decide +kernel, by decide +kernel⟩, q4077, q299⟩
def y_Mo_putSignature : MethodName := ⟨"ClassWorksModel", "putSignature", "(I)V"⟩
abbrev b_Mo_putSignature : ByteArray := prog_14_method_160_code
theorem d_Mo_putSignature_0 : decode b_Mo_putSignature 0 = .ok (.aload_n 0, 1) := by decide +kernel
theorem d_Mo_putSignature_1 : decode b_Mo_putSignature 1 = .ok (.bipush 40, 2) := by decide +kernel
theorem d_Mo_putSignature_3 : decode b_Mo_putSignature 3 = .ok (.invokevirtual 1179, 3) := by decide +kernel
theorem d_Mo_putSignature_6 : decode b_Mo_putSignature 6 = .ok (.iconst 0, 1) := by decide +kernel
theorem d_Mo_putSignature_7 : decode b_Mo_putSignature 7 = .ok (.istore_n 2, 1) := by decide +kernel
theorem d_Mo_putSignature_8 : decode b_Mo_putSignature 8 = .ok (.iload_n 2, 1) := by decide +kernel
theorem d_Mo_putSignature_9 : decode b_Mo_putSignature 9 = .ok (.aload_n 0, 1) := by decide +kernel
theorem d_Mo_putSignature_10 : decode b_Mo_putSignature 10 = .ok (.getfield 80, 3) := by decide +kernel
theorem d_Mo_putSignature_13 : decode b_Mo_putSignature 13 = .ok (.iload_n 1, 1) := by decide +kernel
theorem d_Mo_putSignature_14 : decode b_Mo_putSignature 14 = .ok (.iaload, 1) := by decide +kernel
theorem d_Mo_putSignature_15 : decode b_Mo_putSignature 15 = .ok (.if_icmp .ge 43, 3) := by decide +kernel
theorem d_Mo_putSignature_18 : decode b_Mo_putSignature 18 = .ok (.aload_n 0, 1) := by decide +kernel
theorem d_Mo_putSignature_19 : decode b_Mo_putSignature 19 = .ok (.iload_n 2, 1) := by decide +kernel
theorem d_Mo_putSignature_20 : decode b_Mo_putSignature 20 = .ok (.ifCond .le 9, 3) := by decide +kernel
theorem d_Mo_putSignature_23 : decode b_Mo_putSignature 23 = .ok (.ldc_w 1190, 3) := by decide +kernel
theorem d_Mo_putSignature_26 : decode b_Mo_putSignature 26 = .ok (.goto 6, 3) := by decide +kernel
theorem d_Mo_putSignature_29 : decode b_Mo_putSignature 29 = .ok (.ldc_w 1192, 3) := by decide +kernel
theorem d_Mo_putSignature_32 : decode b_Mo_putSignature 32 = .ok (.invokevirtual 1187, 3) := by decide +kernel
theorem d_Mo_putSignature_35 : decode b_Mo_putSignature 35 = .ok (.aload_n 0, 1) := by decide +kernel
theorem d_Mo_putSignature_36 : decode b_Mo_putSignature 36 = .ok (.aload_n 0, 1) := by decide +kernel
theorem d_Mo_putSignature_37 : decode b_Mo_putSignature 37 = .ok (.getfield 86, 3) := by decide +kernel
theorem d_Mo_putSignature_40 : decode b_Mo_putSignature 40 = .ok (.aload_n 0, 1) := by decide +kernel
theorem d_Mo_putSignature_41 : decode b_Mo_putSignature 41 = .ok (.getfield 74, 3) := by decide +kernel
theorem d_Mo_putSignature_44 : decode b_Mo_putSignature 44 = .ok (.iload_n 1, 1) := by decide +kernel
theorem d_Mo_putSignature_45 : decode b_Mo_putSignature 45 = .ok (.iaload, 1) := by decide +kernel
theorem d_Mo_putSignature_46 : decode b_Mo_putSignature 46 = .ok (.iload_n 2, 1) := by decide +kernel
theorem d_Mo_putSignature_47 : decode b_Mo_putSignature 47 = .ok (.iadd, 1) := by decide +kernel
theorem d_Mo_putSignature_48 : decode b_Mo_putSignature 48 = .ok (.iaload, 1) := by decide +kernel
theorem d_Mo_putSignature_49 : decode b_Mo_putSignature 49 = .ok (.invokevirtual 1194, 3) := by decide +kernel
theorem d_Mo_putSignature_52 : decode b_Mo_putSignature 52 = .ok (.iinc 2 1, 3) := by decide +kernel
theorem d_Mo_putSignature_55 : decode b_Mo_putSignature 55 = .ok (.goto (-47), 3) := by decide +kernel
theorem d_Mo_putSignature_58 : decode b_Mo_putSignature 58 = .ok (.aload_n 0, 1) := by decide +kernel
theorem d_Mo_putSignature_59 : decode b_Mo_putSignature 59 = .ok (.ldc_w 1197, 3) := by decide +kernel
theorem d_Mo_putSignature_62 : decode b_Mo_putSignature 62 = .ok (.invokevirtual 1187, 3) := by decide +kernel
theorem d_Mo_putSignature_65 : decode b_Mo_putSignature 65 = .ok (.aload_n 0, 1) := by decide +kernel
theorem d_Mo_putSignature_66 : decode b_Mo_putSignature 66 = .ok (.aload_n 0, 1) := by decide +kernel
theorem d_Mo_putSignature_67 : decode b_Mo_putSignature 67 = .ok (.getfield 83, 3) := by decide +kernel
theorem d_Mo_putSignature_70 : decode b_Mo_putSignature 70 = .ok (.iload_n 1, 1) := by decide +kernel
theorem d_Mo_putSignature_71 : decode b_Mo_putSignature 71 = .ok (.iaload, 1) := by decide +kernel
theorem d_Mo_putSignature_72 : decode b_Mo_putSignature 72 = .ok (.invokevirtual 1194, 3) := by decide +kernel
theorem d_Mo_putSignature_75 : decode b_Mo_putSignature 75 = .ok (.return_, 1) := by decide +kernel
abbrev ra_Mo_putSignature (mc ms : Nat) : Room := { frames := 6, cells := mc, slots := ms, locals := 214 }
def wja_Mo_putSignature_32 (mc ms : Nat) (Post : Ly → St → Nat → Nat → Prop) (K_8 : Ly → St → Nat → Nat → Int32 → Int32 → Prop) (a0 : Nat) (y_j32 : Ly) (s_j32 : St) (d_j32 e_j32 : Nat) (x1j32 : Int32) (x2j32 : Int32) (z1j32 : Nat) : Prop := (d_j32 ≤ mc ∧ e_j32 ≤ ms) ∧ z1j32 < strT.length ∧ ∃ mc_32 ms_33 : Nat, (d_j32 + mc_32 ≤ mc ∧ e_j32 + ms_33 ≤ ms) ∧ wa_Mo_putWord mc_32 ms_33 y_j32 (fun (y_29 : Ly) (s_28 : St) (d_30 e_31 : Nat) => (d_j32 + d_30 ≤ mc ∧ e_j32 + e_31 ≤ ms) ∧ xA y_29 s_28 a0 30 x1j32 (fun x_35 : Int32 => xA y_29 s_28 a0 35 (x_35 + x2j32) (fun x_36 : Int32 => ∃ mc_42 ms_43 : Nat, (d_j32 + d_30 + mc_42 ≤ mc ∧ e_j32 + e_31 + ms_43 ≤ ms) ∧ wa_Mo_putType mc_42 ms_43 y_29 (fun (y_39 : Ly) (s_38 : St) (d_40 e_41 : Nat) => (d_j32 + d_30 + d_40 ≤ mc ∧ e_j32 + e_31 + e_41 ≤ ms) ∧ K_8 y_39 s_38 (d_j32 + d_30 + d_40) (e_j32 + e_31 + e_41) x1j32 (x2j32 + 1)) s_28 a0 x_36))) s_j32 a0 z1j32
def wba_Mo_putSignature_8 (mc ms : Nat) (Post : Ly → St → Nat → Nat → Prop) (K_8 : Ly → St → Nat → Nat → Int32 → Int32 → Prop) (a0 : Nat) (y_h8 : Ly) (s_h8 : St) (d_h8 e_h8 : Nat) (x1h8 : Int32) (x2h8 : Int32) : Prop := (d_h8 ≤ mc ∧ e_h8 ≤ ms) ∧ xA y_h8 s_h8 a0 31 x1h8 (fun x_9 : Int32 => ((x_9 ≤ x2h8 → ∃ mc_15 ms_16 : Nat, (d_h8 + mc_15 ≤ mc ∧ e_h8 + ms_16 ≤ ms) ∧ wa_Mo_putWord mc_15 ms_16 y_h8 (fun (y_12 : Ly) (s_11 : St) (d_13 e_14 : Nat) => (d_h8 + d_13 ≤ mc ∧ e_h8 + e_14 ≤ ms) ∧ xA y_12 s_11 a0 32 x1h8 (fun x_18 : Int32 => ∃ mc_24 ms_25 : Nat, (d_h8 + d_13 + mc_24 ≤ mc ∧ e_h8 + e_14 + ms_25 ≤ ms) ∧ wa_Mo_putType mc_24 ms_25 y_12 (fun (y_21 : Ly) (s_20 : St) (d_22 e_23 : Nat) => (d_h8 + d_13 + d_22 ≤ mc ∧ e_h8 + e_14 + e_23 ≤ ms) ∧ Post y_21 s_20 (d_h8 + d_13 + d_22) (e_h8 + e_14 + e_23)) s_11 a0 x_18)) s_h8 a0 51) ∧ (¬ (x_9 ≤ x2h8) → ((x2h8 ≤ 0 → wja_Mo_putSignature_32 mc ms Post K_8 a0 y_h8 s_h8 d_h8 e_h8 x1h8 x2h8 50) ∧ (¬ (x2h8 ≤ 0) → wja_Mo_putSignature_32 mc ms Post K_8 a0 y_h8 s_h8 d_h8 e_h8 x1h8 x2h8 43)))))
def wla_Mo_putSignature_8 (mc ms : Nat) (Post : Ly → St → Nat → Nat → Prop) (a0 : Nat) (y_h8 : Ly) (s_h8 : St) (d_h8 e_h8 : Nat) (x1h8 : Int32) (x2h8 : Int32) : Prop := ∃ (I : Ly → St → Nat → Nat → Int32 → Int32 → Prop) (μ : Ly → St → Nat → Nat → Int32 → Int32 → Nat), I y_h8 s_h8 d_h8 e_h8 x1h8 x2h8 ∧ ∀ (u1 : Ly) (u2 : St) (u3 u4 : Nat) (t0 : Int32) (t1 : Int32), I u1 u2 u3 u4 t0 t1 → wba_Mo_putSignature_8 mc ms Post (fun z1 z2 z3 z4 t0q t1q => I z1 z2 z3 z4 t0q t1q ∧ μ z1 z2 z3 z4 t0q t1q < μ u1 u2 u3 u4 t0 t1) a0 u1 u2 u3 u4 t0 t1
def wa_Mo_putSignature (mc ms : Nat) (y : Ly) (Post : Ly → St → Nat → Nat → Prop) (σ : St) (a0 : Nat) (v1 : Int32) : Prop := ∃ mc_6 ms_7 : Nat, (0 + mc_6 ≤ mc ∧ 0 + ms_7 ≤ ms) ∧ wa_Mo_put mc_6 ms_7 y (fun (y_3 : Ly) (s_2 : St) (d_4 e_5 : Nat) => (0 + d_4 ≤ mc ∧ 0 + e_5 ≤ ms) ∧ wla_Mo_putSignature_8 mc ms Post a0 y_3 s_2 (0 + d_4) (0 + e_5) v1 0) σ a0 40
set_option maxHeartbeats 4000000 in
set_option maxRecDepth 100000 in
theorem ca_Mo_putSignature (l : Launch) (D : va_G) (g : Nat → ClassId) (F : Nat → SL) (sl : List SL) (hF : SOK F sl) (ad : Nat → Nat) (mc ms : Nat) (y : Ly) (Post : Ly → St → Nat → Nat → Prop) (σ : St) (a0 : Nat) (v1 : Int32) (sz uz : Nat) (h_a0 : cl a0 = 14) (h : wa_Mo_putSignature mc ms y Post σ a0 v1) : Met l y_Mo_putSignature (mw y_Mo_putSignature b_Mo_putSignature 3 (none)) (ra_Mo_putSignature mc ms) (PCu g D sl [.ref (ad a0), .int v1] sz uz (ws g ad y σ)) (va_Qv (fun (u : Ly × St × Nat × Nat) => Post u.1 u.2.1 u.2.2.1 u.2.2.2) (QU D (va_A (ws g ad y σ) sz) (fun u => ws g ad u.1 u.2.1) sz uz (fun u => u.2.2.1) (fun u => u.2.2.2)) (va_A (ws g ad y σ) sz)) mc ms (va_A (ws g ad y σ) sz) := by
  refine ofVu (by decide +kernel) (Nat.le_of_ble_eq_true rfl) ?_
  intro p e s m args below meth c A Q ls H locs G hsz hP hD hS hl hret
  subst hsz
  have hl : lv_has ls 3 [(0, .ref (ad a0)), (1, .int v1)] := hl
  have hd : 0 ≤ mc ∧ 0 ≤ ms := ⟨Nat.zero_le _, Nat.zero_le _⟩
  unfold wa_Mo_putSignature at h
  refine lv_aload_n G.1 G.2.1 d_Mo_putSignature_0 rfl (lv_at hl 0 rfl) ?_
  refine lv_bipush (v := 40) G.1 G.2.1 d_Mo_putSignature_1 (by decide) ?_
  obtain ⟨mc_6, ms_7, hr_8, h⟩ := h
  refine uaVv (As := [.int 40]) (rest := []) G hP hD hS (ca_Mo_put l D g ad mc_6 ms_7 y _ σ a0 40 H.size (us H) h_a0 h) w9_Mo_put q4055 ⟨Nat.le_of_ble_eq_true rfl, Nat.le_of_ble_eq_true rfl⟩ rfl rfl h_a0 (q := (RMo, TMo, 131)) rfl rfl hl.1 rfl (Nat.le_of_ble_eq_true rfl) rfl hr_8 d_Mo_putSignature_3 (fun y_3 s_2 d_4 e_5 H locs h hP hD hS => ?_)
  obtain ⟨hd, h⟩ := h
  refine lv_iconst (v := 0) G.1 G.2.1 d_Mo_putSignature_6 (by decide) ?_
  refine lv_istore_n (lv' := [(2, .int 0), (0, .ref (ad a0)), (1, .int v1)]) G.1 G.2.1 d_Mo_putSignature_7 rfl hl (by decide) rfl (fun ls hl => ?_)
  unfold wla_Mo_putSignature_8 at h
  obtain ⟨I_8, μ_8, hI_8, hB_8⟩ := h
  have L_8 : ∀ (n_8 : Nat) (y_h8 : Ly) (s_h8 : St) (d_h8 e_h8 : Nat) (x1h8 : Int32) (x2h8 : Int32), μ_8 y_h8 s_h8 d_h8 e_h8 x1h8 x2h8 < n_8 → I_8 y_h8 s_h8 d_h8 e_h8 x1h8 x2h8 → ∀ (H : Heap) (locs : List Loc), va_P D CL (ws g ad y_h8 s_h8) H → va_D A (ws g ad y_h8 s_h8) → va_S A s.heap H locs → ∀ ls, lv_has ls 3 [(0, .ref (ad a0)), (1, .int x1h8), (2, .int x2h8)] → W p l e (ra_Mo_putSignature mc ms) s m args below meth c H locs d_h8 e_h8 Q (F0 m 8 ls []) := by
    intro n_8
    induction n_8 with
    | zero => intro y_h8 s_h8 d_h8 e_h8 x1h8 x2h8 hμ; exact absurd hμ (Nat.not_lt_zero _)
    | succ n_8 ih_8 =>
      intro y_h8 s_h8 d_h8 e_h8 x1h8 x2h8 hμ_8 hJ H locs hP hD hS ls hl
      obtain ⟨K_8, hK_8, h⟩ : ∃ K : Ly → St → Nat → Nat → Int32 → Int32 → Prop, (∀ z1 z2 z3 z4 (t0 : Int32) (t1 : Int32), K z1 z2 z3 z4 t0 t1 → I_8 z1 z2 z3 z4 t0 t1 ∧ μ_8 z1 z2 z3 z4 t0 t1 < μ_8 y_h8 s_h8 d_h8 e_h8 x1h8 x2h8) ∧ wba_Mo_putSignature_8 mc ms Post K a0 y_h8 s_h8 d_h8 e_h8 x1h8 x2h8 := ⟨_, fun _ _ _ _ _ _ h => h, hB_8 y_h8 s_h8 d_h8 e_h8 x1h8 x2h8 hJ⟩
      unfold wba_Mo_putSignature_8 at h
      obtain ⟨hd, h⟩ := h
      refine lv_iload_n G.1 G.2.1 d_Mo_putSignature_8 rfl (lv_at hl 2 rfl) ?_
      refine lv_aload_n G.1 G.2.1 d_Mo_putSignature_9 rfl (lv_at hl 0 rfl) ?_
      refine ugf (v := .ref (yP y_h8 a0 31)) G hP h_a0 iMo rfl 31 (by decide) rfl q3095 rfl rfl d_Mo_putSignature_10 ?_
      refine lv_iload_n G.1 G.2.1 d_Mo_putSignature_13 rfl (lv_at hl 1 rfl) ?_
      refine uiald G hP (kdp h_a0 rfl) (typ h_a0 rfl) h d_Mo_putSignature_14 (fun x_9 h => ?_)
      refine lv_icmp_ge (tgt := 58) G.1 G.2.1 d_Mo_putSignature_15 (by decide) (fun c15 => ?_) (fun c15 => ?_)
      · skip
        have h := h.1 c15
        refine lv_aload_n G.1 G.2.1 d_Mo_putSignature_58 rfl (lv_at hl 0 rfl) ?_
        refine uldcw (n := 51) hF rfl G d_Mo_putSignature_59 ?_
        obtain ⟨mc_15, ms_16, hr_17, h⟩ := h
        refine utVv (As := [.ref (sk (F 51))]) (rest := []) G hP hD hS (ca_Mo_putWord l D g F sl hF ad mc_15 ms_16 y_h8 _ s_h8 a0 51 H.size (us H) h_a0 (by decide +kernel) h) w9_Mo_putWord q4051 ⟨Nat.le_of_ble_eq_true rfl, Nat.le_of_ble_eq_true rfl⟩ rfl rfl h_a0 (q := (RMo, TMo, 131)) rfl rfl hl.1 rfl (Nat.le_of_ble_eq_true rfl) rfl hr_17 d_Mo_putSignature_62 (fun y_12 s_11 d_13 e_14 H locs h hP hD hS => ?_)
        have hl := lv_sub (l' := [(0, .ref (ad a0)), (1, .int x1h8)]) hl [0, 1] rfl
        obtain ⟨hd, h⟩ := h
        refine lv_aload_n G.1 G.2.1 d_Mo_putSignature_65 rfl (lv_at hl 0 rfl) ?_
        refine lv_aload_n G.1 G.2.1 d_Mo_putSignature_66 rfl (lv_at hl 0 rfl) ?_
        refine W.eq (g2 := F0 m 67 ls [.ref (ad a0), .ref (ad a0)]) rfl ?_
        refine ugf (v := .ref (yP y_12 a0 32)) G hP h_a0 iMo rfl 32 (by decide) rfl q3096 rfl rfl d_Mo_putSignature_67 ?_
        refine lv_iload_n G.1 G.2.1 d_Mo_putSignature_70 rfl (lv_at hl 1 rfl) ?_
        refine uiald G hP (kdp h_a0 rfl) (typ h_a0 rfl) h d_Mo_putSignature_71 (fun x_18 h => ?_)
        obtain ⟨mc_24, ms_25, hr_26, h⟩ := h
        refine utVv (As := [.int x_18]) (rest := []) G hP hD hS (ca_Mo_putType l D g F sl hF ad mc_24 ms_25 y_12 _ s_11 a0 x_18 H.size (us H) h_a0 h) w9_Mo_putType q4075 ⟨Nat.le_of_ble_eq_true rfl, Nat.le_of_ble_eq_true rfl⟩ rfl rfl h_a0 (q := (RMo, TMo, 131)) rfl rfl hl.1 rfl (Nat.le_of_ble_eq_true rfl) rfl hr_26 d_Mo_putSignature_72 (fun y_21 s_20 d_22 e_23 H locs h hP hD hS => ?_)
        have hl := lv_sub (l' := []) hl [] rfl
        obtain ⟨hd, h⟩ := h
        exact hret (y_21, s_20, d_h8 + d_13 + d_22, e_h8 + e_14 + e_23) _ _ _ _ _ ls h hP hD hS (Nat.le_refl _) (Nat.le_refl _) hd.1 hd.2 d_Mo_putSignature_75
      · skip
        have h := h.2 c15
        refine lv_aload_n G.1 G.2.1 d_Mo_putSignature_18 rfl (lv_at hl 0 rfl) ?_
        refine lv_iload_n G.1 G.2.1 d_Mo_putSignature_19 rfl (lv_at hl 2 rfl) ?_
        have J_32 : ∀ (y_j32 : Ly) (s_j32 : St) (d_j32 e_j32 : Nat) (x1j32 : Int32) (x2j32 : Int32) (z1j32 : Nat) (H : Heap) (locs : List Loc), wja_Mo_putSignature_32 mc ms Post K_8 a0 y_j32 s_j32 d_j32 e_j32 x1j32 x2j32 z1j32 → va_P D CL (ws g ad y_j32 s_j32) H → va_D A (ws g ad y_j32 s_j32) → va_S A s.heap H locs → ∀ ls, lv_has ls 3 [(0, .ref (ad a0)), (1, .int x1j32), (2, .int x2j32)] → W p l e (ra_Mo_putSignature mc ms) s m args below meth c H locs d_j32 e_j32 Q (F0 m 32 ls [.ref (sk (F z1j32)), .ref (ad a0)]) := by
          intro y_j32 s_j32 d_j32 e_j32 x1j32 x2j32 z1j32 H locs h hP hD hS ls hl
          unfold wja_Mo_putSignature_32 at h
          obtain ⟨hd, h⟩ := h
          obtain ⟨c_z1j32, h⟩ := h
          obtain ⟨mc_32, ms_33, hr_34, h⟩ := h
          refine utVv (As := [.ref (sk (F z1j32))]) (rest := []) G hP hD hS (ca_Mo_putWord l D g F sl hF ad mc_32 ms_33 y_j32 _ s_j32 a0 z1j32 H.size (us H) h_a0 c_z1j32 h) w9_Mo_putWord q4051 ⟨Nat.le_of_ble_eq_true rfl, Nat.le_of_ble_eq_true rfl⟩ rfl rfl h_a0 (q := (RMo, TMo, 131)) rfl rfl hl.1 rfl (Nat.le_of_ble_eq_true rfl) rfl hr_34 d_Mo_putSignature_32 (fun y_29 s_28 d_30 e_31 H locs h hP hD hS => ?_)
          obtain ⟨hd, h⟩ := h
          refine lv_aload_n G.1 G.2.1 d_Mo_putSignature_35 rfl (lv_at hl 0 rfl) ?_
          refine lv_aload_n G.1 G.2.1 d_Mo_putSignature_36 rfl (lv_at hl 0 rfl) ?_
          refine ugf (v := .ref (yP y_29 a0 35)) G hP h_a0 iMo rfl 35 (by decide) rfl q3099 rfl rfl d_Mo_putSignature_37 ?_
          refine lv_aload_n G.1 G.2.1 d_Mo_putSignature_40 rfl (lv_at hl 0 rfl) ?_
          refine ugf (v := .ref (yP y_29 a0 30)) G hP h_a0 iMo rfl 30 (by decide) rfl q3094 rfl rfl d_Mo_putSignature_41 ?_
          refine lv_iload_n G.1 G.2.1 d_Mo_putSignature_44 rfl (lv_at hl 1 rfl) ?_
          refine uiald G hP (kdp h_a0 rfl) (typ h_a0 rfl) h d_Mo_putSignature_45 (fun x_35 h => ?_)
          refine lv_iload_n G.1 G.2.1 d_Mo_putSignature_46 rfl (lv_at hl 2 rfl) ?_
          refine lv_iadd G.1 G.2.1 d_Mo_putSignature_47 ?_
          refine uiald G hP (kdp h_a0 rfl) (typ h_a0 rfl) h d_Mo_putSignature_48 (fun x_36 h => ?_)
          refine W.eq (g2 := F0 m 49 ls [.int x_36, .ref (ad a0)]) rfl ?_
          obtain ⟨mc_42, ms_43, hr_44, h⟩ := h
          refine utVv (As := [.int x_36]) (rest := []) G hP hD hS (ca_Mo_putType l D g F sl hF ad mc_42 ms_43 y_29 _ s_28 a0 x_36 H.size (us H) h_a0 h) w9_Mo_putType q4075 ⟨Nat.le_of_ble_eq_true rfl, Nat.le_of_ble_eq_true rfl⟩ rfl rfl h_a0 (q := (RMo, TMo, 131)) rfl rfl hl.1 rfl (Nat.le_of_ble_eq_true rfl) rfl hr_44 d_Mo_putSignature_49 (fun y_39 s_38 d_40 e_41 H locs h hP hD hS => ?_)
          obtain ⟨hd, h⟩ := h
          refine lv_iinc (v := x2j32 + 1) (lv' := [(2, .int (x2j32 + 1)), (0, .ref (ad a0)), (1, .int x1j32)]) G.1 G.2.1 d_Mo_putSignature_52 hl (k := 2) rfl rfl (by decide) rfl (fun ls hl => ?_)
          refine lv_goto (tgt := 8) G.1 G.2.1 d_Mo_putSignature_55 (by decide) ?_
          have h := hK_8 y_39 s_38 (d_j32 + d_30 + d_40) (e_j32 + e_31 + e_41) x1j32 (x2j32 + 1) h
          exact ih_8 y_39 s_38 (d_j32 + d_30 + d_40) (e_j32 + e_31 + e_41) x1j32 (x2j32 + 1) (Nat.lt_of_lt_of_le h.2 (Nat.le_of_lt_succ hμ_8)) h.1 H locs hP hD hS ls (lv_sub hl [1, 2, 0] rfl)
        refine lv_if_le (tgt := 29) G.1 G.2.1 d_Mo_putSignature_20 (by decide) (fun c20 => ?_) (fun c20 => ?_)
        · skip
          have h := h.1 c20
          refine uldcw (n := 50) hF rfl G d_Mo_putSignature_29 ?_
          exact J_32 y_h8 s_h8 d_h8 e_h8 x1h8 x2h8 50 H locs h hP hD hS ls (lv_sub hl [0, 1, 2] rfl)
        · skip
          have h := h.2 c20
          refine uldcw (n := 43) hF rfl G d_Mo_putSignature_23 ?_
          refine lv_goto (tgt := 32) G.1 G.2.1 d_Mo_putSignature_26 (by decide) ?_
          exact J_32 y_h8 s_h8 d_h8 e_h8 x1h8 x2h8 43 H locs h hP hD hS ls (lv_sub hl [0, 1, 2] rfl)
  exact L_8 _ y_3 s_2 (0 + d_4) (0 + e_5) v1 0 (Nat.lt_succ_self _) hI_8 H locs hP hD hS ls (lv_sub hl [1, 2, 0] rfl)
def y_Mo_putKinds : MethodName := ⟨"ClassWorksModel", "putKinds", "(III)V"⟩
abbrev b_Mo_putKinds : ByteArray := prog_14_method_166_code
theorem d_Mo_putKinds_0 : decode b_Mo_putKinds 0 = .ok (.iconst 0, 1) := by decide +kernel
theorem d_Mo_putKinds_1 : decode b_Mo_putKinds 1 = .ok (.istore 4, 2) := by decide +kernel
theorem d_Mo_putKinds_3 : decode b_Mo_putKinds 3 = .ok (.iload 4, 2) := by decide +kernel
theorem d_Mo_putKinds_5 : decode b_Mo_putKinds 5 = .ok (.iload_n 3, 1) := by decide +kernel
theorem d_Mo_putKinds_6 : decode b_Mo_putKinds 6 = .ok (.if_icmp .ge 113, 3) := by decide +kernel
theorem d_Mo_putKinds_9 : decode b_Mo_putKinds 9 = .ok (.aload_n 0, 1) := by decide +kernel
theorem d_Mo_putKinds_10 : decode b_Mo_putKinds 10 = .ok (.iload_n 1, 1) := by decide +kernel
theorem d_Mo_putKinds_11 : decode b_Mo_putKinds 11 = .ok (.iload_n 2, 1) := by decide +kernel
theorem d_Mo_putKinds_12 : decode b_Mo_putKinds 12 = .ok (.iload 4, 2) := by decide +kernel
theorem d_Mo_putKinds_14 : decode b_Mo_putKinds 14 = .ok (.iadd, 1) := by decide +kernel
theorem d_Mo_putKinds_15 : decode b_Mo_putKinds 15 = .ok (.invokevirtual 771, 3) := by decide +kernel
theorem d_Mo_putKinds_18 : decode b_Mo_putKinds 18 = .ok (.istore 5, 2) := by decide +kernel
theorem d_Mo_putKinds_20 : decode b_Mo_putKinds 20 = .ok (.aload_n 0, 1) := by decide +kernel
theorem d_Mo_putKinds_21 : decode b_Mo_putKinds 21 = .ok (.iload 4, 2) := by decide +kernel
theorem d_Mo_putKinds_23 : decode b_Mo_putKinds 23 = .ok (.ifCond .le 9, 3) := by decide +kernel
theorem d_Mo_putKinds_26 : decode b_Mo_putKinds 26 = .ok (.ldc_w 1190, 3) := by decide +kernel
theorem d_Mo_putKinds_29 : decode b_Mo_putKinds 29 = .ok (.goto 6, 3) := by decide +kernel
theorem d_Mo_putKinds_32 : decode b_Mo_putKinds 32 = .ok (.ldc_w 1247, 3) := by decide +kernel
theorem d_Mo_putKinds_35 : decode b_Mo_putKinds 35 = .ok (.invokevirtual 1187, 3) := by decide +kernel
theorem d_Mo_putKinds_38 : decode b_Mo_putKinds 38 = .ok (.aload_n 0, 1) := by decide +kernel
theorem d_Mo_putKinds_39 : decode b_Mo_putKinds 39 = .ok (.iload 5, 2) := by decide +kernel
theorem d_Mo_putKinds_41 : decode b_Mo_putKinds 41 = .ok (.bipush 16, 2) := by decide +kernel
theorem d_Mo_putKinds_43 : decode b_Mo_putKinds 43 = .ok (.if_icmp .lt 11, 3) := by decide +kernel
theorem d_Mo_putKinds_46 : decode b_Mo_putKinds 46 = .ok (.iload 5, 2) := by decide +kernel
theorem d_Mo_putKinds_48 : decode b_Mo_putKinds 48 = .ok (.bipush 16, 2) := by decide +kernel
theorem d_Mo_putKinds_50 : decode b_Mo_putKinds 50 = .ok (.isub, 1) := by decide +kernel
theorem d_Mo_putKinds_51 : decode b_Mo_putKinds 51 = .ok (.goto 59, 3) := by decide +kernel
theorem d_Mo_putKinds_54 : decode b_Mo_putKinds 54 = .ok (.iload 5, 2) := by decide +kernel
theorem d_Mo_putKinds_56 : decode b_Mo_putKinds 56 = .ok (.iconst 1, 1) := by decide +kernel
theorem d_Mo_putKinds_57 : decode b_Mo_putKinds 57 = .ok (.if_icmp .ne 10, 3) := by decide +kernel
theorem d_Mo_putKinds_60 : decode b_Mo_putKinds 60 = .ok (.aload_n 0, 1) := by decide +kernel
theorem d_Mo_putKinds_61 : decode b_Mo_putKinds 61 = .ok (.getfield 245, 3) := by decide +kernel
theorem d_Mo_putKinds_64 : decode b_Mo_putKinds 64 = .ok (.goto 46, 3) := by decide +kernel
theorem d_Mo_putKinds_67 : decode b_Mo_putKinds 67 = .ok (.iload 5, 2) := by decide +kernel
theorem d_Mo_putKinds_69 : decode b_Mo_putKinds 69 = .ok (.iconst 2, 1) := by decide +kernel
theorem d_Mo_putKinds_70 : decode b_Mo_putKinds 70 = .ok (.if_icmp .ne 10, 3) := by decide +kernel
theorem d_Mo_putKinds_73 : decode b_Mo_putKinds 73 = .ok (.aload_n 0, 1) := by decide +kernel
theorem d_Mo_putKinds_74 : decode b_Mo_putKinds 74 = .ok (.getfield 212, 3) := by decide +kernel
theorem d_Mo_putKinds_77 : decode b_Mo_putKinds 77 = .ok (.goto 33, 3) := by decide +kernel
theorem d_Mo_putKinds_80 : decode b_Mo_putKinds 80 = .ok (.iload 5, 2) := by decide +kernel
theorem d_Mo_putKinds_82 : decode b_Mo_putKinds 82 = .ok (.iconst 3, 1) := by decide +kernel
theorem d_Mo_putKinds_83 : decode b_Mo_putKinds 83 = .ok (.if_icmp .ne 10, 3) := by decide +kernel
theorem d_Mo_putKinds_86 : decode b_Mo_putKinds 86 = .ok (.aload_n 0, 1) := by decide +kernel
theorem d_Mo_putKinds_87 : decode b_Mo_putKinds 87 = .ok (.getfield 248, 3) := by decide +kernel
theorem d_Mo_putKinds_90 : decode b_Mo_putKinds 90 = .ok (.goto 20, 3) := by decide +kernel
theorem d_Mo_putKinds_93 : decode b_Mo_putKinds 93 = .ok (.iload 5, 2) := by decide +kernel
theorem d_Mo_putKinds_95 : decode b_Mo_putKinds 95 = .ok (.iconst 4, 1) := by decide +kernel
theorem d_Mo_putKinds_96 : decode b_Mo_putKinds 96 = .ok (.if_icmp .ne 10, 3) := by decide +kernel
theorem d_Mo_putKinds_99 : decode b_Mo_putKinds 99 = .ok (.aload_n 0, 1) := by decide +kernel
theorem d_Mo_putKinds_100 : decode b_Mo_putKinds 100 = .ok (.getfield 222, 3) := by decide +kernel
theorem d_Mo_putKinds_103 : decode b_Mo_putKinds 103 = .ok (.goto 7, 3) := by decide +kernel
theorem d_Mo_putKinds_106 : decode b_Mo_putKinds 106 = .ok (.aload_n 0, 1) := by decide +kernel
theorem d_Mo_putKinds_107 : decode b_Mo_putKinds 107 = .ok (.getfield 227, 3) := by decide +kernel
theorem d_Mo_putKinds_110 : decode b_Mo_putKinds 110 = .ok (.invokevirtual 1182, 3) := by decide +kernel
theorem d_Mo_putKinds_113 : decode b_Mo_putKinds 113 = .ok (.iinc 4 1, 3) := by decide +kernel
theorem d_Mo_putKinds_116 : decode b_Mo_putKinds 116 = .ok (.goto (-113), 3) := by decide +kernel
theorem d_Mo_putKinds_119 : decode b_Mo_putKinds 119 = .ok (.return_, 1) := by decide +kernel
abbrev ra_Mo_putKinds (mc ms : Nat) : Room := { frames := 5, cells := mc, slots := ms, locals := 193 }
def wja_Mo_putKinds_110 (mc ms : Nat) (Post : Ly → St → Nat → Nat → Prop) (K_3 : Ly → St → Nat → Nat → Int32 → Int32 → Int32 → Int32 → Prop) (a0 : Nat) (y_j110 : Ly) (s_j110 : St) (d_j110 e_j110 : Nat) (x1j110 : Int32) (x2j110 : Int32) (x3j110 : Int32) (x4j110 : Int32) (z1j110 : Int32) : Prop := (d_j110 ≤ mc ∧ e_j110 ≤ ms) ∧ ∃ mc_16 ms_17 : Nat, (d_j110 + mc_16 ≤ mc ∧ e_j110 + ms_17 ≤ ms) ∧ wa_Mo_putName mc_16 ms_17 y_j110 (fun (y_13 : Ly) (s_12 : St) (d_14 e_15 : Nat) => (d_j110 + d_14 ≤ mc ∧ e_j110 + e_15 ≤ ms) ∧ K_3 y_13 s_12 (d_j110 + d_14) (e_j110 + e_15) x1j110 x2j110 x3j110 (x4j110 + 1)) s_j110 a0 z1j110
def wja_Mo_putKinds_35 (mc ms : Nat) (Post : Ly → St → Nat → Nat → Prop) (K_3 : Ly → St → Nat → Nat → Int32 → Int32 → Int32 → Int32 → Prop) (a0 : Nat) (y_j35 : Ly) (s_j35 : St) (d_j35 e_j35 : Nat) (x1j35 : Int32) (x2j35 : Int32) (x3j35 : Int32) (x4j35 : Int32) (x5j35 : Int32) (z1j35 : Nat) : Prop := (d_j35 ≤ mc ∧ e_j35 ≤ ms) ∧ z1j35 < strT.length ∧ ∃ mc_8 ms_9 : Nat, (d_j35 + mc_8 ≤ mc ∧ e_j35 + ms_9 ≤ ms) ∧ wa_Mo_putWord mc_8 ms_9 y_j35 (fun (y_5 : Ly) (s_4 : St) (d_6 e_7 : Nat) => (d_j35 + d_6 ≤ mc ∧ e_j35 + e_7 ≤ ms) ∧ ((x5j35 < 16 → ((¬ x5j35 = 1 → ((¬ x5j35 = 2 → ((¬ x5j35 = 3 → ((¬ x5j35 = 4 → wja_Mo_putKinds_110 mc ms Post K_3 a0 y_5 s_4 (d_j35 + d_6) (e_j35 + e_7) x1j35 x2j35 x3j35 x4j35 (sV s_4 a0 23)) ∧ (x5j35 = 4 → wja_Mo_putKinds_110 mc ms Post K_3 a0 y_5 s_4 (d_j35 + d_6) (e_j35 + e_7) x1j35 x2j35 x3j35 x4j35 (sV s_4 a0 22)))) ∧ (x5j35 = 3 → wja_Mo_putKinds_110 mc ms Post K_3 a0 y_5 s_4 (d_j35 + d_6) (e_j35 + e_7) x1j35 x2j35 x3j35 x4j35 (sV s_4 a0 28)))) ∧ (x5j35 = 2 → wja_Mo_putKinds_110 mc ms Post K_3 a0 y_5 s_4 (d_j35 + d_6) (e_j35 + e_7) x1j35 x2j35 x3j35 x4j35 (sV s_4 a0 20)))) ∧ (x5j35 = 1 → wja_Mo_putKinds_110 mc ms Post K_3 a0 y_5 s_4 (d_j35 + d_6) (e_j35 + e_7) x1j35 x2j35 x3j35 x4j35 (sV s_4 a0 27)))) ∧ (¬ (x5j35 < 16) → wja_Mo_putKinds_110 mc ms Post K_3 a0 y_5 s_4 (d_j35 + d_6) (e_j35 + e_7) x1j35 x2j35 x3j35 x4j35 (x5j35 - 16)))) s_j35 a0 z1j35
def wba_Mo_putKinds_3 (mc ms : Nat) (Post : Ly → St → Nat → Nat → Prop) (K_3 : Ly → St → Nat → Nat → Int32 → Int32 → Int32 → Int32 → Prop) (a0 : Nat) (y_h3 : Ly) (s_h3 : St) (d_h3 e_h3 : Nat) (x1h3 : Int32) (x2h3 : Int32) (x3h3 : Int32) (x4h3 : Int32) : Prop := (d_h3 ≤ mc ∧ e_h3 ≤ ms) ∧ ((x3h3 ≤ x4h3 → Post y_h3 s_h3 d_h3 e_h3) ∧ (¬ (x3h3 ≤ x4h3) → wu_Mo_frameKind y_h3 (fun (s_2 : St) (r_1 : Int32) => ((x4h3 ≤ 0 → wja_Mo_putKinds_35 mc ms Post K_3 a0 y_h3 s_2 d_h3 e_h3 x1h3 x2h3 x3h3 x4h3 r_1 54) ∧ (¬ (x4h3 ≤ 0) → wja_Mo_putKinds_35 mc ms Post K_3 a0 y_h3 s_2 d_h3 e_h3 x1h3 x2h3 x3h3 x4h3 r_1 43))) s_h3 a0 x1h3 (x2h3 + x4h3)))
def wla_Mo_putKinds_3 (mc ms : Nat) (Post : Ly → St → Nat → Nat → Prop) (a0 : Nat) (y_h3 : Ly) (s_h3 : St) (d_h3 e_h3 : Nat) (x1h3 : Int32) (x2h3 : Int32) (x3h3 : Int32) (x4h3 : Int32) : Prop := ∃ (I : Ly → St → Nat → Nat → Int32 → Int32 → Int32 → Int32 → Prop) (μ : Ly → St → Nat → Nat → Int32 → Int32 → Int32 → Int32 → Nat), I y_h3 s_h3 d_h3 e_h3 x1h3 x2h3 x3h3 x4h3 ∧ ∀ (u1 : Ly) (u2 : St) (u3 u4 : Nat) (t0 : Int32) (t1 : Int32) (t2 : Int32) (t3 : Int32), I u1 u2 u3 u4 t0 t1 t2 t3 → wba_Mo_putKinds_3 mc ms Post (fun z1 z2 z3 z4 t0q t1q t2q t3q => I z1 z2 z3 z4 t0q t1q t2q t3q ∧ μ z1 z2 z3 z4 t0q t1q t2q t3q < μ u1 u2 u3 u4 t0 t1 t2 t3) a0 u1 u2 u3 u4 t0 t1 t2 t3
def wa_Mo_putKinds (mc ms : Nat) (y : Ly) (Post : Ly → St → Nat → Nat → Prop) (σ : St) (a0 : Nat) (v1 : Int32) (v2 : Int32) (v3 : Int32) : Prop := wla_Mo_putKinds_3 mc ms Post a0 y σ 0 0 v1 v2 v3 0
set_option maxHeartbeats 4000000 in
set_option maxRecDepth 100000 in
theorem ca_Mo_putKinds (l : Launch) (D : va_G) (g : Nat → ClassId) (F : Nat → SL) (sl : List SL) (hF : SOK F sl) (ad : Nat → Nat) (mc ms : Nat) (y : Ly) (Post : Ly → St → Nat → Nat → Prop) (σ : St) (a0 : Nat) (v1 : Int32) (v2 : Int32) (v3 : Int32) (sz uz : Nat) (h_a0 : cl a0 = 14) (h : wa_Mo_putKinds mc ms y Post σ a0 v1 v2 v3) : Met l y_Mo_putKinds (mw y_Mo_putKinds b_Mo_putKinds 6 (none)) (ra_Mo_putKinds mc ms) (PCu g D sl [.ref (ad a0), .int v1, .int v2, .int v3] sz uz (ws g ad y σ)) (va_Qv (fun (u : Ly × St × Nat × Nat) => Post u.1 u.2.1 u.2.2.1 u.2.2.2) (QU D (va_A (ws g ad y σ) sz) (fun u => ws g ad u.1 u.2.1) sz uz (fun u => u.2.2.1) (fun u => u.2.2.2)) (va_A (ws g ad y σ) sz)) mc ms (va_A (ws g ad y σ) sz) := by
  refine ofVu (by decide +kernel) (Nat.le_of_ble_eq_true rfl) ?_
  intro p e s m args below meth c A Q ls H locs G hsz hP hD hS hl hret
  subst hsz
  have hl : lv_has ls 6 [(0, .ref (ad a0)), (1, .int v1), (2, .int v2), (3, .int v3)] := hl
  have hd : 0 ≤ mc ∧ 0 ≤ ms := ⟨Nat.zero_le _, Nat.zero_le _⟩
  unfold wa_Mo_putKinds at h
  refine lv_iconst (v := 0) G.1 G.2.1 d_Mo_putKinds_0 (by decide) ?_
  refine lv_istore (lv' := [(4, .int 0), (0, .ref (ad a0)), (1, .int v1), (2, .int v2), (3, .int v3)]) G.1 G.2.1 d_Mo_putKinds_1 hl (by decide) rfl (fun ls hl => ?_)
  unfold wla_Mo_putKinds_3 at h
  obtain ⟨I_3, μ_3, hI_3, hB_3⟩ := h
  have L_3 : ∀ (n_3 : Nat) (y_h3 : Ly) (s_h3 : St) (d_h3 e_h3 : Nat) (x1h3 : Int32) (x2h3 : Int32) (x3h3 : Int32) (x4h3 : Int32), μ_3 y_h3 s_h3 d_h3 e_h3 x1h3 x2h3 x3h3 x4h3 < n_3 → I_3 y_h3 s_h3 d_h3 e_h3 x1h3 x2h3 x3h3 x4h3 → ∀ (H : Heap) (locs : List Loc), va_P D CL (ws g ad y_h3 s_h3) H → va_D A (ws g ad y_h3 s_h3) → va_S A s.heap H locs → ∀ ls, lv_has ls 6 [(0, .ref (ad a0)), (1, .int x1h3), (2, .int x2h3), (3, .int x3h3), (4, .int x4h3)] → W p l e (ra_Mo_putKinds mc ms) s m args below meth c H locs d_h3 e_h3 Q (F0 m 3 ls []) := by
    intro n_3
    induction n_3 with
    | zero => intro y_h3 s_h3 d_h3 e_h3 x1h3 x2h3 x3h3 x4h3 hμ; exact absurd hμ (Nat.not_lt_zero _)
    | succ n_3 ih_3 =>
      intro y_h3 s_h3 d_h3 e_h3 x1h3 x2h3 x3h3 x4h3 hμ_3 hJ H locs hP hD hS ls hl
      obtain ⟨K_3, hK_3, h⟩ : ∃ K : Ly → St → Nat → Nat → Int32 → Int32 → Int32 → Int32 → Prop, (∀ z1 z2 z3 z4 (t0 : Int32) (t1 : Int32) (t2 : Int32) (t3 : Int32), K z1 z2 z3 z4 t0 t1 t2 t3 → I_3 z1 z2 z3 z4 t0 t1 t2 t3 ∧ μ_3 z1 z2 z3 z4 t0 t1 t2 t3 < μ_3 y_h3 s_h3 d_h3 e_h3 x1h3 x2h3 x3h3 x4h3) ∧ wba_Mo_putKinds_3 mc ms Post K a0 y_h3 s_h3 d_h3 e_h3 x1h3 x2h3 x3h3 x4h3 := ⟨_, fun _ _ _ _ _ _ _ _ h => h, hB_3 y_h3 s_h3 d_h3 e_h3 x1h3 x2h3 x3h3 x4h3 hJ⟩
      unfold wba_Mo_putKinds_3 at h
      obtain ⟨hd, h⟩ := h
      refine lv_iload G.1 G.2.1 d_Mo_putKinds_3 (lv_at hl 4 rfl) ?_
      refine lv_iload_n G.1 G.2.1 d_Mo_putKinds_5 rfl (lv_at hl 3 rfl) ?_
      refine lv_icmp_ge (tgt := 119) G.1 G.2.1 d_Mo_putKinds_6 (by decide) (fun c6 => ?_) (fun c6 => ?_)
      · skip
        have h := h.1 c6
        exact hret (y_h3, s_h3, d_h3, e_h3) _ _ _ _ _ ls h hP hD hS (Nat.le_refl _) (Nat.le_refl _) hd.1 hd.2 d_Mo_putKinds_119
      · skip
        have h := h.2 c6
        refine lv_aload_n G.1 G.2.1 d_Mo_putKinds_9 rfl (lv_at hl 0 rfl) ?_
        refine lv_iload_n G.1 G.2.1 d_Mo_putKinds_10 rfl (lv_at hl 1 rfl) ?_
        refine lv_iload_n G.1 G.2.1 d_Mo_putKinds_11 rfl (lv_at hl 2 rfl) ?_
        refine lv_iload G.1 G.2.1 d_Mo_putKinds_12 (lv_at hl 4 rfl) ?_
        refine lv_iadd G.1 G.2.1 d_Mo_putKinds_14 ?_
        refine ucVi (As := [.int x1h3, .int (x2h3 + x4h3)]) (rest := []) G hP hD hS (cu_Mo_frameKind l D g ad y_h3 _ s_h3 a0 x1h3 (x2h3 + x4h3) H.size h_a0 h) w9_Mo_frameKind q3717 ⟨Nat.le_of_ble_eq_true rfl, Nat.le_of_ble_eq_true rfl⟩ rfl rfl h_a0 (q := (RMo, TMo, 131)) rfl rfl hl.1 rfl (Nat.le_of_ble_eq_true rfl) rfl hd d_Mo_putKinds_15 (fun r_1 s_2 H locs h hP hD hS => ?_)
        refine lv_istore (lv' := [(5, .int r_1), (0, .ref (ad a0)), (1, .int x1h3), (2, .int x2h3), (3, .int x3h3), (4, .int x4h3)]) G.1 G.2.1 d_Mo_putKinds_18 hl (by decide) rfl (fun ls hl => ?_)
        refine lv_aload_n G.1 G.2.1 d_Mo_putKinds_20 rfl (lv_at hl 1 rfl) ?_
        refine W.eq (g2 := F0 m 21 ls [.ref (ad a0)]) rfl ?_
        refine lv_iload G.1 G.2.1 d_Mo_putKinds_21 (lv_at hl 5 rfl) ?_
        have J_35 : ∀ (y_j35 : Ly) (s_j35 : St) (d_j35 e_j35 : Nat) (x1j35 : Int32) (x2j35 : Int32) (x3j35 : Int32) (x4j35 : Int32) (x5j35 : Int32) (z1j35 : Nat) (H : Heap) (locs : List Loc), wja_Mo_putKinds_35 mc ms Post K_3 a0 y_j35 s_j35 d_j35 e_j35 x1j35 x2j35 x3j35 x4j35 x5j35 z1j35 → va_P D CL (ws g ad y_j35 s_j35) H → va_D A (ws g ad y_j35 s_j35) → va_S A s.heap H locs → ∀ ls, lv_has ls 6 [(0, .ref (ad a0)), (1, .int x1j35), (2, .int x2j35), (3, .int x3j35), (4, .int x4j35), (5, .int x5j35)] → W p l e (ra_Mo_putKinds mc ms) s m args below meth c H locs d_j35 e_j35 Q (F0 m 35 ls [.ref (sk (F z1j35)), .ref (ad a0)]) := by
          intro y_j35 s_j35 d_j35 e_j35 x1j35 x2j35 x3j35 x4j35 x5j35 z1j35 H locs h hP hD hS ls hl
          unfold wja_Mo_putKinds_35 at h
          obtain ⟨hd, h⟩ := h
          obtain ⟨c_z1j35, h⟩ := h
          obtain ⟨mc_8, ms_9, hr_10, h⟩ := h
          refine utVv (As := [.ref (sk (F z1j35))]) (rest := []) G hP hD hS (ca_Mo_putWord l D g F sl hF ad mc_8 ms_9 y_j35 _ s_j35 a0 z1j35 H.size (us H) h_a0 c_z1j35 h) w9_Mo_putWord q4051 ⟨Nat.le_of_ble_eq_true rfl, Nat.le_of_ble_eq_true rfl⟩ rfl rfl h_a0 (q := (RMo, TMo, 131)) rfl rfl hl.1 rfl (Nat.le_of_ble_eq_true rfl) rfl hr_10 d_Mo_putKinds_35 (fun y_5 s_4 d_6 e_7 H locs h hP hD hS => ?_)
          obtain ⟨hd, h⟩ := h
          refine lv_aload_n G.1 G.2.1 d_Mo_putKinds_38 rfl (lv_at hl 0 rfl) ?_
          refine lv_iload G.1 G.2.1 d_Mo_putKinds_39 (lv_at hl 5 rfl) ?_
          refine lv_bipush (v := 16) G.1 G.2.1 d_Mo_putKinds_41 (by decide) ?_
          have J_110 : ∀ (y_j110 : Ly) (s_j110 : St) (d_j110 e_j110 : Nat) (x1j110 : Int32) (x2j110 : Int32) (x3j110 : Int32) (x4j110 : Int32) (z1j110 : Int32) (H : Heap) (locs : List Loc), wja_Mo_putKinds_110 mc ms Post K_3 a0 y_j110 s_j110 d_j110 e_j110 x1j110 x2j110 x3j110 x4j110 z1j110 → va_P D CL (ws g ad y_j110 s_j110) H → va_D A (ws g ad y_j110 s_j110) → va_S A s.heap H locs → ∀ ls, lv_has ls 6 [(0, .ref (ad a0)), (1, .int x1j110), (2, .int x2j110), (3, .int x3j110), (4, .int x4j110)] → W p l e (ra_Mo_putKinds mc ms) s m args below meth c H locs d_j110 e_j110 Q (F0 m 110 ls [.int z1j110, .ref (ad a0)]) := by
            intro y_j110 s_j110 d_j110 e_j110 x1j110 x2j110 x3j110 x4j110 z1j110 H locs h hP hD hS ls hl
            unfold wja_Mo_putKinds_110 at h
            obtain ⟨hd, h⟩ := h
            obtain ⟨mc_16, ms_17, hr_18, h⟩ := h
            refine uaVv (As := [.int z1j110]) (rest := []) G hP hD hS (ca_Mo_putName l D g ad mc_16 ms_17 y_j110 _ s_j110 a0 z1j110 H.size (us H) h_a0 h) w9_Mo_putName q4062 ⟨Nat.le_of_ble_eq_true rfl, Nat.le_of_ble_eq_true rfl⟩ rfl rfl h_a0 (q := (RMo, TMo, 131)) rfl rfl hl.1 rfl (Nat.le_of_ble_eq_true rfl) rfl hr_18 d_Mo_putKinds_110 (fun y_13 s_12 d_14 e_15 H locs h hP hD hS => ?_)
            obtain ⟨hd, h⟩ := h
            refine lv_iinc (v := x4j110 + 1) (lv' := [(4, .int (x4j110 + 1)), (0, .ref (ad a0)), (1, .int x1j110), (2, .int x2j110), (3, .int x3j110)]) G.1 G.2.1 d_Mo_putKinds_113 hl (k := 4) rfl rfl (by decide) rfl (fun ls hl => ?_)
            refine lv_goto (tgt := 3) G.1 G.2.1 d_Mo_putKinds_116 (by decide) ?_
            have h := hK_3 y_13 s_12 (d_j110 + d_14) (e_j110 + e_15) x1j110 x2j110 x3j110 (x4j110 + 1) h
            exact ih_3 y_13 s_12 (d_j110 + d_14) (e_j110 + e_15) x1j110 x2j110 x3j110 (x4j110 + 1) (Nat.lt_of_lt_of_le h.2 (Nat.le_of_lt_succ hμ_3)) h.1 H locs hP hD hS ls (lv_sub hl [1, 2, 3, 4, 0] rfl)
          refine lv_icmp_lt (tgt := 54) G.1 G.2.1 d_Mo_putKinds_43 (by decide) (fun c43 => ?_) (fun c43 => ?_)
          · skip
            have h := h.1 c43
            refine lv_iload G.1 G.2.1 d_Mo_putKinds_54 (lv_at hl 5 rfl) ?_
            refine lv_iconst (v := 1) G.1 G.2.1 d_Mo_putKinds_56 (by decide) ?_
            refine lv_icmp_ne (tgt := 67) G.1 G.2.1 d_Mo_putKinds_57 (by decide) (fun c57 => ?_) (fun c57 => ?_)
            · skip
              have h := h.1 c57
              refine lv_iload G.1 G.2.1 d_Mo_putKinds_67 (lv_at hl 5 rfl) ?_
              refine lv_iconst (v := 2) G.1 G.2.1 d_Mo_putKinds_69 (by decide) ?_
              refine lv_icmp_ne (tgt := 80) G.1 G.2.1 d_Mo_putKinds_70 (by decide) (fun c70 => ?_) (fun c70 => ?_)
              · skip
                have h := h.1 c70
                refine W.eq (g2 := F0 m 80 ls [.ref (ad a0)]) rfl ?_
                refine lv_iload G.1 G.2.1 d_Mo_putKinds_80 (lv_at hl 5 rfl) ?_
                refine lv_iconst (v := 3) G.1 G.2.1 d_Mo_putKinds_82 (by decide) ?_
                refine lv_icmp_ne (tgt := 93) G.1 G.2.1 d_Mo_putKinds_83 (by decide) (fun c83 => ?_) (fun c83 => ?_)
                · skip
                  have h := h.1 c83
                  refine lv_iload G.1 G.2.1 d_Mo_putKinds_93 (lv_at hl 5 rfl) ?_
                  refine lv_iconst (v := 4) G.1 G.2.1 d_Mo_putKinds_95 (by decide) ?_
                  refine lv_icmp_ne (tgt := 106) G.1 G.2.1 d_Mo_putKinds_96 (by decide) (fun c96 => ?_) (fun c96 => ?_)
                  · skip
                    have h := h.1 c96
                    refine lv_aload_n G.1 G.2.1 d_Mo_putKinds_106 rfl (lv_at hl 0 rfl) ?_
                    refine ugf (v := .int (sV s_4 a0 23)) G hP h_a0 iMo rfl 23 (by decide) rfl q3087 rfl rfl d_Mo_putKinds_107 ?_
                    exact J_110 y_5 s_4 (d_j35 + d_6) (e_j35 + e_7) x1j35 x2j35 x3j35 x4j35 (sV s_4 a0 23) H locs h hP hD hS ls (lv_sub hl [0, 1, 2, 3, 4] rfl)
                  · skip
                    have h := h.2 c96
                    refine lv_aload_n G.1 G.2.1 d_Mo_putKinds_99 rfl (lv_at hl 0 rfl) ?_
                    refine ugf (v := .int (sV s_4 a0 22)) G hP h_a0 iMo rfl 22 (by decide) rfl q3086 rfl rfl d_Mo_putKinds_100 ?_
                    refine lv_goto (tgt := 110) G.1 G.2.1 d_Mo_putKinds_103 (by decide) ?_
                    exact J_110 y_5 s_4 (d_j35 + d_6) (e_j35 + e_7) x1j35 x2j35 x3j35 x4j35 (sV s_4 a0 22) H locs h hP hD hS ls (lv_sub hl [0, 1, 2, 3, 4] rfl)
                · skip
                  have h := h.2 c83
                  refine lv_aload_n G.1 G.2.1 d_Mo_putKinds_86 rfl (lv_at hl 0 rfl) ?_
                  refine ugf (v := .int (sV s_4 a0 28)) G hP h_a0 iMo rfl 28 (by decide) rfl q3092 rfl rfl d_Mo_putKinds_87 ?_
                  refine lv_goto (tgt := 110) G.1 G.2.1 d_Mo_putKinds_90 (by decide) ?_
                  exact J_110 y_5 s_4 (d_j35 + d_6) (e_j35 + e_7) x1j35 x2j35 x3j35 x4j35 (sV s_4 a0 28) H locs h hP hD hS ls (lv_sub hl [0, 1, 2, 3, 4] rfl)
              · skip
                have h := h.2 c70
                refine W.eq (g2 := F0 m 73 ls [.ref (ad a0)]) rfl ?_
                refine lv_aload_n G.1 G.2.1 d_Mo_putKinds_73 rfl (lv_at hl 0 rfl) ?_
                refine ugf (v := .int (sV s_4 a0 20)) G hP h_a0 iMo rfl 20 (by decide) rfl q3084 rfl rfl d_Mo_putKinds_74 ?_
                refine lv_goto (tgt := 110) G.1 G.2.1 d_Mo_putKinds_77 (by decide) ?_
                exact J_110 y_5 s_4 (d_j35 + d_6) (e_j35 + e_7) x1j35 x2j35 x3j35 x4j35 (sV s_4 a0 20) H locs h hP hD hS ls (lv_sub hl [0, 1, 2, 3, 4] rfl)
            · skip
              have h := h.2 c57
              refine lv_aload_n G.1 G.2.1 d_Mo_putKinds_60 rfl (lv_at hl 0 rfl) ?_
              refine ugf (v := .int (sV s_4 a0 27)) G hP h_a0 iMo rfl 27 (by decide) rfl q3091 rfl rfl d_Mo_putKinds_61 ?_
              refine lv_goto (tgt := 110) G.1 G.2.1 d_Mo_putKinds_64 (by decide) ?_
              exact J_110 y_5 s_4 (d_j35 + d_6) (e_j35 + e_7) x1j35 x2j35 x3j35 x4j35 (sV s_4 a0 27) H locs h hP hD hS ls (lv_sub hl [0, 1, 2, 3, 4] rfl)
          · skip
            have h := h.2 c43
            refine lv_iload G.1 G.2.1 d_Mo_putKinds_46 (lv_at hl 5 rfl) ?_
            refine lv_bipush (v := 16) G.1 G.2.1 d_Mo_putKinds_48 (by decide) ?_
            refine lv_isub G.1 G.2.1 d_Mo_putKinds_50 ?_
            refine lv_goto (tgt := 110) G.1 G.2.1 d_Mo_putKinds_51 (by decide) ?_
            exact J_110 y_5 s_4 (d_j35 + d_6) (e_j35 + e_7) x1j35 x2j35 x3j35 x4j35 (x5j35 - 16) H locs h hP hD hS ls (lv_sub hl [0, 1, 2, 3, 4] rfl)
        refine lv_if_le (tgt := 32) G.1 G.2.1 d_Mo_putKinds_23 (by decide) (fun c23 => ?_) (fun c23 => ?_)
        · skip
          have h := h.1 c23
          refine uldcw (n := 54) hF rfl G d_Mo_putKinds_32 ?_
          exact J_35 y_h3 s_2 d_h3 e_h3 x1h3 x2h3 x3h3 x4h3 r_1 54 H locs h hP hD hS ls (lv_sub hl [1, 2, 3, 4, 5, 0] rfl)
        · skip
          have h := h.2 c23
          refine uldcw (n := 43) hF rfl G d_Mo_putKinds_26 ?_
          refine lv_goto (tgt := 35) G.1 G.2.1 d_Mo_putKinds_29 (by decide) ?_
          exact J_35 y_h3 s_2 d_h3 e_h3 x1h3 x2h3 x3h3 x4h3 r_1 43 H locs h hP hD hS ls (lv_sub hl [1, 2, 3, 4, 5, 0] rfl)
  exact L_3 _ y σ 0 0 v1 v2 v3 0 (Nat.lt_succ_self _) hI_3 H locs hP hD hS ls (lv_sub hl [1, 2, 3, 4, 0] rfl)
theorem q4081 : Cond.methodLink "ClassWorksModel" 1220 y_Mo_putNumber ∈ lw_ok := lw_okmem (List.mem_of_getElem? (i := 4081) (by decide +kernel)) rfl
theorem q4084 : Cond.code y_Mo_putNumber b_Mo_putNumber 6 (none) ∈ lw_ok := lw_okmem (List.mem_of_getElem? (i := 4084) (by decide +kernel)) rfl
theorem q4083 : Cond.instanceMethod y_Mo_putNumber ∈ lw_ok := lw_okmem (List.mem_of_getElem? (i := 4083) (by decide +kernel)) rfl
theorem q300 : Cond.selects y_Mo_putNumber.cls y_Mo_putNumber y_Mo_putNumber ∈ lw_ok := lw_okmem (List.mem_of_getElem? (i := 300) (by decide +kernel)) rfl
theorem w9_Mo_putNumber : CWv y_Mo_putNumber b_Mo_putNumber 6 (none) 1 ∧ Cond.instanceMethod y_Mo_putNumber ∈ lw_ok ∧ Cond.selects y_Mo_putNumber.cls y_Mo_putNumber y_Mo_putNumber ∈ lw_ok := ⟨⟨q4084, q348, by decide +kernel, by decide +kernel, by decide +kernel⟩, q4083, q300⟩
def y_Mo_putLabel : MethodName := ⟨"ClassWorksModel", "putLabel", "(I)V"⟩
abbrev b_Mo_putLabel : ByteArray := prog_14_method_164_code
theorem q3160 : Cond.fieldLink "ClassWorksModel" 326 "ClassWorksModel" "isTold" "[Z" ∈ lw_ok := lw_okmem (List.mem_of_getElem? (i := 3160) (by decide +kernel)) rfl
theorem d_Mo_putLabel_0 : decode b_Mo_putLabel 0 = .ok (.iconst 0, 1) := by decide +kernel
theorem d_Mo_putLabel_1 : decode b_Mo_putLabel 1 = .ok (.istore_n 2, 1) := by decide +kernel
theorem d_Mo_putLabel_2 : decode b_Mo_putLabel 2 = .ok (.iconst 0, 1) := by decide +kernel
theorem d_Mo_putLabel_3 : decode b_Mo_putLabel 3 = .ok (.istore_n 3, 1) := by decide +kernel
theorem d_Mo_putLabel_4 : decode b_Mo_putLabel 4 = .ok (.iload_n 3, 1) := by decide +kernel
theorem d_Mo_putLabel_5 : decode b_Mo_putLabel 5 = .ok (.iload_n 1, 1) := by decide +kernel
theorem d_Mo_putLabel_6 : decode b_Mo_putLabel 6 = .ok (.if_icmp .ge 26, 3) := by decide +kernel
theorem d_Mo_putLabel_9 : decode b_Mo_putLabel 9 = .ok (.iload_n 2, 1) := by decide +kernel
theorem d_Mo_putLabel_10 : decode b_Mo_putLabel 10 = .ok (.aload_n 0, 1) := by decide +kernel
theorem d_Mo_putLabel_11 : decode b_Mo_putLabel 11 = .ok (.getfield 326, 3) := by decide +kernel
theorem d_Mo_putLabel_14 : decode b_Mo_putLabel 14 = .ok (.iload_n 3, 1) := by decide +kernel
theorem d_Mo_putLabel_15 : decode b_Mo_putLabel 15 = .ok (.baload, 1) := by decide +kernel
theorem d_Mo_putLabel_16 : decode b_Mo_putLabel 16 = .ok (.ifCond .eq 7, 3) := by decide +kernel
theorem d_Mo_putLabel_19 : decode b_Mo_putLabel 19 = .ok (.iconst 1, 1) := by decide +kernel
theorem d_Mo_putLabel_20 : decode b_Mo_putLabel 20 = .ok (.goto 4, 3) := by decide +kernel
theorem d_Mo_putLabel_23 : decode b_Mo_putLabel 23 = .ok (.iconst 0, 1) := by decide +kernel
theorem d_Mo_putLabel_24 : decode b_Mo_putLabel 24 = .ok (.iadd, 1) := by decide +kernel
theorem d_Mo_putLabel_25 : decode b_Mo_putLabel 25 = .ok (.istore_n 2, 1) := by decide +kernel
theorem d_Mo_putLabel_26 : decode b_Mo_putLabel 26 = .ok (.iinc 3 1, 3) := by decide +kernel
theorem d_Mo_putLabel_29 : decode b_Mo_putLabel 29 = .ok (.goto (-25), 3) := by decide +kernel
theorem d_Mo_putLabel_32 : decode b_Mo_putLabel 32 = .ok (.aload_n 0, 1) := by decide +kernel
theorem d_Mo_putLabel_33 : decode b_Mo_putLabel 33 = .ok (.bipush 76, 2) := by decide +kernel
theorem d_Mo_putLabel_35 : decode b_Mo_putLabel 35 = .ok (.invokevirtual 1179, 3) := by decide +kernel
theorem d_Mo_putLabel_38 : decode b_Mo_putLabel 38 = .ok (.aload_n 0, 1) := by decide +kernel
theorem d_Mo_putLabel_39 : decode b_Mo_putLabel 39 = .ok (.iload_n 2, 1) := by decide +kernel
theorem d_Mo_putLabel_40 : decode b_Mo_putLabel 40 = .ok (.invokevirtual 1220, 3) := by decide +kernel
theorem d_Mo_putLabel_43 : decode b_Mo_putLabel 43 = .ok (.return_, 1) := by decide +kernel
abbrev ra_Mo_putLabel (mc ms : Nat) : Room := { frames := 4, cells := mc, slots := ms, locals := 196 }
def wja_Mo_putLabel_24 (mc ms : Nat) (Post : Ly → St → Nat → Nat → Prop) (K_4 : Ly → St → Nat → Nat → Int32 → Int32 → Int32 → Prop) (a0 : Nat) (y_j24 : Ly) (s_j24 : St) (d_j24 e_j24 : Nat) (x1j24 : Int32) (x3j24 : Int32) (z0j24 : Int32) (z1j24 : Int32) : Prop := (d_j24 ≤ mc ∧ e_j24 ≤ ms) ∧ K_4 y_j24 s_j24 d_j24 e_j24 x1j24 (z0j24 + z1j24) (x3j24 + 1)
def wba_Mo_putLabel_4 (mc ms : Nat) (Post : Ly → St → Nat → Nat → Prop) (K_4 : Ly → St → Nat → Nat → Int32 → Int32 → Int32 → Prop) (a0 : Nat) (y_h4 : Ly) (s_h4 : St) (d_h4 e_h4 : Nat) (x1h4 : Int32) (x2h4 : Int32) (x3h4 : Int32) : Prop := (d_h4 ≤ mc ∧ e_h4 ≤ ms) ∧ ((x1h4 ≤ x3h4 → ∃ mc_6 ms_7 : Nat, (d_h4 + mc_6 ≤ mc ∧ e_h4 + ms_7 ≤ ms) ∧ wa_Mo_put mc_6 ms_7 y_h4 (fun (y_3 : Ly) (s_2 : St) (d_4 e_5 : Nat) => (d_h4 + d_4 ≤ mc ∧ e_h4 + e_5 ≤ ms) ∧ ∃ mc_14 ms_15 : Nat, (d_h4 + d_4 + mc_14 ≤ mc ∧ e_h4 + e_5 + ms_15 ≤ ms) ∧ wa_Mo_putNumber mc_14 ms_15 y_3 (fun (y_11 : Ly) (s_10 : St) (d_12 e_13 : Nat) => (d_h4 + d_4 + d_12 ≤ mc ∧ e_h4 + e_5 + e_13 ≤ ms) ∧ Post y_11 s_10 (d_h4 + d_4 + d_12) (e_h4 + e_5 + e_13)) s_2 a0 x2h4) s_h4 a0 76) ∧ (¬ (x1h4 ≤ x3h4) → xA y_h4 s_h4 a0 96 x3h4 (fun x_17 : Int32 => ((x_17 = 0 → wja_Mo_putLabel_24 mc ms Post K_4 a0 y_h4 s_h4 d_h4 e_h4 x1h4 x3h4 x2h4 0) ∧ (¬ (x_17 = 0) → wja_Mo_putLabel_24 mc ms Post K_4 a0 y_h4 s_h4 d_h4 e_h4 x1h4 x3h4 x2h4 1)))))
def wla_Mo_putLabel_4 (mc ms : Nat) (Post : Ly → St → Nat → Nat → Prop) (a0 : Nat) (y_h4 : Ly) (s_h4 : St) (d_h4 e_h4 : Nat) (x1h4 : Int32) (x2h4 : Int32) (x3h4 : Int32) : Prop := ∃ (I : Ly → St → Nat → Nat → Int32 → Int32 → Int32 → Prop) (μ : Ly → St → Nat → Nat → Int32 → Int32 → Int32 → Nat), I y_h4 s_h4 d_h4 e_h4 x1h4 x2h4 x3h4 ∧ ∀ (u1 : Ly) (u2 : St) (u3 u4 : Nat) (t0 : Int32) (t1 : Int32) (t2 : Int32), I u1 u2 u3 u4 t0 t1 t2 → wba_Mo_putLabel_4 mc ms Post (fun z1 z2 z3 z4 t0q t1q t2q => I z1 z2 z3 z4 t0q t1q t2q ∧ μ z1 z2 z3 z4 t0q t1q t2q < μ u1 u2 u3 u4 t0 t1 t2) a0 u1 u2 u3 u4 t0 t1 t2
def wa_Mo_putLabel (mc ms : Nat) (y : Ly) (Post : Ly → St → Nat → Nat → Prop) (σ : St) (a0 : Nat) (v1 : Int32) : Prop := wla_Mo_putLabel_4 mc ms Post a0 y σ 0 0 v1 0 0
set_option maxHeartbeats 4000000 in
set_option maxRecDepth 100000 in
theorem ca_Mo_putLabel (l : Launch) (D : va_G) (g : Nat → ClassId) (ad : Nat → Nat) (mc ms : Nat) (y : Ly) (Post : Ly → St → Nat → Nat → Prop) (σ : St) (a0 : Nat) (v1 : Int32) (sz uz : Nat) (h_a0 : cl a0 = 14) (h : wa_Mo_putLabel mc ms y Post σ a0 v1) : Met l y_Mo_putLabel (mw y_Mo_putLabel b_Mo_putLabel 4 (none)) (ra_Mo_putLabel mc ms) (PCu g D [] [.ref (ad a0), .int v1] sz uz (ws g ad y σ)) (va_Qv (fun (u : Ly × St × Nat × Nat) => Post u.1 u.2.1 u.2.2.1 u.2.2.2) (QU D (va_A (ws g ad y σ) sz) (fun u => ws g ad u.1 u.2.1) sz uz (fun u => u.2.2.1) (fun u => u.2.2.2)) (va_A (ws g ad y σ) sz)) mc ms (va_A (ws g ad y σ) sz) := by
  refine ofVu (by decide +kernel) (Nat.le_of_ble_eq_true rfl) ?_
  intro p e s m args below meth c A Q ls H locs G hsz hP hD hS hl hret
  subst hsz
  have hl : lv_has ls 4 [(0, .ref (ad a0)), (1, .int v1)] := hl
  have hd : 0 ≤ mc ∧ 0 ≤ ms := ⟨Nat.zero_le _, Nat.zero_le _⟩
  unfold wa_Mo_putLabel at h
  refine lv_iconst (v := 0) G.1 G.2.1 d_Mo_putLabel_0 (by decide) ?_
  refine lv_istore_n (lv' := [(2, .int 0), (0, .ref (ad a0)), (1, .int v1)]) G.1 G.2.1 d_Mo_putLabel_1 rfl hl (by decide) rfl (fun ls hl => ?_)
  refine lv_iconst (v := 0) G.1 G.2.1 d_Mo_putLabel_2 (by decide) ?_
  refine lv_istore_n (lv' := [(3, .int 0), (2, .int 0), (0, .ref (ad a0)), (1, .int v1)]) G.1 G.2.1 d_Mo_putLabel_3 rfl hl (by decide) rfl (fun ls hl => ?_)
  unfold wla_Mo_putLabel_4 at h
  obtain ⟨I_4, μ_4, hI_4, hB_4⟩ := h
  have L_4 : ∀ (n_4 : Nat) (y_h4 : Ly) (s_h4 : St) (d_h4 e_h4 : Nat) (x1h4 : Int32) (x2h4 : Int32) (x3h4 : Int32), μ_4 y_h4 s_h4 d_h4 e_h4 x1h4 x2h4 x3h4 < n_4 → I_4 y_h4 s_h4 d_h4 e_h4 x1h4 x2h4 x3h4 → ∀ (H : Heap) (locs : List Loc), va_P D CL (ws g ad y_h4 s_h4) H → va_D A (ws g ad y_h4 s_h4) → va_S A s.heap H locs → ∀ ls, lv_has ls 4 [(0, .ref (ad a0)), (1, .int x1h4), (2, .int x2h4), (3, .int x3h4)] → W p l e (ra_Mo_putLabel mc ms) s m args below meth c H locs d_h4 e_h4 Q (F0 m 4 ls []) := by
    intro n_4
    induction n_4 with
    | zero => intro y_h4 s_h4 d_h4 e_h4 x1h4 x2h4 x3h4 hμ; exact absurd hμ (Nat.not_lt_zero _)
    | succ n_4 ih_4 =>
      intro y_h4 s_h4 d_h4 e_h4 x1h4 x2h4 x3h4 hμ_4 hJ H locs hP hD hS ls hl
      obtain ⟨K_4, hK_4, h⟩ : ∃ K : Ly → St → Nat → Nat → Int32 → Int32 → Int32 → Prop, (∀ z1 z2 z3 z4 (t0 : Int32) (t1 : Int32) (t2 : Int32), K z1 z2 z3 z4 t0 t1 t2 → I_4 z1 z2 z3 z4 t0 t1 t2 ∧ μ_4 z1 z2 z3 z4 t0 t1 t2 < μ_4 y_h4 s_h4 d_h4 e_h4 x1h4 x2h4 x3h4) ∧ wba_Mo_putLabel_4 mc ms Post K a0 y_h4 s_h4 d_h4 e_h4 x1h4 x2h4 x3h4 := ⟨_, fun _ _ _ _ _ _ _ h => h, hB_4 y_h4 s_h4 d_h4 e_h4 x1h4 x2h4 x3h4 hJ⟩
      unfold wba_Mo_putLabel_4 at h
      obtain ⟨hd, h⟩ := h
      refine lv_iload_n G.1 G.2.1 d_Mo_putLabel_4 rfl (lv_at hl 3 rfl) ?_
      refine lv_iload_n G.1 G.2.1 d_Mo_putLabel_5 rfl (lv_at hl 1 rfl) ?_
      refine lv_icmp_ge (tgt := 32) G.1 G.2.1 d_Mo_putLabel_6 (by decide) (fun c6 => ?_) (fun c6 => ?_)
      · skip
        have h := h.1 c6
        refine lv_aload_n G.1 G.2.1 d_Mo_putLabel_32 rfl (lv_at hl 0 rfl) ?_
        refine lv_bipush (v := 76) G.1 G.2.1 d_Mo_putLabel_33 (by decide) ?_
        obtain ⟨mc_6, ms_7, hr_8, h⟩ := h
        refine uaVv (As := [.int 76]) (rest := []) G hP hD hS (ca_Mo_put l D g ad mc_6 ms_7 y_h4 _ s_h4 a0 76 H.size (us H) h_a0 h) w9_Mo_put q4055 ⟨Nat.le_of_ble_eq_true rfl, Nat.le_of_ble_eq_true rfl⟩ rfl rfl h_a0 (q := (RMo, TMo, 131)) rfl rfl hl.1 rfl (Nat.le_of_ble_eq_true rfl) rfl hr_8 d_Mo_putLabel_35 (fun y_3 s_2 d_4 e_5 H locs h hP hD hS => ?_)
        have hl := lv_sub (l' := [(0, .ref (ad a0)), (2, .int x2h4)]) hl [0, 2] rfl
        obtain ⟨hd, h⟩ := h
        refine lv_aload_n G.1 G.2.1 d_Mo_putLabel_38 rfl (lv_at hl 0 rfl) ?_
        refine lv_iload_n G.1 G.2.1 d_Mo_putLabel_39 rfl (lv_at hl 1 rfl) ?_
        obtain ⟨mc_14, ms_15, hr_16, h⟩ := h
        refine uaVv (As := [.int x2h4]) (rest := []) G hP hD hS (ca_Mo_putNumber l D g ad mc_14 ms_15 y_3 _ s_2 a0 x2h4 H.size (us H) h_a0 h) w9_Mo_putNumber q4081 ⟨Nat.le_of_ble_eq_true rfl, Nat.le_of_ble_eq_true rfl⟩ rfl rfl h_a0 (q := (RMo, TMo, 131)) rfl rfl hl.1 rfl (Nat.le_of_ble_eq_true rfl) rfl hr_16 d_Mo_putLabel_40 (fun y_11 s_10 d_12 e_13 H locs h hP hD hS => ?_)
        have hl := lv_sub (l' := []) hl [] rfl
        obtain ⟨hd, h⟩ := h
        exact hret (y_11, s_10, d_h4 + d_4 + d_12, e_h4 + e_5 + e_13) _ _ _ _ _ ls h hP hD hS (Nat.le_refl _) (Nat.le_refl _) hd.1 hd.2 d_Mo_putLabel_43
      · skip
        have h := h.2 c6
        refine lv_iload_n G.1 G.2.1 d_Mo_putLabel_9 rfl (lv_at hl 2 rfl) ?_
        refine lv_aload_n G.1 G.2.1 d_Mo_putLabel_10 rfl (lv_at hl 0 rfl) ?_
        refine ugf (v := .ref (yP y_h4 a0 96)) G hP h_a0 iMo rfl 96 (by decide) rfl q3160 rfl rfl d_Mo_putLabel_11 ?_
        refine lv_iload_n G.1 G.2.1 d_Mo_putLabel_14 rfl (lv_at hl 3 rfl) ?_
        refine uzald G hP (kdp h_a0 rfl) (typ h_a0 rfl) h d_Mo_putLabel_15 (fun x_17 h => ?_)
        have J_24 : ∀ (y_j24 : Ly) (s_j24 : St) (d_j24 e_j24 : Nat) (x1j24 : Int32) (x3j24 : Int32) (z0j24 : Int32) (z1j24 : Int32) (H : Heap) (locs : List Loc), wja_Mo_putLabel_24 mc ms Post K_4 a0 y_j24 s_j24 d_j24 e_j24 x1j24 x3j24 z0j24 z1j24 → va_P D CL (ws g ad y_j24 s_j24) H → va_D A (ws g ad y_j24 s_j24) → va_S A s.heap H locs → ∀ ls, lv_has ls 4 [(0, .ref (ad a0)), (1, .int x1j24), (3, .int x3j24)] → W p l e (ra_Mo_putLabel mc ms) s m args below meth c H locs d_j24 e_j24 Q (F0 m 24 ls [.int z1j24, .int z0j24]) := by
          intro y_j24 s_j24 d_j24 e_j24 x1j24 x3j24 z0j24 z1j24 H locs h hP hD hS ls hl
          unfold wja_Mo_putLabel_24 at h
          obtain ⟨hd, h⟩ := h
          refine lv_iadd G.1 G.2.1 d_Mo_putLabel_24 ?_
          refine lv_istore_n (lv' := [(2, .int (z0j24 + z1j24)), (0, .ref (ad a0)), (1, .int x1j24), (3, .int x3j24)]) G.1 G.2.1 d_Mo_putLabel_25 rfl hl (by decide) rfl (fun ls hl => ?_)
          refine lv_iinc (v := x3j24 + 1) (lv' := [(3, .int (x3j24 + 1)), (2, .int (z0j24 + z1j24)), (0, .ref (ad a0)), (1, .int x1j24)]) G.1 G.2.1 d_Mo_putLabel_26 hl (k := 3) rfl rfl (by decide) rfl (fun ls hl => ?_)
          refine lv_goto (tgt := 4) G.1 G.2.1 d_Mo_putLabel_29 (by decide) ?_
          have h := hK_4 y_j24 s_j24 d_j24 e_j24 x1j24 (z0j24 + z1j24) (x3j24 + 1) h
          exact ih_4 y_j24 s_j24 d_j24 e_j24 x1j24 (z0j24 + z1j24) (x3j24 + 1) (Nat.lt_of_lt_of_le h.2 (Nat.le_of_lt_succ hμ_4)) h.1 H locs hP hD hS ls (lv_sub hl [2, 3, 1, 0] rfl)
        refine lv_if_eq (tgt := 23) G.1 G.2.1 d_Mo_putLabel_16 (by decide) (fun c16 => ?_) (fun c16 => ?_)
        · skip
          have h := h.1 c16
          refine lv_iconst (v := 0) G.1 G.2.1 d_Mo_putLabel_23 (by decide) ?_
          exact J_24 y_h4 s_h4 d_h4 e_h4 x1h4 x3h4 x2h4 0 H locs h hP hD hS ls (lv_sub hl [0, 1, 3] rfl)
        · skip
          have h := h.2 c16
          refine lv_iconst (v := 1) G.1 G.2.1 d_Mo_putLabel_19 (by decide) ?_
          refine lv_goto (tgt := 24) G.1 G.2.1 d_Mo_putLabel_20 (by decide) ?_
          exact J_24 y_h4 s_h4 d_h4 e_h4 x1h4 x3h4 x2h4 1 H locs h hP hD hS ls (lv_sub hl [0, 1, 3] rfl)
  exact L_4 _ y σ 0 0 v1 0 0 (Nat.lt_succ_self _) hI_4 H locs hP hD hS ls (lv_sub hl [2, 3, 1, 0] rfl)
theorem q4090 : Cond.methodLink "ClassWorksModel" 1232 y_Mo_putSignature ∈ lw_ok := lw_okmem (List.mem_of_getElem? (i := 4090) (by decide +kernel)) rfl
theorem q4093 : Cond.code y_Mo_putSignature b_Mo_putSignature 3 (none) ∈ lw_ok := lw_okmem (List.mem_of_getElem? (i := 4093) (by decide +kernel)) rfl
theorem q4092 : Cond.instanceMethod y_Mo_putSignature ∈ lw_ok := lw_okmem (List.mem_of_getElem? (i := 4092) (by decide +kernel)) rfl
theorem q302 : Cond.selects y_Mo_putSignature.cls y_Mo_putSignature y_Mo_putSignature ∈ lw_ok := lw_okmem (List.mem_of_getElem? (i := 302) (by decide +kernel)) rfl
theorem w9_Mo_putSignature : CWv y_Mo_putSignature b_Mo_putSignature 3 (none) 1 ∧ Cond.instanceMethod y_Mo_putSignature ∈ lw_ok ∧ Cond.selects y_Mo_putSignature.cls y_Mo_putSignature y_Mo_putSignature ∈ lw_ok := ⟨⟨q4093, q348, by decide +kernel, by decide +kernel, by decide +kernel⟩, q4092, q302⟩
theorem q4108 : Cond.methodLink "ClassWorksModel" 1242 y_Mo_putLabel ∈ lw_ok := lw_okmem (List.mem_of_getElem? (i := 4108) (by decide +kernel)) rfl
theorem q4111 : Cond.code y_Mo_putLabel b_Mo_putLabel 4 (none) ∈ lw_ok := lw_okmem (List.mem_of_getElem? (i := 4111) (by decide +kernel)) rfl
theorem q4110 : Cond.instanceMethod y_Mo_putLabel ∈ lw_ok := lw_okmem (List.mem_of_getElem? (i := 4110) (by decide +kernel)) rfl
theorem q305 : Cond.selects y_Mo_putLabel.cls y_Mo_putLabel y_Mo_putLabel ∈ lw_ok := lw_okmem (List.mem_of_getElem? (i := 305) (by decide +kernel)) rfl
theorem w9_Mo_putLabel : CWv y_Mo_putLabel b_Mo_putLabel 4 (none) 1 ∧ Cond.instanceMethod y_Mo_putLabel ∈ lw_ok ∧ Cond.selects y_Mo_putLabel.cls y_Mo_putLabel y_Mo_putLabel ∈ lw_ok := ⟨⟨q4111, q348, by decide +kernel, by decide +kernel, by decide +kernel⟩, q4110, q305⟩
theorem q4102 : Cond.methodLink "ClassWorksModel" 1251 y_Mo_putKinds ∈ lw_ok := lw_okmem (List.mem_of_getElem? (i := 4102) (by decide +kernel)) rfl
theorem q4105 : Cond.code y_Mo_putKinds b_Mo_putKinds 6 (none) ∈ lw_ok := lw_okmem (List.mem_of_getElem? (i := 4105) (by decide +kernel)) rfl
theorem q4104 : Cond.instanceMethod y_Mo_putKinds ∈ lw_ok := lw_okmem (List.mem_of_getElem? (i := 4104) (by decide +kernel)) rfl
theorem q304 : Cond.selects y_Mo_putKinds.cls y_Mo_putKinds y_Mo_putKinds ∈ lw_ok := lw_okmem (List.mem_of_getElem? (i := 304) (by decide +kernel)) rfl
theorem w9_Mo_putKinds : CWv y_Mo_putKinds b_Mo_putKinds 6 (none) 3 ∧ Cond.instanceMethod y_Mo_putKinds ∈ lw_ok ∧ Cond.selects y_Mo_putKinds.cls y_Mo_putKinds y_Mo_putKinds ∈ lw_ok := ⟨⟨q4105, q348, by decide +kernel, by decide +kernel, by decide +kernel⟩, q4104, q304⟩
def y_Mo_putInstruction : MethodName := ⟨"ClassWorksModel", "putInstruction", "(II)V"⟩
abbrev b_Mo_putInstruction : ByteArray := prog_14_method_167_code
theorem d_Mo_putInstruction_0 : decode b_Mo_putInstruction 0 = .ok (.aload_n 0, 1) := by decide +kernel
theorem d_Mo_putInstruction_1 : decode b_Mo_putInstruction 1 = .ok (.getfield 522, 3) := by decide +kernel
theorem d_Mo_putInstruction_4 : decode b_Mo_putInstruction 4 = .ok (.getfield 686, 3) := by decide +kernel
theorem d_Mo_putInstruction_7 : decode b_Mo_putInstruction 7 = .ok (.iload_n 1, 1) := by decide +kernel
theorem d_Mo_putInstruction_8 : decode b_Mo_putInstruction 8 = .ok (.iaload, 1) := by decide +kernel
theorem d_Mo_putInstruction_9 : decode b_Mo_putInstruction 9 = .ok (.iconst 1, 1) := by decide +kernel
theorem d_Mo_putInstruction_10 : decode b_Mo_putInstruction 10 = .ok (.isub, 1) := by decide +kernel
theorem d_Mo_putInstruction_11 : decode b_Mo_putInstruction 11 = .ok (.istore_n 3, 1) := by decide +kernel
theorem d_Mo_putInstruction_12 : decode b_Mo_putInstruction 12 = .ok (.iload_n 3, 1) := by decide +kernel
theorem d_Mo_putInstruction_13 : decode b_Mo_putInstruction 13 = .ok (.ifCond .lt 60, 3) := by decide +kernel
theorem d_Mo_putInstruction_16 : decode b_Mo_putInstruction 16 = .ok (.aload_n 0, 1) := by decide +kernel
theorem d_Mo_putInstruction_17 : decode b_Mo_putInstruction 17 = .ok (.ldc_w 1249, 3) := by decide +kernel
theorem d_Mo_putInstruction_20 : decode b_Mo_putInstruction 20 = .ok (.invokevirtual 1187, 3) := by decide +kernel
theorem d_Mo_putInstruction_23 : decode b_Mo_putInstruction 23 = .ok (.aload_n 0, 1) := by decide +kernel
theorem d_Mo_putInstruction_24 : decode b_Mo_putInstruction 24 = .ok (.iload_n 3, 1) := by decide +kernel
theorem d_Mo_putInstruction_25 : decode b_Mo_putInstruction 25 = .ok (.iconst 0, 1) := by decide +kernel
theorem d_Mo_putInstruction_26 : decode b_Mo_putInstruction 26 = .ok (.aload_n 0, 1) := by decide +kernel
theorem d_Mo_putInstruction_27 : decode b_Mo_putInstruction 27 = .ok (.getfield 522, 3) := by decide +kernel
theorem d_Mo_putInstruction_30 : decode b_Mo_putInstruction 30 = .ok (.getfield 701, 3) := by decide +kernel
theorem d_Mo_putInstruction_33 : decode b_Mo_putInstruction 33 = .ok (.iload_n 3, 1) := by decide +kernel
theorem d_Mo_putInstruction_34 : decode b_Mo_putInstruction 34 = .ok (.iaload, 1) := by decide +kernel
theorem d_Mo_putInstruction_35 : decode b_Mo_putInstruction 35 = .ok (.invokevirtual 1251, 3) := by decide +kernel
theorem d_Mo_putInstruction_38 : decode b_Mo_putInstruction 38 = .ok (.aload_n 0, 1) := by decide +kernel
theorem d_Mo_putInstruction_39 : decode b_Mo_putInstruction 39 = .ok (.bipush 59, 2) := by decide +kernel
theorem d_Mo_putInstruction_41 : decode b_Mo_putInstruction 41 = .ok (.invokevirtual 1179, 3) := by decide +kernel
theorem d_Mo_putInstruction_44 : decode b_Mo_putInstruction 44 = .ok (.aload_n 0, 1) := by decide +kernel
theorem d_Mo_putInstruction_45 : decode b_Mo_putInstruction 45 = .ok (.iload_n 3, 1) := by decide +kernel
theorem d_Mo_putInstruction_46 : decode b_Mo_putInstruction 46 = .ok (.aload_n 0, 1) := by decide +kernel
theorem d_Mo_putInstruction_47 : decode b_Mo_putInstruction 47 = .ok (.getfield 522, 3) := by decide +kernel
theorem d_Mo_putInstruction_50 : decode b_Mo_putInstruction 50 = .ok (.getfield 701, 3) := by decide +kernel
theorem d_Mo_putInstruction_53 : decode b_Mo_putInstruction 53 = .ok (.iload_n 3, 1) := by decide +kernel
theorem d_Mo_putInstruction_54 : decode b_Mo_putInstruction 54 = .ok (.iaload, 1) := by decide +kernel
theorem d_Mo_putInstruction_55 : decode b_Mo_putInstruction 55 = .ok (.aload_n 0, 1) := by decide +kernel
theorem d_Mo_putInstruction_56 : decode b_Mo_putInstruction 56 = .ok (.getfield 522, 3) := by decide +kernel
theorem d_Mo_putInstruction_59 : decode b_Mo_putInstruction 59 = .ok (.getfield 704, 3) := by decide +kernel
theorem d_Mo_putInstruction_62 : decode b_Mo_putInstruction 62 = .ok (.iload_n 3, 1) := by decide +kernel
theorem d_Mo_putInstruction_63 : decode b_Mo_putInstruction 63 = .ok (.iaload, 1) := by decide +kernel
theorem d_Mo_putInstruction_64 : decode b_Mo_putInstruction 64 = .ok (.invokevirtual 1251, 3) := by decide +kernel
theorem d_Mo_putInstruction_67 : decode b_Mo_putInstruction 67 = .ok (.aload_n 0, 1) := by decide +kernel
theorem d_Mo_putInstruction_68 : decode b_Mo_putInstruction 68 = .ok (.bipush 10, 2) := by decide +kernel
theorem d_Mo_putInstruction_70 : decode b_Mo_putInstruction 70 = .ok (.invokevirtual 1179, 3) := by decide +kernel
theorem d_Mo_putInstruction_73 : decode b_Mo_putInstruction 73 = .ok (.aload_n 0, 1) := by decide +kernel
theorem d_Mo_putInstruction_74 : decode b_Mo_putInstruction 74 = .ok (.ldc_w 1240, 3) := by decide +kernel
theorem d_Mo_putInstruction_77 : decode b_Mo_putInstruction 77 = .ok (.invokevirtual 1187, 3) := by decide +kernel
theorem d_Mo_putInstruction_80 : decode b_Mo_putInstruction 80 = .ok (.aload_n 0, 1) := by decide +kernel
theorem d_Mo_putInstruction_81 : decode b_Mo_putInstruction 81 = .ok (.getfield 326, 3) := by decide +kernel
theorem d_Mo_putInstruction_84 : decode b_Mo_putInstruction 84 = .ok (.iload_n 2, 1) := by decide +kernel
theorem d_Mo_putInstruction_85 : decode b_Mo_putInstruction 85 = .ok (.baload, 1) := by decide +kernel
theorem d_Mo_putInstruction_86 : decode b_Mo_putInstruction 86 = .ok (.ifCond .eq 15, 3) := by decide +kernel
theorem d_Mo_putInstruction_89 : decode b_Mo_putInstruction 89 = .ok (.aload_n 0, 1) := by decide +kernel
theorem d_Mo_putInstruction_90 : decode b_Mo_putInstruction 90 = .ok (.iload_n 2, 1) := by decide +kernel
theorem d_Mo_putInstruction_91 : decode b_Mo_putInstruction 91 = .ok (.invokevirtual 1242, 3) := by decide +kernel
theorem d_Mo_putInstruction_94 : decode b_Mo_putInstruction 94 = .ok (.aload_n 0, 1) := by decide +kernel
theorem d_Mo_putInstruction_95 : decode b_Mo_putInstruction 95 = .ok (.ldc_w 1211, 3) := by decide +kernel
theorem d_Mo_putInstruction_98 : decode b_Mo_putInstruction 98 = .ok (.invokevirtual 1187, 3) := by decide +kernel
theorem d_Mo_putInstruction_101 : decode b_Mo_putInstruction 101 = .ok (.aload_n 0, 1) := by decide +kernel
theorem d_Mo_putInstruction_102 : decode b_Mo_putInstruction 102 = .ok (.getfield 522, 3) := by decide +kernel
theorem d_Mo_putInstruction_105 : decode b_Mo_putInstruction 105 = .ok (.getfield 674, 3) := by decide +kernel
theorem d_Mo_putInstruction_108 : decode b_Mo_putInstruction 108 = .ok (.iload_n 1, 1) := by decide +kernel
theorem d_Mo_putInstruction_109 : decode b_Mo_putInstruction 109 = .ok (.baload, 1) := by decide +kernel
theorem d_Mo_putInstruction_110 : decode b_Mo_putInstruction 110 = .ok (.istore 4, 2) := by decide +kernel
theorem d_Mo_putInstruction_112 : decode b_Mo_putInstruction 112 = .ok (.aload_n 0, 1) := by decide +kernel
theorem d_Mo_putInstruction_113 : decode b_Mo_putInstruction 113 = .ok (.aload_n 0, 1) := by decide +kernel
theorem d_Mo_putInstruction_114 : decode b_Mo_putInstruction 114 = .ok (.getfield 242, 3) := by decide +kernel
theorem d_Mo_putInstruction_117 : decode b_Mo_putInstruction 117 = .ok (.iload 4, 2) := by decide +kernel
theorem d_Mo_putInstruction_119 : decode b_Mo_putInstruction 119 = .ok (.iadd, 1) := by decide +kernel
theorem d_Mo_putInstruction_120 : decode b_Mo_putInstruction 120 = .ok (.invokevirtual 1182, 3) := by decide +kernel
theorem d_Mo_putInstruction_123 : decode b_Mo_putInstruction 123 = .ok (.aload_n 0, 1) := by decide +kernel
theorem d_Mo_putInstruction_124 : decode b_Mo_putInstruction 124 = .ok (.getfield 522, 3) := by decide +kernel
theorem d_Mo_putInstruction_127 : decode b_Mo_putInstruction 127 = .ok (.getfield 677, 3) := by decide +kernel
theorem d_Mo_putInstruction_130 : decode b_Mo_putInstruction 130 = .ok (.iload_n 1, 1) := by decide +kernel
theorem d_Mo_putInstruction_131 : decode b_Mo_putInstruction 131 = .ok (.iaload, 1) := by decide +kernel
theorem d_Mo_putInstruction_132 : decode b_Mo_putInstruction 132 = .ok (.istore 5, 2) := by decide +kernel
theorem d_Mo_putInstruction_134 : decode b_Mo_putInstruction 134 = .ok (.iload 4, 2) := by decide +kernel
theorem d_Mo_putInstruction_136 : decode b_Mo_putInstruction 136 = .ok (.iconst 1, 1) := by decide +kernel
theorem d_Mo_putInstruction_137 : decode b_Mo_putInstruction 137 = .ok (.if_icmp .eq 23, 3) := by decide +kernel
theorem d_Mo_putInstruction_140 : decode b_Mo_putInstruction 140 = .ok (.iload 4, 2) := by decide +kernel
theorem d_Mo_putInstruction_142 : decode b_Mo_putInstruction 142 = .ok (.iconst 3, 1) := by decide +kernel
theorem d_Mo_putInstruction_143 : decode b_Mo_putInstruction 143 = .ok (.if_icmp .lt 10, 3) := by decide +kernel
theorem d_Mo_putInstruction_146 : decode b_Mo_putInstruction 146 = .ok (.iload 4, 2) := by decide +kernel
theorem d_Mo_putInstruction_148 : decode b_Mo_putInstruction 148 = .ok (.bipush 7, 2) := by decide +kernel
theorem d_Mo_putInstruction_150 : decode b_Mo_putInstruction 150 = .ok (.if_icmp .le 10, 3) := by decide +kernel
theorem d_Mo_putInstruction_153 : decode b_Mo_putInstruction 153 = .ok (.iload 4, 2) := by decide +kernel
theorem d_Mo_putInstruction_155 : decode b_Mo_putInstruction 155 = .ok (.bipush 40, 2) := by decide +kernel
theorem d_Mo_putInstruction_157 : decode b_Mo_putInstruction 157 = .ok (.if_icmp .ne 15, 3) := by decide +kernel
theorem d_Mo_putInstruction_160 : decode b_Mo_putInstruction 160 = .ok (.aload_n 0, 1) := by decide +kernel
theorem d_Mo_putInstruction_161 : decode b_Mo_putInstruction 161 = .ok (.bipush 32, 2) := by decide +kernel
theorem d_Mo_putInstruction_163 : decode b_Mo_putInstruction 163 = .ok (.invokevirtual 1179, 3) := by decide +kernel
theorem d_Mo_putInstruction_166 : decode b_Mo_putInstruction 166 = .ok (.aload_n 0, 1) := by decide +kernel
theorem d_Mo_putInstruction_167 : decode b_Mo_putInstruction 167 = .ok (.iload 5, 2) := by decide +kernel
theorem d_Mo_putInstruction_169 : decode b_Mo_putInstruction 169 = .ok (.invokevirtual 1220, 3) := by decide +kernel
theorem d_Mo_putInstruction_172 : decode b_Mo_putInstruction 172 = .ok (.iload 4, 2) := by decide +kernel
theorem d_Mo_putInstruction_174 : decode b_Mo_putInstruction 174 = .ok (.bipush 7, 2) := by decide +kernel
theorem d_Mo_putInstruction_176 : decode b_Mo_putInstruction 176 = .ok (.if_icmp .ne 22, 3) := by decide +kernel
theorem d_Mo_putInstruction_179 : decode b_Mo_putInstruction 179 = .ok (.aload_n 0, 1) := by decide +kernel
theorem d_Mo_putInstruction_180 : decode b_Mo_putInstruction 180 = .ok (.bipush 32, 2) := by decide +kernel
theorem d_Mo_putInstruction_182 : decode b_Mo_putInstruction 182 = .ok (.invokevirtual 1179, 3) := by decide +kernel
theorem d_Mo_putInstruction_185 : decode b_Mo_putInstruction 185 = .ok (.aload_n 0, 1) := by decide +kernel
theorem d_Mo_putInstruction_186 : decode b_Mo_putInstruction 186 = .ok (.aload_n 0, 1) := by decide +kernel
theorem d_Mo_putInstruction_187 : decode b_Mo_putInstruction 187 = .ok (.getfield 522, 3) := by decide +kernel
theorem d_Mo_putInstruction_190 : decode b_Mo_putInstruction 190 = .ok (.getfield 680, 3) := by decide +kernel
theorem d_Mo_putInstruction_193 : decode b_Mo_putInstruction 193 = .ok (.iload_n 1, 1) := by decide +kernel
theorem d_Mo_putInstruction_194 : decode b_Mo_putInstruction 194 = .ok (.iaload, 1) := by decide +kernel
theorem d_Mo_putInstruction_195 : decode b_Mo_putInstruction 195 = .ok (.invokevirtual 1220, 3) := by decide +kernel
theorem d_Mo_putInstruction_198 : decode b_Mo_putInstruction 198 = .ok (.iload 4, 2) := by decide +kernel
theorem d_Mo_putInstruction_200 : decode b_Mo_putInstruction 200 = .ok (.bipush 23, 2) := by decide +kernel
theorem d_Mo_putInstruction_202 : decode b_Mo_putInstruction 202 = .ok (.if_icmp .lt 22, 3) := by decide +kernel
theorem d_Mo_putInstruction_205 : decode b_Mo_putInstruction 205 = .ok (.iload 4, 2) := by decide +kernel
theorem d_Mo_putInstruction_207 : decode b_Mo_putInstruction 207 = .ok (.bipush 39, 2) := by decide +kernel
theorem d_Mo_putInstruction_209 : decode b_Mo_putInstruction 209 = .ok (.if_icmp .gt 15, 3) := by decide +kernel
theorem d_Mo_putInstruction_212 : decode b_Mo_putInstruction 212 = .ok (.aload_n 0, 1) := by decide +kernel
theorem d_Mo_putInstruction_213 : decode b_Mo_putInstruction 213 = .ok (.bipush 32, 2) := by decide +kernel
theorem d_Mo_putInstruction_215 : decode b_Mo_putInstruction 215 = .ok (.invokevirtual 1179, 3) := by decide +kernel
theorem d_Mo_putInstruction_218 : decode b_Mo_putInstruction 218 = .ok (.aload_n 0, 1) := by decide +kernel
theorem d_Mo_putInstruction_219 : decode b_Mo_putInstruction 219 = .ok (.iload 5, 2) := by decide +kernel
theorem d_Mo_putInstruction_221 : decode b_Mo_putInstruction 221 = .ok (.invokevirtual 1242, 3) := by decide +kernel
theorem d_Mo_putInstruction_224 : decode b_Mo_putInstruction 224 = .ok (.iconst 0, 1) := by decide +kernel
theorem d_Mo_putInstruction_225 : decode b_Mo_putInstruction 225 = .ok (.istore 6, 2) := by decide +kernel
theorem d_Mo_putInstruction_227 : decode b_Mo_putInstruction 227 = .ok (.iload 4, 2) := by decide +kernel
theorem d_Mo_putInstruction_229 : decode b_Mo_putInstruction 229 = .ok (.bipush 40, 2) := by decide +kernel
theorem d_Mo_putInstruction_231 : decode b_Mo_putInstruction 231 = .ok (.if_icmp .ne 65, 3) := by decide +kernel
theorem d_Mo_putInstruction_234 : decode b_Mo_putInstruction 234 = .ok (.iload 6, 2) := by decide +kernel
theorem d_Mo_putInstruction_236 : decode b_Mo_putInstruction 236 = .ok (.aload_n 0, 1) := by decide +kernel
theorem d_Mo_putInstruction_237 : decode b_Mo_putInstruction 237 = .ok (.getfield 522, 3) := by decide +kernel
theorem d_Mo_putInstruction_240 : decode b_Mo_putInstruction 240 = .ok (.getfield 683, 3) := by decide +kernel
theorem d_Mo_putInstruction_243 : decode b_Mo_putInstruction 243 = .ok (.iload_n 1, 1) := by decide +kernel
theorem d_Mo_putInstruction_244 : decode b_Mo_putInstruction 244 = .ok (.iaload, 1) := by decide +kernel
theorem d_Mo_putInstruction_245 : decode b_Mo_putInstruction 245 = .ok (.if_icmp .ge 51, 3) := by decide +kernel
theorem d_Mo_putInstruction_248 : decode b_Mo_putInstruction 248 = .ok (.aload_n 0, 1) := by decide +kernel
theorem d_Mo_putInstruction_249 : decode b_Mo_putInstruction 249 = .ok (.iload 6, 2) := by decide +kernel
theorem d_Mo_putInstruction_251 : decode b_Mo_putInstruction 251 = .ok (.ifCond .le 9, 3) := by decide +kernel
theorem d_Mo_putInstruction_254 : decode b_Mo_putInstruction 254 = .ok (.ldc_w 1190, 3) := by decide +kernel
theorem d_Mo_putInstruction_257 : decode b_Mo_putInstruction 257 = .ok (.goto 6, 3) := by decide +kernel
theorem d_Mo_putInstruction_260 : decode b_Mo_putInstruction 260 = .ok (.ldc_w 1247, 3) := by decide +kernel
theorem d_Mo_putInstruction_263 : decode b_Mo_putInstruction 263 = .ok (.invokevirtual 1187, 3) := by decide +kernel
theorem d_Mo_putInstruction_266 : decode b_Mo_putInstruction 266 = .ok (.aload_n 0, 1) := by decide +kernel
theorem d_Mo_putInstruction_267 : decode b_Mo_putInstruction 267 = .ok (.aload_n 0, 1) := by decide +kernel
theorem d_Mo_putInstruction_268 : decode b_Mo_putInstruction 268 = .ok (.getfield 522, 3) := by decide +kernel
theorem d_Mo_putInstruction_271 : decode b_Mo_putInstruction 271 = .ok (.getfield 689, 3) := by decide +kernel
theorem d_Mo_putInstruction_274 : decode b_Mo_putInstruction 274 = .ok (.aload_n 0, 1) := by decide +kernel
theorem d_Mo_putInstruction_275 : decode b_Mo_putInstruction 275 = .ok (.getfield 522, 3) := by decide +kernel
theorem d_Mo_putInstruction_278 : decode b_Mo_putInstruction 278 = .ok (.getfield 680, 3) := by decide +kernel
theorem d_Mo_putInstruction_281 : decode b_Mo_putInstruction 281 = .ok (.iload_n 1, 1) := by decide +kernel
theorem d_Mo_putInstruction_282 : decode b_Mo_putInstruction 282 = .ok (.iaload, 1) := by decide +kernel
theorem d_Mo_putInstruction_283 : decode b_Mo_putInstruction 283 = .ok (.iload 6, 2) := by decide +kernel
theorem d_Mo_putInstruction_285 : decode b_Mo_putInstruction 285 = .ok (.iadd, 1) := by decide +kernel
theorem d_Mo_putInstruction_286 : decode b_Mo_putInstruction 286 = .ok (.iaload, 1) := by decide +kernel
theorem d_Mo_putInstruction_287 : decode b_Mo_putInstruction 287 = .ok (.invokevirtual 1242, 3) := by decide +kernel
theorem d_Mo_putInstruction_290 : decode b_Mo_putInstruction 290 = .ok (.iinc 6 1, 3) := by decide +kernel
theorem d_Mo_putInstruction_293 : decode b_Mo_putInstruction 293 = .ok (.goto (-66), 3) := by decide +kernel
theorem d_Mo_putInstruction_296 : decode b_Mo_putInstruction 296 = .ok (.iload 4, 2) := by decide +kernel
theorem d_Mo_putInstruction_298 : decode b_Mo_putInstruction 298 = .ok (.bipush 41, 2) := by decide +kernel
theorem d_Mo_putInstruction_300 : decode b_Mo_putInstruction 300 = .ok (.if_icmp .eq 17, 3) := by decide +kernel
theorem d_Mo_putInstruction_303 : decode b_Mo_putInstruction 303 = .ok (.iload 4, 2) := by decide +kernel
theorem d_Mo_putInstruction_305 : decode b_Mo_putInstruction 305 = .ok (.bipush 46, 2) := by decide +kernel
theorem d_Mo_putInstruction_307 : decode b_Mo_putInstruction 307 = .ok (.if_icmp .lt 22, 3) := by decide +kernel
theorem d_Mo_putInstruction_310 : decode b_Mo_putInstruction 310 = .ok (.iload 4, 2) := by decide +kernel
theorem d_Mo_putInstruction_312 : decode b_Mo_putInstruction 312 = .ok (.bipush 55, 2) := by decide +kernel
theorem d_Mo_putInstruction_314 : decode b_Mo_putInstruction 314 = .ok (.if_icmp .gt 15, 3) := by decide +kernel
theorem d_Mo_putInstruction_317 : decode b_Mo_putInstruction 317 = .ok (.aload_n 0, 1) := by decide +kernel
theorem d_Mo_putInstruction_318 : decode b_Mo_putInstruction 318 = .ok (.bipush 32, 2) := by decide +kernel
theorem d_Mo_putInstruction_320 : decode b_Mo_putInstruction 320 = .ok (.invokevirtual 1179, 3) := by decide +kernel
theorem d_Mo_putInstruction_323 : decode b_Mo_putInstruction 323 = .ok (.aload_n 0, 1) := by decide +kernel
theorem d_Mo_putInstruction_324 : decode b_Mo_putInstruction 324 = .ok (.iload 5, 2) := by decide +kernel
theorem d_Mo_putInstruction_326 : decode b_Mo_putInstruction 326 = .ok (.invokevirtual 1182, 3) := by decide +kernel
theorem d_Mo_putInstruction_329 : decode b_Mo_putInstruction 329 = .ok (.iload 4, 2) := by decide +kernel
theorem d_Mo_putInstruction_331 : decode b_Mo_putInstruction 331 = .ok (.bipush 46, 2) := by decide +kernel
theorem d_Mo_putInstruction_333 : decode b_Mo_putInstruction 333 = .ok (.if_icmp .lt 29, 3) := by decide +kernel
theorem d_Mo_putInstruction_336 : decode b_Mo_putInstruction 336 = .ok (.iload 4, 2) := by decide +kernel
theorem d_Mo_putInstruction_338 : decode b_Mo_putInstruction 338 = .ok (.bipush 53, 2) := by decide +kernel
theorem d_Mo_putInstruction_340 : decode b_Mo_putInstruction 340 = .ok (.if_icmp .gt 22, 3) := by decide +kernel
theorem d_Mo_putInstruction_343 : decode b_Mo_putInstruction 343 = .ok (.aload_n 0, 1) := by decide +kernel
theorem d_Mo_putInstruction_344 : decode b_Mo_putInstruction 344 = .ok (.bipush 46, 2) := by decide +kernel
theorem d_Mo_putInstruction_346 : decode b_Mo_putInstruction 346 = .ok (.invokevirtual 1179, 3) := by decide +kernel
theorem d_Mo_putInstruction_349 : decode b_Mo_putInstruction 349 = .ok (.aload_n 0, 1) := by decide +kernel
theorem d_Mo_putInstruction_350 : decode b_Mo_putInstruction 350 = .ok (.aload_n 0, 1) := by decide +kernel
theorem d_Mo_putInstruction_351 : decode b_Mo_putInstruction 351 = .ok (.getfield 522, 3) := by decide +kernel
theorem d_Mo_putInstruction_354 : decode b_Mo_putInstruction 354 = .ok (.getfield 680, 3) := by decide +kernel
theorem d_Mo_putInstruction_357 : decode b_Mo_putInstruction 357 = .ok (.iload_n 1, 1) := by decide +kernel
theorem d_Mo_putInstruction_358 : decode b_Mo_putInstruction 358 = .ok (.iaload, 1) := by decide +kernel
theorem d_Mo_putInstruction_359 : decode b_Mo_putInstruction 359 = .ok (.invokevirtual 1182, 3) := by decide +kernel
theorem d_Mo_putInstruction_362 : decode b_Mo_putInstruction 362 = .ok (.iload 4, 2) := by decide +kernel
theorem d_Mo_putInstruction_364 : decode b_Mo_putInstruction 364 = .ok (.bipush 46, 2) := by decide +kernel
theorem d_Mo_putInstruction_366 : decode b_Mo_putInstruction 366 = .ok (.if_icmp .lt 29, 3) := by decide +kernel
theorem d_Mo_putInstruction_369 : decode b_Mo_putInstruction 369 = .ok (.iload 4, 2) := by decide +kernel
theorem d_Mo_putInstruction_371 : decode b_Mo_putInstruction 371 = .ok (.bipush 49, 2) := by decide +kernel
theorem d_Mo_putInstruction_373 : decode b_Mo_putInstruction 373 = .ok (.if_icmp .gt 22, 3) := by decide +kernel
theorem d_Mo_putInstruction_376 : decode b_Mo_putInstruction 376 = .ok (.aload_n 0, 1) := by decide +kernel
theorem d_Mo_putInstruction_377 : decode b_Mo_putInstruction 377 = .ok (.bipush 32, 2) := by decide +kernel
theorem d_Mo_putInstruction_379 : decode b_Mo_putInstruction 379 = .ok (.invokevirtual 1179, 3) := by decide +kernel
theorem d_Mo_putInstruction_382 : decode b_Mo_putInstruction 382 = .ok (.aload_n 0, 1) := by decide +kernel
theorem d_Mo_putInstruction_383 : decode b_Mo_putInstruction 383 = .ok (.aload_n 0, 1) := by decide +kernel
theorem d_Mo_putInstruction_384 : decode b_Mo_putInstruction 384 = .ok (.getfield 522, 3) := by decide +kernel
theorem d_Mo_putInstruction_387 : decode b_Mo_putInstruction 387 = .ok (.getfield 683, 3) := by decide +kernel
theorem d_Mo_putInstruction_390 : decode b_Mo_putInstruction 390 = .ok (.iload_n 1, 1) := by decide +kernel
theorem d_Mo_putInstruction_391 : decode b_Mo_putInstruction 391 = .ok (.iaload, 1) := by decide +kernel
theorem d_Mo_putInstruction_392 : decode b_Mo_putInstruction 392 = .ok (.invokevirtual 1194, 3) := by decide +kernel
theorem d_Mo_putInstruction_395 : decode b_Mo_putInstruction 395 = .ok (.iload 4, 2) := by decide +kernel
theorem d_Mo_putInstruction_397 : decode b_Mo_putInstruction 397 = .ok (.bipush 50, 2) := by decide +kernel
theorem d_Mo_putInstruction_399 : decode b_Mo_putInstruction 399 = .ok (.if_icmp .lt 23, 3) := by decide +kernel
theorem d_Mo_putInstruction_402 : decode b_Mo_putInstruction 402 = .ok (.iload 4, 2) := by decide +kernel
theorem d_Mo_putInstruction_404 : decode b_Mo_putInstruction 404 = .ok (.bipush 53, 2) := by decide +kernel
theorem d_Mo_putInstruction_406 : decode b_Mo_putInstruction 406 = .ok (.if_icmp .gt 16, 3) := by decide +kernel
theorem d_Mo_putInstruction_409 : decode b_Mo_putInstruction 409 = .ok (.aload_n 0, 1) := by decide +kernel
theorem d_Mo_putInstruction_410 : decode b_Mo_putInstruction 410 = .ok (.aload_n 0, 1) := by decide +kernel
theorem d_Mo_putInstruction_411 : decode b_Mo_putInstruction 411 = .ok (.getfield 522, 3) := by decide +kernel
theorem d_Mo_putInstruction_414 : decode b_Mo_putInstruction 414 = .ok (.getfield 683, 3) := by decide +kernel
theorem d_Mo_putInstruction_417 : decode b_Mo_putInstruction 417 = .ok (.iload_n 1, 1) := by decide +kernel
theorem d_Mo_putInstruction_418 : decode b_Mo_putInstruction 418 = .ok (.iaload, 1) := by decide +kernel
theorem d_Mo_putInstruction_419 : decode b_Mo_putInstruction 419 = .ok (.invokevirtual 1232, 3) := by decide +kernel
theorem d_Mo_putInstruction_422 : decode b_Mo_putInstruction 422 = .ok (.aload_n 0, 1) := by decide +kernel
theorem d_Mo_putInstruction_423 : decode b_Mo_putInstruction 423 = .ok (.bipush 10, 2) := by decide +kernel
theorem d_Mo_putInstruction_425 : decode b_Mo_putInstruction 425 = .ok (.invokevirtual 1179, 3) := by decide +kernel
theorem d_Mo_putInstruction_428 : decode b_Mo_putInstruction 428 = .ok (.return_, 1) := by decide +kernel
abbrev ra_Mo_putInstruction (mc ms : Nat) : Room := { frames := 7, cells := mc, slots := ms, locals := 236 }
def wja_Mo_putInstruction_422 (mc ms : Nat) (Post : Ly → St → Nat → Nat → Prop) (a0 : Nat) (y_j422 : Ly) (s_j422 : St) (d_j422 e_j422 : Nat) : Prop := (d_j422 ≤ mc ∧ e_j422 ≤ ms) ∧ ∃ mc_35 ms_36 : Nat, (d_j422 + mc_35 ≤ mc ∧ e_j422 + ms_36 ≤ ms) ∧ wa_Mo_put mc_35 ms_36 y_j422 (fun (y_32 : Ly) (s_31 : St) (d_33 e_34 : Nat) => (d_j422 + d_33 ≤ mc ∧ e_j422 + e_34 ≤ ms) ∧ Post y_32 s_31 (d_j422 + d_33) (e_j422 + e_34)) s_j422 a0 10
def wja_Mo_putInstruction_395 (mc ms : Nat) (Post : Ly → St → Nat → Nat → Prop) (a0 : Nat) (y_j395 : Ly) (s_j395 : St) (d_j395 e_j395 : Nat) (x1j395 : Int32) (x4j395 : Int32) : Prop := (d_j395 ≤ mc ∧ e_j395 ≤ ms) ∧ ((x4j395 < 50 → wja_Mo_putInstruction_422 mc ms Post a0 y_j395 s_j395 d_j395 e_j395) ∧ (¬ (x4j395 < 50) → ((53 < x4j395 → wja_Mo_putInstruction_422 mc ms Post a0 y_j395 s_j395 d_j395 e_j395) ∧ (¬ (53 < x4j395) → ∃ b_38 : Nat, sO s_j395 a0 45 = some b_38 ∧ cl b_38 = 13 ∧ xA y_j395 s_j395 b_38 33 x1j395 (fun x_41 : Int32 => ∃ mc_47 ms_48 : Nat, (d_j395 + mc_47 ≤ mc ∧ e_j395 + ms_48 ≤ ms) ∧ wa_Mo_putSignature mc_47 ms_48 y_j395 (fun (y_44 : Ly) (s_43 : St) (d_45 e_46 : Nat) => (d_j395 + d_45 ≤ mc ∧ e_j395 + e_46 ≤ ms) ∧ wja_Mo_putInstruction_422 mc ms Post a0 y_44 s_43 (d_j395 + d_45) (e_j395 + e_46)) s_j395 a0 x_41)))))
def wja_Mo_putInstruction_362 (mc ms : Nat) (Post : Ly → St → Nat → Nat → Prop) (a0 : Nat) (y_j362 : Ly) (s_j362 : St) (d_j362 e_j362 : Nat) (x1j362 : Int32) (x4j362 : Int32) : Prop := (d_j362 ≤ mc ∧ e_j362 ≤ ms) ∧ ((x4j362 < 46 → wja_Mo_putInstruction_395 mc ms Post a0 y_j362 s_j362 d_j362 e_j362 x1j362 x4j362) ∧ (¬ (x4j362 < 46) → ((49 < x4j362 → wja_Mo_putInstruction_395 mc ms Post a0 y_j362 s_j362 d_j362 e_j362 x1j362 x4j362) ∧ (¬ (49 < x4j362) → ∃ mc_55 ms_56 : Nat, (d_j362 + mc_55 ≤ mc ∧ e_j362 + ms_56 ≤ ms) ∧ wa_Mo_put mc_55 ms_56 y_j362 (fun (y_52 : Ly) (s_51 : St) (d_53 e_54 : Nat) => (d_j362 + d_53 ≤ mc ∧ e_j362 + e_54 ≤ ms) ∧ ∃ b_58 : Nat, sO s_51 a0 45 = some b_58 ∧ cl b_58 = 13 ∧ xA y_52 s_51 b_58 33 x1j362 (fun x_61 : Int32 => ∃ mc_67 ms_68 : Nat, (d_j362 + d_53 + mc_67 ≤ mc ∧ e_j362 + e_54 + ms_68 ≤ ms) ∧ wa_Mo_putType mc_67 ms_68 y_52 (fun (y_64 : Ly) (s_63 : St) (d_65 e_66 : Nat) => (d_j362 + d_53 + d_65 ≤ mc ∧ e_j362 + e_54 + e_66 ≤ ms) ∧ wja_Mo_putInstruction_395 mc ms Post a0 y_64 s_63 (d_j362 + d_53 + d_65) (e_j362 + e_54 + e_66) x1j362 x4j362) s_51 a0 x_61)) s_j362 a0 32))))
def wja_Mo_putInstruction_329 (mc ms : Nat) (Post : Ly → St → Nat → Nat → Prop) (a0 : Nat) (y_j329 : Ly) (s_j329 : St) (d_j329 e_j329 : Nat) (x1j329 : Int32) (x4j329 : Int32) : Prop := (d_j329 ≤ mc ∧ e_j329 ≤ ms) ∧ ((x4j329 < 46 → wja_Mo_putInstruction_362 mc ms Post a0 y_j329 s_j329 d_j329 e_j329 x1j329 x4j329) ∧ (¬ (x4j329 < 46) → ((53 < x4j329 → wja_Mo_putInstruction_362 mc ms Post a0 y_j329 s_j329 d_j329 e_j329 x1j329 x4j329) ∧ (¬ (53 < x4j329) → ∃ mc_75 ms_76 : Nat, (d_j329 + mc_75 ≤ mc ∧ e_j329 + ms_76 ≤ ms) ∧ wa_Mo_put mc_75 ms_76 y_j329 (fun (y_72 : Ly) (s_71 : St) (d_73 e_74 : Nat) => (d_j329 + d_73 ≤ mc ∧ e_j329 + e_74 ≤ ms) ∧ ∃ b_78 : Nat, sO s_71 a0 45 = some b_78 ∧ cl b_78 = 13 ∧ xA y_72 s_71 b_78 32 x1j329 (fun x_81 : Int32 => ∃ mc_87 ms_88 : Nat, (d_j329 + d_73 + mc_87 ≤ mc ∧ e_j329 + e_74 + ms_88 ≤ ms) ∧ wa_Mo_putName mc_87 ms_88 y_72 (fun (y_84 : Ly) (s_83 : St) (d_85 e_86 : Nat) => (d_j329 + d_73 + d_85 ≤ mc ∧ e_j329 + e_74 + e_86 ≤ ms) ∧ wja_Mo_putInstruction_362 mc ms Post a0 y_84 s_83 (d_j329 + d_73 + d_85) (e_j329 + e_74 + e_86) x1j329 x4j329) s_71 a0 x_81)) s_j329 a0 46))))
def wja_Mo_putInstruction_317 (mc ms : Nat) (Post : Ly → St → Nat → Nat → Prop) (a0 : Nat) (y_j317 : Ly) (s_j317 : St) (d_j317 e_j317 : Nat) (x1j317 : Int32) (x4j317 : Int32) (x5j317 : Int32) : Prop := (d_j317 ≤ mc ∧ e_j317 ≤ ms) ∧ ∃ mc_95 ms_96 : Nat, (d_j317 + mc_95 ≤ mc ∧ e_j317 + ms_96 ≤ ms) ∧ wa_Mo_put mc_95 ms_96 y_j317 (fun (y_92 : Ly) (s_91 : St) (d_93 e_94 : Nat) => (d_j317 + d_93 ≤ mc ∧ e_j317 + e_94 ≤ ms) ∧ ∃ mc_103 ms_104 : Nat, (d_j317 + d_93 + mc_103 ≤ mc ∧ e_j317 + e_94 + ms_104 ≤ ms) ∧ wa_Mo_putName mc_103 ms_104 y_92 (fun (y_100 : Ly) (s_99 : St) (d_101 e_102 : Nat) => (d_j317 + d_93 + d_101 ≤ mc ∧ e_j317 + e_94 + e_102 ≤ ms) ∧ wja_Mo_putInstruction_329 mc ms Post a0 y_100 s_99 (d_j317 + d_93 + d_101) (e_j317 + e_94 + e_102) x1j317 x4j317) s_91 a0 x5j317) s_j317 a0 32
def wja_Mo_putInstruction_296 (mc ms : Nat) (Post : Ly → St → Nat → Nat → Prop) (a0 : Nat) (y_j296 : Ly) (s_j296 : St) (d_j296 e_j296 : Nat) (x1j296 : Int32) (x4j296 : Int32) (x5j296 : Int32) : Prop := (d_j296 ≤ mc ∧ e_j296 ≤ ms) ∧ ((x4j296 = 41 → wja_Mo_putInstruction_317 mc ms Post a0 y_j296 s_j296 d_j296 e_j296 x1j296 x4j296 x5j296) ∧ (¬ (x4j296 = 41) → ((x4j296 < 46 → wja_Mo_putInstruction_329 mc ms Post a0 y_j296 s_j296 d_j296 e_j296 x1j296 x4j296) ∧ (¬ (x4j296 < 46) → ((55 < x4j296 → wja_Mo_putInstruction_329 mc ms Post a0 y_j296 s_j296 d_j296 e_j296 x1j296 x4j296) ∧ (¬ (55 < x4j296) → wja_Mo_putInstruction_317 mc ms Post a0 y_j296 s_j296 d_j296 e_j296 x1j296 x4j296 x5j296))))))
def wja_Mo_putInstruction_263 (mc ms : Nat) (Post : Ly → St → Nat → Nat → Prop) (K_227 : Ly → St → Nat → Nat → Int32 → Int32 → Int32 → Int32 → Prop) (a0 : Nat) (y_j263 : Ly) (s_j263 : St) (d_j263 e_j263 : Nat) (x1j263 : Int32) (x4j263 : Int32) (x5j263 : Int32) (x6j263 : Int32) (z1j263 : Nat) : Prop := (d_j263 ≤ mc ∧ e_j263 ≤ ms) ∧ z1j263 < strT.length ∧ ∃ mc_115 ms_116 : Nat, (d_j263 + mc_115 ≤ mc ∧ e_j263 + ms_116 ≤ ms) ∧ wa_Mo_putWord mc_115 ms_116 y_j263 (fun (y_112 : Ly) (s_111 : St) (d_113 e_114 : Nat) => (d_j263 + d_113 ≤ mc ∧ e_j263 + e_114 ≤ ms) ∧ ∃ b_118 : Nat, sO s_111 a0 45 = some b_118 ∧ cl b_118 = 13 ∧ xA y_112 s_111 b_118 32 x1j263 (fun x_121 : Int32 => xA y_112 s_111 b_118 36 (x_121 + x6j263) (fun x_122 : Int32 => ∃ mc_128 ms_129 : Nat, (d_j263 + d_113 + mc_128 ≤ mc ∧ e_j263 + e_114 + ms_129 ≤ ms) ∧ wa_Mo_putLabel mc_128 ms_129 y_112 (fun (y_125 : Ly) (s_124 : St) (d_126 e_127 : Nat) => (d_j263 + d_113 + d_126 ≤ mc ∧ e_j263 + e_114 + e_127 ≤ ms) ∧ K_227 y_125 s_124 (d_j263 + d_113 + d_126) (e_j263 + e_114 + e_127) x1j263 x4j263 x5j263 (x6j263 + 1)) s_111 a0 x_122))) s_j263 a0 z1j263
def wba_Mo_putInstruction_227 (mc ms : Nat) (Post : Ly → St → Nat → Nat → Prop) (K_227 : Ly → St → Nat → Nat → Int32 → Int32 → Int32 → Int32 → Prop) (a0 : Nat) (y_h227 : Ly) (s_h227 : St) (d_h227 e_h227 : Nat) (x1h227 : Int32) (x4h227 : Int32) (x5h227 : Int32) (x6h227 : Int32) : Prop := (d_h227 ≤ mc ∧ e_h227 ≤ ms) ∧ ((¬ x4h227 = 40 → wja_Mo_putInstruction_296 mc ms Post a0 y_h227 s_h227 d_h227 e_h227 x1h227 x4h227 x5h227) ∧ (x4h227 = 40 → ∃ b_106 : Nat, sO s_h227 a0 45 = some b_106 ∧ cl b_106 = 13 ∧ xA y_h227 s_h227 b_106 33 x1h227 (fun x_109 : Int32 => ((x_109 ≤ x6h227 → wja_Mo_putInstruction_296 mc ms Post a0 y_h227 s_h227 d_h227 e_h227 x1h227 x4h227 x5h227) ∧ (¬ (x_109 ≤ x6h227) → ((x6h227 ≤ 0 → wja_Mo_putInstruction_263 mc ms Post K_227 a0 y_h227 s_h227 d_h227 e_h227 x1h227 x4h227 x5h227 x6h227 54) ∧ (¬ (x6h227 ≤ 0) → wja_Mo_putInstruction_263 mc ms Post K_227 a0 y_h227 s_h227 d_h227 e_h227 x1h227 x4h227 x5h227 x6h227 43)))))))
def wla_Mo_putInstruction_227 (mc ms : Nat) (Post : Ly → St → Nat → Nat → Prop) (a0 : Nat) (y_h227 : Ly) (s_h227 : St) (d_h227 e_h227 : Nat) (x1h227 : Int32) (x4h227 : Int32) (x5h227 : Int32) (x6h227 : Int32) : Prop := ∃ (I : Ly → St → Nat → Nat → Int32 → Int32 → Int32 → Int32 → Prop) (μ : Ly → St → Nat → Nat → Int32 → Int32 → Int32 → Int32 → Nat), I y_h227 s_h227 d_h227 e_h227 x1h227 x4h227 x5h227 x6h227 ∧ ∀ (u1 : Ly) (u2 : St) (u3 u4 : Nat) (t0 : Int32) (t1 : Int32) (t2 : Int32) (t3 : Int32), I u1 u2 u3 u4 t0 t1 t2 t3 → wba_Mo_putInstruction_227 mc ms Post (fun z1 z2 z3 z4 t0q t1q t2q t3q => I z1 z2 z3 z4 t0q t1q t2q t3q ∧ μ z1 z2 z3 z4 t0q t1q t2q t3q < μ u1 u2 u3 u4 t0 t1 t2 t3) a0 u1 u2 u3 u4 t0 t1 t2 t3
def wja_Mo_putInstruction_224 (mc ms : Nat) (Post : Ly → St → Nat → Nat → Prop) (a0 : Nat) (y_j224 : Ly) (s_j224 : St) (d_j224 e_j224 : Nat) (x1j224 : Int32) (x4j224 : Int32) (x5j224 : Int32) : Prop := (d_j224 ≤ mc ∧ e_j224 ≤ ms) ∧ wla_Mo_putInstruction_227 mc ms Post a0 y_j224 s_j224 d_j224 e_j224 x1j224 x4j224 x5j224 0
def wja_Mo_putInstruction_198 (mc ms : Nat) (Post : Ly → St → Nat → Nat → Prop) (a0 : Nat) (y_j198 : Ly) (s_j198 : St) (d_j198 e_j198 : Nat) (x1j198 : Int32) (x4j198 : Int32) (x5j198 : Int32) : Prop := (d_j198 ≤ mc ∧ e_j198 ≤ ms) ∧ ((x4j198 < 23 → wja_Mo_putInstruction_224 mc ms Post a0 y_j198 s_j198 d_j198 e_j198 x1j198 x4j198 x5j198) ∧ (¬ (x4j198 < 23) → ((39 < x4j198 → wja_Mo_putInstruction_224 mc ms Post a0 y_j198 s_j198 d_j198 e_j198 x1j198 x4j198 x5j198) ∧ (¬ (39 < x4j198) → ∃ mc_136 ms_137 : Nat, (d_j198 + mc_136 ≤ mc ∧ e_j198 + ms_137 ≤ ms) ∧ wa_Mo_put mc_136 ms_137 y_j198 (fun (y_133 : Ly) (s_132 : St) (d_134 e_135 : Nat) => (d_j198 + d_134 ≤ mc ∧ e_j198 + e_135 ≤ ms) ∧ ∃ mc_144 ms_145 : Nat, (d_j198 + d_134 + mc_144 ≤ mc ∧ e_j198 + e_135 + ms_145 ≤ ms) ∧ wa_Mo_putLabel mc_144 ms_145 y_133 (fun (y_141 : Ly) (s_140 : St) (d_142 e_143 : Nat) => (d_j198 + d_134 + d_142 ≤ mc ∧ e_j198 + e_135 + e_143 ≤ ms) ∧ wja_Mo_putInstruction_224 mc ms Post a0 y_141 s_140 (d_j198 + d_134 + d_142) (e_j198 + e_135 + e_143) x1j198 x4j198 x5j198) s_132 a0 x5j198) s_j198 a0 32))))
def wja_Mo_putInstruction_172 (mc ms : Nat) (Post : Ly → St → Nat → Nat → Prop) (a0 : Nat) (y_j172 : Ly) (s_j172 : St) (d_j172 e_j172 : Nat) (x1j172 : Int32) (x4j172 : Int32) (x5j172 : Int32) : Prop := (d_j172 ≤ mc ∧ e_j172 ≤ ms) ∧ ((¬ x4j172 = 7 → wja_Mo_putInstruction_198 mc ms Post a0 y_j172 s_j172 d_j172 e_j172 x1j172 x4j172 x5j172) ∧ (x4j172 = 7 → ∃ mc_152 ms_153 : Nat, (d_j172 + mc_152 ≤ mc ∧ e_j172 + ms_153 ≤ ms) ∧ wa_Mo_put mc_152 ms_153 y_j172 (fun (y_149 : Ly) (s_148 : St) (d_150 e_151 : Nat) => (d_j172 + d_150 ≤ mc ∧ e_j172 + e_151 ≤ ms) ∧ ∃ b_155 : Nat, sO s_148 a0 45 = some b_155 ∧ cl b_155 = 13 ∧ xA y_149 s_148 b_155 32 x1j172 (fun x_158 : Int32 => ∃ mc_164 ms_165 : Nat, (d_j172 + d_150 + mc_164 ≤ mc ∧ e_j172 + e_151 + ms_165 ≤ ms) ∧ wa_Mo_putNumber mc_164 ms_165 y_149 (fun (y_161 : Ly) (s_160 : St) (d_162 e_163 : Nat) => (d_j172 + d_150 + d_162 ≤ mc ∧ e_j172 + e_151 + e_163 ≤ ms) ∧ wja_Mo_putInstruction_198 mc ms Post a0 y_161 s_160 (d_j172 + d_150 + d_162) (e_j172 + e_151 + e_163) x1j172 x4j172 x5j172) s_148 a0 x_158)) s_j172 a0 32))
def wja_Mo_putInstruction_160 (mc ms : Nat) (Post : Ly → St → Nat → Nat → Prop) (a0 : Nat) (y_j160 : Ly) (s_j160 : St) (d_j160 e_j160 : Nat) (x1j160 : Int32) (x4j160 : Int32) (x5j160 : Int32) : Prop := (d_j160 ≤ mc ∧ e_j160 ≤ ms) ∧ ∃ mc_172 ms_173 : Nat, (d_j160 + mc_172 ≤ mc ∧ e_j160 + ms_173 ≤ ms) ∧ wa_Mo_put mc_172 ms_173 y_j160 (fun (y_169 : Ly) (s_168 : St) (d_170 e_171 : Nat) => (d_j160 + d_170 ≤ mc ∧ e_j160 + e_171 ≤ ms) ∧ ∃ mc_180 ms_181 : Nat, (d_j160 + d_170 + mc_180 ≤ mc ∧ e_j160 + e_171 + ms_181 ≤ ms) ∧ wa_Mo_putNumber mc_180 ms_181 y_169 (fun (y_177 : Ly) (s_176 : St) (d_178 e_179 : Nat) => (d_j160 + d_170 + d_178 ≤ mc ∧ e_j160 + e_171 + e_179 ≤ ms) ∧ wja_Mo_putInstruction_172 mc ms Post a0 y_177 s_176 (d_j160 + d_170 + d_178) (e_j160 + e_171 + e_179) x1j160 x4j160 x5j160) s_168 a0 x5j160) s_j160 a0 32
def wja_Mo_putInstruction_153 (mc ms : Nat) (Post : Ly → St → Nat → Nat → Prop) (a0 : Nat) (y_j153 : Ly) (s_j153 : St) (d_j153 e_j153 : Nat) (x1j153 : Int32) (x4j153 : Int32) (x5j153 : Int32) : Prop := (d_j153 ≤ mc ∧ e_j153 ≤ ms) ∧ ((¬ x4j153 = 40 → wja_Mo_putInstruction_172 mc ms Post a0 y_j153 s_j153 d_j153 e_j153 x1j153 x4j153 x5j153) ∧ (x4j153 = 40 → wja_Mo_putInstruction_160 mc ms Post a0 y_j153 s_j153 d_j153 e_j153 x1j153 x4j153 x5j153))
def wja_Mo_putInstruction_101 (mc ms : Nat) (Post : Ly → St → Nat → Nat → Prop) (a0 : Nat) (y_j101 : Ly) (s_j101 : St) (d_j101 e_j101 : Nat) (x1j101 : Int32) : Prop := (d_j101 ≤ mc ∧ e_j101 ≤ ms) ∧ ∃ b_14 : Nat, sO s_j101 a0 45 = some b_14 ∧ cl b_14 = 13 ∧ xA y_j101 s_j101 b_14 30 x1j101 (fun x_17 : Int32 => ∃ mc_23 ms_24 : Nat, (d_j101 + mc_23 ≤ mc ∧ e_j101 + ms_24 ≤ ms) ∧ wa_Mo_putName mc_23 ms_24 y_j101 (fun (y_20 : Ly) (s_19 : St) (d_21 e_22 : Nat) => (d_j101 + d_21 ≤ mc ∧ e_j101 + e_22 ≤ ms) ∧ ∃ b_26 : Nat, sO s_19 a0 45 = some b_26 ∧ cl b_26 = 13 ∧ xA y_20 s_19 b_26 31 x1j101 (fun x_29 : Int32 => ((x_17 = 1 → wja_Mo_putInstruction_160 mc ms Post a0 y_20 s_19 (d_j101 + d_21) (e_j101 + e_22) x1j101 x_17 x_29) ∧ (¬ (x_17 = 1) → ((x_17 < 3 → wja_Mo_putInstruction_153 mc ms Post a0 y_20 s_19 (d_j101 + d_21) (e_j101 + e_22) x1j101 x_17 x_29) ∧ (¬ (x_17 < 3) → ((x_17 ≤ 7 → wja_Mo_putInstruction_160 mc ms Post a0 y_20 s_19 (d_j101 + d_21) (e_j101 + e_22) x1j101 x_17 x_29) ∧ (¬ (x_17 ≤ 7) → wja_Mo_putInstruction_153 mc ms Post a0 y_20 s_19 (d_j101 + d_21) (e_j101 + e_22) x1j101 x_17 x_29)))))))) s_j101 a0 ((sV s_j101 a0 26) + x_17))
def wja_Mo_putInstruction_73 (mc ms : Nat) (Post : Ly → St → Nat → Nat → Prop) (a0 : Nat) (y_j73 : Ly) (s_j73 : St) (d_j73 e_j73 : Nat) (x1j73 : Int32) (x2j73 : Int32) : Prop := (d_j73 ≤ mc ∧ e_j73 ≤ ms) ∧ ∃ mc_10 ms_11 : Nat, (d_j73 + mc_10 ≤ mc ∧ e_j73 + ms_11 ≤ ms) ∧ wa_Mo_putWord mc_10 ms_11 y_j73 (fun (y_7 : Ly) (s_6 : St) (d_8 e_9 : Nat) => (d_j73 + d_8 ≤ mc ∧ e_j73 + e_9 ≤ ms) ∧ xA y_7 s_6 a0 96 x2j73 (fun x_13 : Int32 => ((x_13 = 0 → wja_Mo_putInstruction_101 mc ms Post a0 y_7 s_6 (d_j73 + d_8) (e_j73 + e_9) x1j73) ∧ (¬ (x_13 = 0) → ∃ mc_188 ms_189 : Nat, (d_j73 + d_8 + mc_188 ≤ mc ∧ e_j73 + e_9 + ms_189 ≤ ms) ∧ wa_Mo_putLabel mc_188 ms_189 y_7 (fun (y_185 : Ly) (s_184 : St) (d_186 e_187 : Nat) => (d_j73 + d_8 + d_186 ≤ mc ∧ e_j73 + e_9 + e_187 ≤ ms) ∧ ∃ mc_196 ms_197 : Nat, (d_j73 + d_8 + d_186 + mc_196 ≤ mc ∧ e_j73 + e_9 + e_187 + ms_197 ≤ ms) ∧ wa_Mo_putWord mc_196 ms_197 y_185 (fun (y_193 : Ly) (s_192 : St) (d_194 e_195 : Nat) => (d_j73 + d_8 + d_186 + d_194 ≤ mc ∧ e_j73 + e_9 + e_187 + e_195 ≤ ms) ∧ wja_Mo_putInstruction_101 mc ms Post a0 y_193 s_192 (d_j73 + d_8 + d_186 + d_194) (e_j73 + e_9 + e_187 + e_195) x1j73) s_184 a0 42) s_6 a0 x2j73)))) s_j73 a0 55
def wa_Mo_putInstruction (mc ms : Nat) (y : Ly) (Post : Ly → St → Nat → Nat → Prop) (σ : St) (a0 : Nat) (v1 : Int32) (v2 : Int32) : Prop := ∃ b_1 : Nat, sO σ a0 45 = some b_1 ∧ cl b_1 = 13 ∧ xA y σ b_1 34 v1 (fun x_4 : Int32 => (((x_4 - 1) < 0 → wja_Mo_putInstruction_73 mc ms Post a0 y σ 0 0 v1 v2) ∧ (¬ ((x_4 - 1) < 0) → ∃ mc_204 ms_205 : Nat, (0 + mc_204 ≤ mc ∧ 0 + ms_205 ≤ ms) ∧ wa_Mo_putWord mc_204 ms_205 y (fun (y_201 : Ly) (s_200 : St) (d_202 e_203 : Nat) => (0 + d_202 ≤ mc ∧ 0 + e_203 ≤ ms) ∧ ∃ b_207 : Nat, sO s_200 a0 45 = some b_207 ∧ cl b_207 = 13 ∧ xA y_201 s_200 b_207 38 (x_4 - 1) (fun x_210 : Int32 => ∃ mc_216 ms_217 : Nat, (0 + d_202 + mc_216 ≤ mc ∧ 0 + e_203 + ms_217 ≤ ms) ∧ wa_Mo_putKinds mc_216 ms_217 y_201 (fun (y_213 : Ly) (s_212 : St) (d_214 e_215 : Nat) => (0 + d_202 + d_214 ≤ mc ∧ 0 + e_203 + e_215 ≤ ms) ∧ ∃ mc_224 ms_225 : Nat, (0 + d_202 + d_214 + mc_224 ≤ mc ∧ 0 + e_203 + e_215 + ms_225 ≤ ms) ∧ wa_Mo_put mc_224 ms_225 y_213 (fun (y_221 : Ly) (s_220 : St) (d_222 e_223 : Nat) => (0 + d_202 + d_214 + d_222 ≤ mc ∧ 0 + e_203 + e_215 + e_223 ≤ ms) ∧ ∃ b_227 : Nat, sO s_220 a0 45 = some b_227 ∧ cl b_227 = 13 ∧ xA y_221 s_220 b_227 38 (x_4 - 1) (fun x_230 : Int32 => xA y_221 s_220 b_227 39 (x_4 - 1) (fun x_231 : Int32 => ∃ mc_237 ms_238 : Nat, (0 + d_202 + d_214 + d_222 + mc_237 ≤ mc ∧ 0 + e_203 + e_215 + e_223 + ms_238 ≤ ms) ∧ wa_Mo_putKinds mc_237 ms_238 y_221 (fun (y_234 : Ly) (s_233 : St) (d_235 e_236 : Nat) => (0 + d_202 + d_214 + d_222 + d_235 ≤ mc ∧ 0 + e_203 + e_215 + e_223 + e_236 ≤ ms) ∧ ∃ mc_245 ms_246 : Nat, (0 + d_202 + d_214 + d_222 + d_235 + mc_245 ≤ mc ∧ 0 + e_203 + e_215 + e_223 + e_236 + ms_246 ≤ ms) ∧ wa_Mo_put mc_245 ms_246 y_234 (fun (y_242 : Ly) (s_241 : St) (d_243 e_244 : Nat) => (0 + d_202 + d_214 + d_222 + d_235 + d_243 ≤ mc ∧ 0 + e_203 + e_215 + e_223 + e_236 + e_244 ≤ ms) ∧ wja_Mo_putInstruction_73 mc ms Post a0 y_242 s_241 (0 + d_202 + d_214 + d_222 + d_235 + d_243) (0 + e_203 + e_215 + e_223 + e_236 + e_244) v1 v2) s_233 a0 10) s_220 a0 (x_4 - 1) x_230 x_231))) s_212 a0 59) s_200 a0 (x_4 - 1) 0 x_210)) σ a0 53)))
set_option maxHeartbeats 4000000 in
set_option maxRecDepth 100000 in
theorem ca_Mo_putInstruction (l : Launch) (D : va_G) (g : Nat → ClassId) (F : Nat → SL) (sl : List SL) (hF : SOK F sl) (ad : Nat → Nat) (mc ms : Nat) (y : Ly) (Post : Ly → St → Nat → Nat → Prop) (σ : St) (a0 : Nat) (v1 : Int32) (v2 : Int32) (sz uz : Nat) (h_a0 : cl a0 = 14) (h : wa_Mo_putInstruction mc ms y Post σ a0 v1 v2) : Met l y_Mo_putInstruction (mw y_Mo_putInstruction b_Mo_putInstruction 7 (none)) (ra_Mo_putInstruction mc ms) (PCu g D sl [.ref (ad a0), .int v1, .int v2] sz uz (ws g ad y σ)) (va_Qv (fun (u : Ly × St × Nat × Nat) => Post u.1 u.2.1 u.2.2.1 u.2.2.2) (QU D (va_A (ws g ad y σ) sz) (fun u => ws g ad u.1 u.2.1) sz uz (fun u => u.2.2.1) (fun u => u.2.2.2)) (va_A (ws g ad y σ) sz)) mc ms (va_A (ws g ad y σ) sz) := by
  refine ofVu (by decide +kernel) (Nat.le_of_ble_eq_true rfl) ?_
  intro p e s m args below meth c A Q ls H locs G hsz hP hD hS hl hret
  subst hsz
  have hl : lv_has ls 7 [(0, .ref (ad a0)), (1, .int v1), (2, .int v2)] := hl
  have hd : 0 ≤ mc ∧ 0 ≤ ms := ⟨Nat.zero_le _, Nat.zero_le _⟩
  unfold wa_Mo_putInstruction at h
  refine lv_aload_n G.1 G.2.1 d_Mo_putInstruction_0 rfl (lv_at hl 0 rfl) ?_
  obtain ⟨b_1, e_2, c_3, h⟩ := h
  refine ugf (v := .ref (ad b_1)) G hP h_a0 iMo rfl 45 (by decide) rfl q3109 rfl (by show va_rf ((sO σ a0 45).map ad) = _; rw [e_2]; rfl) d_Mo_putInstruction_1 ?_
  refine ugfN (v := .ref (yP y b_1 34)) G hP c_3 iMw rfl 34 (by decide) rfl q2772 rfl rfl d_Mo_putInstruction_4 ?_
  refine lv_iload_n G.1 G.2.1 d_Mo_putInstruction_7 rfl (lv_at hl 1 rfl) ?_
  refine uiald G hP (kdp c_3 rfl) (typ c_3 rfl) h d_Mo_putInstruction_8 (fun x_4 h => ?_)
  refine lv_iconst (v := 1) G.1 G.2.1 d_Mo_putInstruction_9 (by decide) ?_
  refine lv_isub G.1 G.2.1 d_Mo_putInstruction_10 ?_
  refine lv_istore_n (lv' := [(3, .int (x_4 - 1)), (0, .ref (ad a0)), (1, .int v1), (2, .int v2)]) G.1 G.2.1 d_Mo_putInstruction_11 rfl hl (by decide) rfl (fun ls hl => ?_)
  refine lv_iload_n G.1 G.2.1 d_Mo_putInstruction_12 rfl (lv_at hl 0 rfl) ?_
  have J_73 : ∀ (y_j73 : Ly) (s_j73 : St) (d_j73 e_j73 : Nat) (x1j73 : Int32) (x2j73 : Int32) (H : Heap) (locs : List Loc), wja_Mo_putInstruction_73 mc ms Post a0 y_j73 s_j73 d_j73 e_j73 x1j73 x2j73 → va_P D CL (ws g ad y_j73 s_j73) H → va_D A (ws g ad y_j73 s_j73) → va_S A s.heap H locs → ∀ ls, lv_has ls 7 [(0, .ref (ad a0)), (1, .int x1j73), (2, .int x2j73)] → W p l e (ra_Mo_putInstruction mc ms) s m args below meth c H locs d_j73 e_j73 Q (F0 m 73 ls []) := by
    intro y_j73 s_j73 d_j73 e_j73 x1j73 x2j73 H locs h hP hD hS ls hl
    unfold wja_Mo_putInstruction_73 at h
    obtain ⟨hd, h⟩ := h
    refine lv_aload_n G.1 G.2.1 d_Mo_putInstruction_73 rfl (lv_at hl 0 rfl) ?_
    refine uldcw (n := 55) hF rfl G d_Mo_putInstruction_74 ?_
    obtain ⟨mc_10, ms_11, hr_12, h⟩ := h
    refine utVv (As := [.ref (sk (F 55))]) (rest := []) G hP hD hS (ca_Mo_putWord l D g F sl hF ad mc_10 ms_11 y_j73 _ s_j73 a0 55 H.size (us H) h_a0 (by decide +kernel) h) w9_Mo_putWord q4051 ⟨Nat.le_of_ble_eq_true rfl, Nat.le_of_ble_eq_true rfl⟩ rfl rfl h_a0 (q := (RMo, TMo, 131)) rfl rfl hl.1 rfl (Nat.le_of_ble_eq_true rfl) rfl hr_12 d_Mo_putInstruction_77 (fun y_7 s_6 d_8 e_9 H locs h hP hD hS => ?_)
    obtain ⟨hd, h⟩ := h
    refine lv_aload_n G.1 G.2.1 d_Mo_putInstruction_80 rfl (lv_at hl 0 rfl) ?_
    refine ugf (v := .ref (yP y_7 a0 96)) G hP h_a0 iMo rfl 96 (by decide) rfl q3160 rfl rfl d_Mo_putInstruction_81 ?_
    refine lv_iload_n G.1 G.2.1 d_Mo_putInstruction_84 rfl (lv_at hl 2 rfl) ?_
    refine uzald G hP (kdp h_a0 rfl) (typ h_a0 rfl) h d_Mo_putInstruction_85 (fun x_13 h => ?_)
    have J_101 : ∀ (y_j101 : Ly) (s_j101 : St) (d_j101 e_j101 : Nat) (x1j101 : Int32) (H : Heap) (locs : List Loc), wja_Mo_putInstruction_101 mc ms Post a0 y_j101 s_j101 d_j101 e_j101 x1j101 → va_P D CL (ws g ad y_j101 s_j101) H → va_D A (ws g ad y_j101 s_j101) → va_S A s.heap H locs → ∀ ls, lv_has ls 7 [(0, .ref (ad a0)), (1, .int x1j101)] → W p l e (ra_Mo_putInstruction mc ms) s m args below meth c H locs d_j101 e_j101 Q (F0 m 101 ls []) := by
      intro y_j101 s_j101 d_j101 e_j101 x1j101 H locs h hP hD hS ls hl
      unfold wja_Mo_putInstruction_101 at h
      obtain ⟨hd, h⟩ := h
      refine lv_aload_n G.1 G.2.1 d_Mo_putInstruction_101 rfl (lv_at hl 0 rfl) ?_
      obtain ⟨b_14, e_15, c_16, h⟩ := h
      refine ugf (v := .ref (ad b_14)) G hP h_a0 iMo rfl 45 (by decide) rfl q3109 rfl (by show va_rf ((sO s_j101 a0 45).map ad) = _; rw [e_15]; rfl) d_Mo_putInstruction_102 ?_
      refine ugfN (v := .ref (yP y_j101 b_14 30)) G hP c_16 iMw rfl 30 (by decide) rfl q2764 rfl rfl d_Mo_putInstruction_105 ?_
      refine lv_iload_n G.1 G.2.1 d_Mo_putInstruction_108 rfl (lv_at hl 1 rfl) ?_
      refine ubald G hP (kdp c_16 rfl) (typ c_16 rfl) h d_Mo_putInstruction_109 (fun x_17 h => ?_)
      refine lv_istore (lv' := [(4, .int x_17), (0, .ref (ad a0)), (1, .int x1j101)]) G.1 G.2.1 d_Mo_putInstruction_110 hl (by decide) rfl (fun ls hl => ?_)
      refine lv_aload_n G.1 G.2.1 d_Mo_putInstruction_112 rfl (lv_at hl 1 rfl) ?_
      refine lv_aload_n G.1 G.2.1 d_Mo_putInstruction_113 rfl (lv_at hl 1 rfl) ?_
      refine ugf (v := .int (sV s_j101 a0 26)) G hP h_a0 iMo rfl 26 (by decide) rfl q3090 rfl rfl d_Mo_putInstruction_114 ?_
      refine lv_iload G.1 G.2.1 d_Mo_putInstruction_117 (lv_at hl 0 rfl) ?_
      refine lv_iadd G.1 G.2.1 d_Mo_putInstruction_119 ?_
      refine W.eq (g2 := F0 m 120 ls [.int ((sV s_j101 a0 26) + x_17), .ref (ad a0)]) rfl ?_
      obtain ⟨mc_23, ms_24, hr_25, h⟩ := h
      refine uaVv (As := [.int ((sV s_j101 a0 26) + x_17)]) (rest := []) G hP hD hS (ca_Mo_putName l D g ad mc_23 ms_24 y_j101 _ s_j101 a0 ((sV s_j101 a0 26) + x_17) H.size (us H) h_a0 h) w9_Mo_putName q4062 ⟨Nat.le_of_ble_eq_true rfl, Nat.le_of_ble_eq_true rfl⟩ rfl rfl h_a0 (q := (RMo, TMo, 131)) rfl rfl hl.1 rfl (Nat.le_of_ble_eq_true rfl) rfl hr_25 d_Mo_putInstruction_120 (fun y_20 s_19 d_21 e_22 H locs h hP hD hS => ?_)
      obtain ⟨hd, h⟩ := h
      refine lv_aload_n G.1 G.2.1 d_Mo_putInstruction_123 rfl (lv_at hl 1 rfl) ?_
      obtain ⟨b_26, e_27, c_28, h⟩ := h
      refine ugf (v := .ref (ad b_26)) G hP h_a0 iMo rfl 45 (by decide) rfl q3109 rfl (by show va_rf ((sO s_19 a0 45).map ad) = _; rw [e_27]; rfl) d_Mo_putInstruction_124 ?_
      refine ugfN (v := .ref (yP y_20 b_26 31)) G hP c_28 iMw rfl 31 (by decide) rfl q2766 rfl rfl d_Mo_putInstruction_127 ?_
      refine lv_iload_n G.1 G.2.1 d_Mo_putInstruction_130 rfl (lv_at hl 2 rfl) ?_
      refine uiald G hP (kdp c_28 rfl) (typ c_28 rfl) h d_Mo_putInstruction_131 (fun x_29 h => ?_)
      refine lv_istore (lv' := [(5, .int x_29), (4, .int x_17), (0, .ref (ad a0)), (1, .int x1j101)]) G.1 G.2.1 d_Mo_putInstruction_132 hl (by decide) rfl (fun ls hl => ?_)
      refine lv_iload G.1 G.2.1 d_Mo_putInstruction_134 (lv_at hl 1 rfl) ?_
      refine lv_iconst (v := 1) G.1 G.2.1 d_Mo_putInstruction_136 (by decide) ?_
      have J_172 : ∀ (y_j172 : Ly) (s_j172 : St) (d_j172 e_j172 : Nat) (x1j172 : Int32) (x4j172 : Int32) (x5j172 : Int32) (H : Heap) (locs : List Loc), wja_Mo_putInstruction_172 mc ms Post a0 y_j172 s_j172 d_j172 e_j172 x1j172 x4j172 x5j172 → va_P D CL (ws g ad y_j172 s_j172) H → va_D A (ws g ad y_j172 s_j172) → va_S A s.heap H locs → ∀ ls, lv_has ls 7 [(0, .ref (ad a0)), (1, .int x1j172), (4, .int x4j172), (5, .int x5j172)] → W p l e (ra_Mo_putInstruction mc ms) s m args below meth c H locs d_j172 e_j172 Q (F0 m 172 ls []) := by
        intro y_j172 s_j172 d_j172 e_j172 x1j172 x4j172 x5j172 H locs h hP hD hS ls hl
        unfold wja_Mo_putInstruction_172 at h
        obtain ⟨hd, h⟩ := h
        refine lv_iload G.1 G.2.1 d_Mo_putInstruction_172 (lv_at hl 2 rfl) ?_
        refine lv_bipush (v := 7) G.1 G.2.1 d_Mo_putInstruction_174 (by decide) ?_
        have J_198 : ∀ (y_j198 : Ly) (s_j198 : St) (d_j198 e_j198 : Nat) (x1j198 : Int32) (x4j198 : Int32) (x5j198 : Int32) (H : Heap) (locs : List Loc), wja_Mo_putInstruction_198 mc ms Post a0 y_j198 s_j198 d_j198 e_j198 x1j198 x4j198 x5j198 → va_P D CL (ws g ad y_j198 s_j198) H → va_D A (ws g ad y_j198 s_j198) → va_S A s.heap H locs → ∀ ls, lv_has ls 7 [(0, .ref (ad a0)), (1, .int x1j198), (4, .int x4j198), (5, .int x5j198)] → W p l e (ra_Mo_putInstruction mc ms) s m args below meth c H locs d_j198 e_j198 Q (F0 m 198 ls []) := by
          intro y_j198 s_j198 d_j198 e_j198 x1j198 x4j198 x5j198 H locs h hP hD hS ls hl
          unfold wja_Mo_putInstruction_198 at h
          obtain ⟨hd, h⟩ := h
          refine lv_iload G.1 G.2.1 d_Mo_putInstruction_198 (lv_at hl 2 rfl) ?_
          refine lv_bipush (v := 23) G.1 G.2.1 d_Mo_putInstruction_200 (by decide) ?_
          have J_224 : ∀ (y_j224 : Ly) (s_j224 : St) (d_j224 e_j224 : Nat) (x1j224 : Int32) (x4j224 : Int32) (x5j224 : Int32) (H : Heap) (locs : List Loc), wja_Mo_putInstruction_224 mc ms Post a0 y_j224 s_j224 d_j224 e_j224 x1j224 x4j224 x5j224 → va_P D CL (ws g ad y_j224 s_j224) H → va_D A (ws g ad y_j224 s_j224) → va_S A s.heap H locs → ∀ ls, lv_has ls 7 [(0, .ref (ad a0)), (1, .int x1j224), (4, .int x4j224), (5, .int x5j224)] → W p l e (ra_Mo_putInstruction mc ms) s m args below meth c H locs d_j224 e_j224 Q (F0 m 224 ls []) := by
            intro y_j224 s_j224 d_j224 e_j224 x1j224 x4j224 x5j224 H locs h hP hD hS ls hl
            unfold wja_Mo_putInstruction_224 at h
            obtain ⟨hd, h⟩ := h
            refine lv_iconst (v := 0) G.1 G.2.1 d_Mo_putInstruction_224 (by decide) ?_
            refine lv_istore (lv' := [(6, .int 0), (0, .ref (ad a0)), (1, .int x1j224), (4, .int x4j224), (5, .int x5j224)]) G.1 G.2.1 d_Mo_putInstruction_225 hl (by decide) rfl (fun ls hl => ?_)
            unfold wla_Mo_putInstruction_227 at h
            obtain ⟨I_227, μ_227, hI_227, hB_227⟩ := h
            have L_227 : ∀ (n_227 : Nat) (y_h227 : Ly) (s_h227 : St) (d_h227 e_h227 : Nat) (x1h227 : Int32) (x4h227 : Int32) (x5h227 : Int32) (x6h227 : Int32), μ_227 y_h227 s_h227 d_h227 e_h227 x1h227 x4h227 x5h227 x6h227 < n_227 → I_227 y_h227 s_h227 d_h227 e_h227 x1h227 x4h227 x5h227 x6h227 → ∀ (H : Heap) (locs : List Loc), va_P D CL (ws g ad y_h227 s_h227) H → va_D A (ws g ad y_h227 s_h227) → va_S A s.heap H locs → ∀ ls, lv_has ls 7 [(0, .ref (ad a0)), (1, .int x1h227), (4, .int x4h227), (5, .int x5h227), (6, .int x6h227)] → W p l e (ra_Mo_putInstruction mc ms) s m args below meth c H locs d_h227 e_h227 Q (F0 m 227 ls []) := by
              intro n_227
              induction n_227 with
              | zero => intro y_h227 s_h227 d_h227 e_h227 x1h227 x4h227 x5h227 x6h227 hμ; exact absurd hμ (Nat.not_lt_zero _)
              | succ n_227 ih_227 =>
                intro y_h227 s_h227 d_h227 e_h227 x1h227 x4h227 x5h227 x6h227 hμ_227 hJ H locs hP hD hS ls hl
                obtain ⟨K_227, hK_227, h⟩ : ∃ K : Ly → St → Nat → Nat → Int32 → Int32 → Int32 → Int32 → Prop, (∀ z1 z2 z3 z4 (t0 : Int32) (t1 : Int32) (t2 : Int32) (t3 : Int32), K z1 z2 z3 z4 t0 t1 t2 t3 → I_227 z1 z2 z3 z4 t0 t1 t2 t3 ∧ μ_227 z1 z2 z3 z4 t0 t1 t2 t3 < μ_227 y_h227 s_h227 d_h227 e_h227 x1h227 x4h227 x5h227 x6h227) ∧ wba_Mo_putInstruction_227 mc ms Post K a0 y_h227 s_h227 d_h227 e_h227 x1h227 x4h227 x5h227 x6h227 := ⟨_, fun _ _ _ _ _ _ _ _ h => h, hB_227 y_h227 s_h227 d_h227 e_h227 x1h227 x4h227 x5h227 x6h227 hJ⟩
                unfold wba_Mo_putInstruction_227 at h
                obtain ⟨hd, h⟩ := h
                refine lv_iload G.1 G.2.1 d_Mo_putInstruction_227 (lv_at hl 2 rfl) ?_
                refine lv_bipush (v := 40) G.1 G.2.1 d_Mo_putInstruction_229 (by decide) ?_
                have J_296 : ∀ (y_j296 : Ly) (s_j296 : St) (d_j296 e_j296 : Nat) (x1j296 : Int32) (x4j296 : Int32) (x5j296 : Int32) (H : Heap) (locs : List Loc), wja_Mo_putInstruction_296 mc ms Post a0 y_j296 s_j296 d_j296 e_j296 x1j296 x4j296 x5j296 → va_P D CL (ws g ad y_j296 s_j296) H → va_D A (ws g ad y_j296 s_j296) → va_S A s.heap H locs → ∀ ls, lv_has ls 7 [(0, .ref (ad a0)), (1, .int x1j296), (4, .int x4j296), (5, .int x5j296)] → W p l e (ra_Mo_putInstruction mc ms) s m args below meth c H locs d_j296 e_j296 Q (F0 m 296 ls []) := by
                  intro y_j296 s_j296 d_j296 e_j296 x1j296 x4j296 x5j296 H locs h hP hD hS ls hl
                  unfold wja_Mo_putInstruction_296 at h
                  obtain ⟨hd, h⟩ := h
                  refine lv_iload G.1 G.2.1 d_Mo_putInstruction_296 (lv_at hl 2 rfl) ?_
                  refine lv_bipush (v := 41) G.1 G.2.1 d_Mo_putInstruction_298 (by decide) ?_
                  have J_329 : ∀ (y_j329 : Ly) (s_j329 : St) (d_j329 e_j329 : Nat) (x1j329 : Int32) (x4j329 : Int32) (H : Heap) (locs : List Loc), wja_Mo_putInstruction_329 mc ms Post a0 y_j329 s_j329 d_j329 e_j329 x1j329 x4j329 → va_P D CL (ws g ad y_j329 s_j329) H → va_D A (ws g ad y_j329 s_j329) → va_S A s.heap H locs → ∀ ls, lv_has ls 7 [(0, .ref (ad a0)), (1, .int x1j329), (4, .int x4j329)] → W p l e (ra_Mo_putInstruction mc ms) s m args below meth c H locs d_j329 e_j329 Q (F0 m 329 ls []) := by
                    intro y_j329 s_j329 d_j329 e_j329 x1j329 x4j329 H locs h hP hD hS ls hl
                    unfold wja_Mo_putInstruction_329 at h
                    obtain ⟨hd, h⟩ := h
                    refine lv_iload G.1 G.2.1 d_Mo_putInstruction_329 (lv_at hl 2 rfl) ?_
                    refine lv_bipush (v := 46) G.1 G.2.1 d_Mo_putInstruction_331 (by decide) ?_
                    have J_362 : ∀ (y_j362 : Ly) (s_j362 : St) (d_j362 e_j362 : Nat) (x1j362 : Int32) (x4j362 : Int32) (H : Heap) (locs : List Loc), wja_Mo_putInstruction_362 mc ms Post a0 y_j362 s_j362 d_j362 e_j362 x1j362 x4j362 → va_P D CL (ws g ad y_j362 s_j362) H → va_D A (ws g ad y_j362 s_j362) → va_S A s.heap H locs → ∀ ls, lv_has ls 7 [(0, .ref (ad a0)), (1, .int x1j362), (4, .int x4j362)] → W p l e (ra_Mo_putInstruction mc ms) s m args below meth c H locs d_j362 e_j362 Q (F0 m 362 ls []) := by
                      intro y_j362 s_j362 d_j362 e_j362 x1j362 x4j362 H locs h hP hD hS ls hl
                      unfold wja_Mo_putInstruction_362 at h
                      obtain ⟨hd, h⟩ := h
                      refine lv_iload G.1 G.2.1 d_Mo_putInstruction_362 (lv_at hl 2 rfl) ?_
                      refine lv_bipush (v := 46) G.1 G.2.1 d_Mo_putInstruction_364 (by decide) ?_
                      have J_395 : ∀ (y_j395 : Ly) (s_j395 : St) (d_j395 e_j395 : Nat) (x1j395 : Int32) (x4j395 : Int32) (H : Heap) (locs : List Loc), wja_Mo_putInstruction_395 mc ms Post a0 y_j395 s_j395 d_j395 e_j395 x1j395 x4j395 → va_P D CL (ws g ad y_j395 s_j395) H → va_D A (ws g ad y_j395 s_j395) → va_S A s.heap H locs → ∀ ls, lv_has ls 7 [(0, .ref (ad a0)), (1, .int x1j395), (4, .int x4j395)] → W p l e (ra_Mo_putInstruction mc ms) s m args below meth c H locs d_j395 e_j395 Q (F0 m 395 ls []) := by
                        intro y_j395 s_j395 d_j395 e_j395 x1j395 x4j395 H locs h hP hD hS ls hl
                        unfold wja_Mo_putInstruction_395 at h
                        obtain ⟨hd, h⟩ := h
                        refine lv_iload G.1 G.2.1 d_Mo_putInstruction_395 (lv_at hl 2 rfl) ?_
                        refine lv_bipush (v := 50) G.1 G.2.1 d_Mo_putInstruction_397 (by decide) ?_
                        have J_422 : ∀ (y_j422 : Ly) (s_j422 : St) (d_j422 e_j422 : Nat) (H : Heap) (locs : List Loc), wja_Mo_putInstruction_422 mc ms Post a0 y_j422 s_j422 d_j422 e_j422 → va_P D CL (ws g ad y_j422 s_j422) H → va_D A (ws g ad y_j422 s_j422) → va_S A s.heap H locs → ∀ ls, lv_has ls 7 [(0, .ref (ad a0))] → W p l e (ra_Mo_putInstruction mc ms) s m args below meth c H locs d_j422 e_j422 Q (F0 m 422 ls []) := by
                          intro y_j422 s_j422 d_j422 e_j422 H locs h hP hD hS ls hl
                          unfold wja_Mo_putInstruction_422 at h
                          obtain ⟨hd, h⟩ := h
                          refine lv_aload_n G.1 G.2.1 d_Mo_putInstruction_422 rfl (lv_at hl 0 rfl) ?_
                          refine lv_bipush (v := 10) G.1 G.2.1 d_Mo_putInstruction_423 (by decide) ?_
                          obtain ⟨mc_35, ms_36, hr_37, h⟩ := h
                          refine uaVv (As := [.int 10]) (rest := []) G hP hD hS (ca_Mo_put l D g ad mc_35 ms_36 y_j422 _ s_j422 a0 10 H.size (us H) h_a0 h) w9_Mo_put q4055 ⟨Nat.le_of_ble_eq_true rfl, Nat.le_of_ble_eq_true rfl⟩ rfl rfl h_a0 (q := (RMo, TMo, 131)) rfl rfl hl.1 rfl (Nat.le_of_ble_eq_true rfl) rfl hr_37 d_Mo_putInstruction_425 (fun y_32 s_31 d_33 e_34 H locs h hP hD hS => ?_)
                          have hl := lv_sub (l' := []) hl [] rfl
                          obtain ⟨hd, h⟩ := h
                          exact hret (y_32, s_31, d_j422 + d_33, e_j422 + e_34) _ _ _ _ _ ls h hP hD hS (Nat.le_refl _) (Nat.le_refl _) hd.1 hd.2 d_Mo_putInstruction_428
                        refine lv_icmp_lt (tgt := 422) G.1 G.2.1 d_Mo_putInstruction_399 (by decide) (fun c399 => ?_) (fun c399 => ?_)
                        · skip
                          have h := h.1 c399
                          exact J_422 y_j395 s_j395 d_j395 e_j395 H locs h hP hD hS ls (lv_sub hl [0] rfl)
                        · skip
                          have h := h.2 c399
                          refine lv_iload G.1 G.2.1 d_Mo_putInstruction_402 (lv_at hl 2 rfl) ?_
                          refine lv_bipush (v := 53) G.1 G.2.1 d_Mo_putInstruction_404 (by decide) ?_
                          refine lv_icmp_gt (tgt := 422) G.1 G.2.1 d_Mo_putInstruction_406 (by decide) (fun c406 => ?_) (fun c406 => ?_)
                          · skip
                            have h := h.1 c406
                            exact J_422 y_j395 s_j395 d_j395 e_j395 H locs h hP hD hS ls (lv_sub hl [0] rfl)
                          · skip
                            have h := h.2 c406
                            refine lv_aload_n G.1 G.2.1 d_Mo_putInstruction_409 rfl (lv_at hl 0 rfl) ?_
                            refine lv_aload_n G.1 G.2.1 d_Mo_putInstruction_410 rfl (lv_at hl 0 rfl) ?_
                            obtain ⟨b_38, e_39, c_40, h⟩ := h
                            refine ugf (v := .ref (ad b_38)) G hP h_a0 iMo rfl 45 (by decide) rfl q3109 rfl (by show va_rf ((sO s_j395 a0 45).map ad) = _; rw [e_39]; rfl) d_Mo_putInstruction_411 ?_
                            refine ugfN (v := .ref (yP y_j395 b_38 33)) G hP c_40 iMw rfl 33 (by decide) rfl q2770 rfl rfl d_Mo_putInstruction_414 ?_
                            refine lv_iload_n G.1 G.2.1 d_Mo_putInstruction_417 rfl (lv_at hl 1 rfl) ?_
                            refine W.eq (g2 := F0 m 418 ls [.int x1j395, .ref (yP y_j395 b_38 33), .ref (ad a0)]) rfl ?_
                            refine uiald G hP (kdp c_40 rfl) (typ c_40 rfl) h d_Mo_putInstruction_418 (fun x_41 h => ?_)
                            obtain ⟨mc_47, ms_48, hr_49, h⟩ := h
                            refine utVv (As := [.int x_41]) (rest := []) G hP hD hS (ca_Mo_putSignature l D g F sl hF ad mc_47 ms_48 y_j395 _ s_j395 a0 x_41 H.size (us H) h_a0 h) w9_Mo_putSignature q4090 ⟨Nat.le_of_ble_eq_true rfl, Nat.le_of_ble_eq_true rfl⟩ rfl rfl h_a0 (q := (RMo, TMo, 131)) rfl rfl hl.1 rfl (Nat.le_of_ble_eq_true rfl) rfl hr_49 d_Mo_putInstruction_419 (fun y_44 s_43 d_45 e_46 H locs h hP hD hS => ?_)
                            have hl := lv_sub (l' := [(0, .ref (ad a0))]) hl [0] rfl
                            obtain ⟨hd, h⟩ := h
                            exact J_422 y_44 s_43 (d_j395 + d_45) (e_j395 + e_46) H locs h hP hD hS ls (lv_sub hl [0] rfl)
                      refine lv_icmp_lt (tgt := 395) G.1 G.2.1 d_Mo_putInstruction_366 (by decide) (fun c366 => ?_) (fun c366 => ?_)
                      · skip
                        have h := h.1 c366
                        exact J_395 y_j362 s_j362 d_j362 e_j362 x1j362 x4j362 H locs h hP hD hS ls (lv_sub hl [0, 1, 2] rfl)
                      · skip
                        have h := h.2 c366
                        refine lv_iload G.1 G.2.1 d_Mo_putInstruction_369 (lv_at hl 2 rfl) ?_
                        refine lv_bipush (v := 49) G.1 G.2.1 d_Mo_putInstruction_371 (by decide) ?_
                        refine lv_icmp_gt (tgt := 395) G.1 G.2.1 d_Mo_putInstruction_373 (by decide) (fun c373 => ?_) (fun c373 => ?_)
                        · skip
                          have h := h.1 c373
                          exact J_395 y_j362 s_j362 d_j362 e_j362 x1j362 x4j362 H locs h hP hD hS ls (lv_sub hl [0, 1, 2] rfl)
                        · skip
                          have h := h.2 c373
                          refine lv_aload_n G.1 G.2.1 d_Mo_putInstruction_376 rfl (lv_at hl 0 rfl) ?_
                          refine lv_bipush (v := 32) G.1 G.2.1 d_Mo_putInstruction_377 (by decide) ?_
                          obtain ⟨mc_55, ms_56, hr_57, h⟩ := h
                          refine uaVv (As := [.int 32]) (rest := []) G hP hD hS (ca_Mo_put l D g ad mc_55 ms_56 y_j362 _ s_j362 a0 32 H.size (us H) h_a0 h) w9_Mo_put q4055 ⟨Nat.le_of_ble_eq_true rfl, Nat.le_of_ble_eq_true rfl⟩ rfl rfl h_a0 (q := (RMo, TMo, 131)) rfl rfl hl.1 rfl (Nat.le_of_ble_eq_true rfl) rfl hr_57 d_Mo_putInstruction_379 (fun y_52 s_51 d_53 e_54 H locs h hP hD hS => ?_)
                          obtain ⟨hd, h⟩ := h
                          refine lv_aload_n G.1 G.2.1 d_Mo_putInstruction_382 rfl (lv_at hl 0 rfl) ?_
                          refine lv_aload_n G.1 G.2.1 d_Mo_putInstruction_383 rfl (lv_at hl 0 rfl) ?_
                          refine W.eq (g2 := F0 m 384 ls [.ref (ad a0), .ref (ad a0)]) rfl ?_
                          obtain ⟨b_58, e_59, c_60, h⟩ := h
                          refine ugf (v := .ref (ad b_58)) G hP h_a0 iMo rfl 45 (by decide) rfl q3109 rfl (by show va_rf ((sO s_51 a0 45).map ad) = _; rw [e_59]; rfl) d_Mo_putInstruction_384 ?_
                          refine ugfN (v := .ref (yP y_52 b_58 33)) G hP c_60 iMw rfl 33 (by decide) rfl q2770 rfl rfl d_Mo_putInstruction_387 ?_
                          refine lv_iload_n G.1 G.2.1 d_Mo_putInstruction_390 rfl (lv_at hl 1 rfl) ?_
                          refine uiald G hP (kdp c_60 rfl) (typ c_60 rfl) h d_Mo_putInstruction_391 (fun x_61 h => ?_)
                          obtain ⟨mc_67, ms_68, hr_69, h⟩ := h
                          refine utVv (As := [.int x_61]) (rest := []) G hP hD hS (ca_Mo_putType l D g F sl hF ad mc_67 ms_68 y_52 _ s_51 a0 x_61 H.size (us H) h_a0 h) w9_Mo_putType q4075 ⟨Nat.le_of_ble_eq_true rfl, Nat.le_of_ble_eq_true rfl⟩ rfl rfl h_a0 (q := (RMo, TMo, 131)) rfl rfl hl.1 rfl (Nat.le_of_ble_eq_true rfl) rfl hr_69 d_Mo_putInstruction_392 (fun y_64 s_63 d_65 e_66 H locs h hP hD hS => ?_)
                          obtain ⟨hd, h⟩ := h
                          exact J_395 y_64 s_63 (d_j362 + d_53 + d_65) (e_j362 + e_54 + e_66) x1j362 x4j362 H locs h hP hD hS ls (lv_sub hl [0, 1, 2] rfl)
                    refine lv_icmp_lt (tgt := 362) G.1 G.2.1 d_Mo_putInstruction_333 (by decide) (fun c333 => ?_) (fun c333 => ?_)
                    · skip
                      have h := h.1 c333
                      exact J_362 y_j329 s_j329 d_j329 e_j329 x1j329 x4j329 H locs h hP hD hS ls (lv_sub hl [0, 1, 2] rfl)
                    · skip
                      have h := h.2 c333
                      refine lv_iload G.1 G.2.1 d_Mo_putInstruction_336 (lv_at hl 2 rfl) ?_
                      refine lv_bipush (v := 53) G.1 G.2.1 d_Mo_putInstruction_338 (by decide) ?_
                      refine lv_icmp_gt (tgt := 362) G.1 G.2.1 d_Mo_putInstruction_340 (by decide) (fun c340 => ?_) (fun c340 => ?_)
                      · skip
                        have h := h.1 c340
                        exact J_362 y_j329 s_j329 d_j329 e_j329 x1j329 x4j329 H locs h hP hD hS ls (lv_sub hl [0, 1, 2] rfl)
                      · skip
                        have h := h.2 c340
                        refine lv_aload_n G.1 G.2.1 d_Mo_putInstruction_343 rfl (lv_at hl 0 rfl) ?_
                        refine lv_bipush (v := 46) G.1 G.2.1 d_Mo_putInstruction_344 (by decide) ?_
                        obtain ⟨mc_75, ms_76, hr_77, h⟩ := h
                        refine uaVv (As := [.int 46]) (rest := []) G hP hD hS (ca_Mo_put l D g ad mc_75 ms_76 y_j329 _ s_j329 a0 46 H.size (us H) h_a0 h) w9_Mo_put q4055 ⟨Nat.le_of_ble_eq_true rfl, Nat.le_of_ble_eq_true rfl⟩ rfl rfl h_a0 (q := (RMo, TMo, 131)) rfl rfl hl.1 rfl (Nat.le_of_ble_eq_true rfl) rfl hr_77 d_Mo_putInstruction_346 (fun y_72 s_71 d_73 e_74 H locs h hP hD hS => ?_)
                        obtain ⟨hd, h⟩ := h
                        refine lv_aload_n G.1 G.2.1 d_Mo_putInstruction_349 rfl (lv_at hl 0 rfl) ?_
                        refine lv_aload_n G.1 G.2.1 d_Mo_putInstruction_350 rfl (lv_at hl 0 rfl) ?_
                        refine W.eq (g2 := F0 m 351 ls [.ref (ad a0), .ref (ad a0)]) rfl ?_
                        obtain ⟨b_78, e_79, c_80, h⟩ := h
                        refine ugf (v := .ref (ad b_78)) G hP h_a0 iMo rfl 45 (by decide) rfl q3109 rfl (by show va_rf ((sO s_71 a0 45).map ad) = _; rw [e_79]; rfl) d_Mo_putInstruction_351 ?_
                        refine ugfN (v := .ref (yP y_72 b_78 32)) G hP c_80 iMw rfl 32 (by decide) rfl q2768 rfl rfl d_Mo_putInstruction_354 ?_
                        refine lv_iload_n G.1 G.2.1 d_Mo_putInstruction_357 rfl (lv_at hl 1 rfl) ?_
                        refine uiald G hP (kdp c_80 rfl) (typ c_80 rfl) h d_Mo_putInstruction_358 (fun x_81 h => ?_)
                        obtain ⟨mc_87, ms_88, hr_89, h⟩ := h
                        refine uaVv (As := [.int x_81]) (rest := []) G hP hD hS (ca_Mo_putName l D g ad mc_87 ms_88 y_72 _ s_71 a0 x_81 H.size (us H) h_a0 h) w9_Mo_putName q4062 ⟨Nat.le_of_ble_eq_true rfl, Nat.le_of_ble_eq_true rfl⟩ rfl rfl h_a0 (q := (RMo, TMo, 131)) rfl rfl hl.1 rfl (Nat.le_of_ble_eq_true rfl) rfl hr_89 d_Mo_putInstruction_359 (fun y_84 s_83 d_85 e_86 H locs h hP hD hS => ?_)
                        obtain ⟨hd, h⟩ := h
                        exact J_362 y_84 s_83 (d_j329 + d_73 + d_85) (e_j329 + e_74 + e_86) x1j329 x4j329 H locs h hP hD hS ls (lv_sub hl [0, 1, 2] rfl)
                  have J_317 : ∀ (y_j317 : Ly) (s_j317 : St) (d_j317 e_j317 : Nat) (x1j317 : Int32) (x4j317 : Int32) (x5j317 : Int32) (H : Heap) (locs : List Loc), wja_Mo_putInstruction_317 mc ms Post a0 y_j317 s_j317 d_j317 e_j317 x1j317 x4j317 x5j317 → va_P D CL (ws g ad y_j317 s_j317) H → va_D A (ws g ad y_j317 s_j317) → va_S A s.heap H locs → ∀ ls, lv_has ls 7 [(0, .ref (ad a0)), (1, .int x1j317), (4, .int x4j317), (5, .int x5j317)] → W p l e (ra_Mo_putInstruction mc ms) s m args below meth c H locs d_j317 e_j317 Q (F0 m 317 ls []) := by
                    intro y_j317 s_j317 d_j317 e_j317 x1j317 x4j317 x5j317 H locs h hP hD hS ls hl
                    unfold wja_Mo_putInstruction_317 at h
                    obtain ⟨hd, h⟩ := h
                    refine lv_aload_n G.1 G.2.1 d_Mo_putInstruction_317 rfl (lv_at hl 0 rfl) ?_
                    refine lv_bipush (v := 32) G.1 G.2.1 d_Mo_putInstruction_318 (by decide) ?_
                    obtain ⟨mc_95, ms_96, hr_97, h⟩ := h
                    refine uaVv (As := [.int 32]) (rest := []) G hP hD hS (ca_Mo_put l D g ad mc_95 ms_96 y_j317 _ s_j317 a0 32 H.size (us H) h_a0 h) w9_Mo_put q4055 ⟨Nat.le_of_ble_eq_true rfl, Nat.le_of_ble_eq_true rfl⟩ rfl rfl h_a0 (q := (RMo, TMo, 131)) rfl rfl hl.1 rfl (Nat.le_of_ble_eq_true rfl) rfl hr_97 d_Mo_putInstruction_320 (fun y_92 s_91 d_93 e_94 H locs h hP hD hS => ?_)
                    obtain ⟨hd, h⟩ := h
                    refine lv_aload_n G.1 G.2.1 d_Mo_putInstruction_323 rfl (lv_at hl 0 rfl) ?_
                    refine lv_iload G.1 G.2.1 d_Mo_putInstruction_324 (lv_at hl 3 rfl) ?_
                    obtain ⟨mc_103, ms_104, hr_105, h⟩ := h
                    refine uaVv (As := [.int x5j317]) (rest := []) G hP hD hS (ca_Mo_putName l D g ad mc_103 ms_104 y_92 _ s_91 a0 x5j317 H.size (us H) h_a0 h) w9_Mo_putName q4062 ⟨Nat.le_of_ble_eq_true rfl, Nat.le_of_ble_eq_true rfl⟩ rfl rfl h_a0 (q := (RMo, TMo, 131)) rfl rfl hl.1 rfl (Nat.le_of_ble_eq_true rfl) rfl hr_105 d_Mo_putInstruction_326 (fun y_100 s_99 d_101 e_102 H locs h hP hD hS => ?_)
                    have hl := lv_sub (l' := [(0, .ref (ad a0)), (1, .int x1j317), (4, .int x4j317)]) hl [0, 1, 2] rfl
                    obtain ⟨hd, h⟩ := h
                    exact J_329 y_100 s_99 (d_j317 + d_93 + d_101) (e_j317 + e_94 + e_102) x1j317 x4j317 H locs h hP hD hS ls (lv_sub hl [0, 1, 2] rfl)
                  refine lv_icmp_eq (tgt := 317) G.1 G.2.1 d_Mo_putInstruction_300 (by decide) (fun c300 => ?_) (fun c300 => ?_)
                  · skip
                    have h := h.1 c300
                    exact J_317 y_j296 s_j296 d_j296 e_j296 x1j296 x4j296 x5j296 H locs h hP hD hS ls (lv_sub hl [0, 1, 2, 3] rfl)
                  · skip
                    have h := h.2 c300
                    refine lv_iload G.1 G.2.1 d_Mo_putInstruction_303 (lv_at hl 2 rfl) ?_
                    refine lv_bipush (v := 46) G.1 G.2.1 d_Mo_putInstruction_305 (by decide) ?_
                    refine lv_icmp_lt (tgt := 329) G.1 G.2.1 d_Mo_putInstruction_307 (by decide) (fun c307 => ?_) (fun c307 => ?_)
                    · skip
                      have h := h.1 c307
                      exact J_329 y_j296 s_j296 d_j296 e_j296 x1j296 x4j296 H locs h hP hD hS ls (lv_sub hl [0, 1, 2] rfl)
                    · skip
                      have h := h.2 c307
                      refine lv_iload G.1 G.2.1 d_Mo_putInstruction_310 (lv_at hl 2 rfl) ?_
                      refine lv_bipush (v := 55) G.1 G.2.1 d_Mo_putInstruction_312 (by decide) ?_
                      refine lv_icmp_gt (tgt := 329) G.1 G.2.1 d_Mo_putInstruction_314 (by decide) (fun c314 => ?_) (fun c314 => ?_)
                      · skip
                        have h := h.1 c314
                        exact J_329 y_j296 s_j296 d_j296 e_j296 x1j296 x4j296 H locs h hP hD hS ls (lv_sub hl [0, 1, 2] rfl)
                      · skip
                        have h := h.2 c314
                        exact J_317 y_j296 s_j296 d_j296 e_j296 x1j296 x4j296 x5j296 H locs h hP hD hS ls (lv_sub hl [0, 1, 2, 3] rfl)
                refine lv_icmp_ne (tgt := 296) G.1 G.2.1 d_Mo_putInstruction_231 (by decide) (fun c231 => ?_) (fun c231 => ?_)
                · skip
                  have h := h.1 c231
                  exact J_296 y_h227 s_h227 d_h227 e_h227 x1h227 x4h227 x5h227 H locs h hP hD hS ls (lv_sub hl [0, 1, 2, 3] rfl)
                · skip
                  have h := h.2 c231
                  refine lv_iload G.1 G.2.1 d_Mo_putInstruction_234 (lv_at hl 4 rfl) ?_
                  refine lv_aload_n G.1 G.2.1 d_Mo_putInstruction_236 rfl (lv_at hl 0 rfl) ?_
                  obtain ⟨b_106, e_107, c_108, h⟩ := h
                  refine ugf (v := .ref (ad b_106)) G hP h_a0 iMo rfl 45 (by decide) rfl q3109 rfl (by show va_rf ((sO s_h227 a0 45).map ad) = _; rw [e_107]; rfl) d_Mo_putInstruction_237 ?_
                  refine ugfN (v := .ref (yP y_h227 b_106 33)) G hP c_108 iMw rfl 33 (by decide) rfl q2770 rfl rfl d_Mo_putInstruction_240 ?_
                  refine lv_iload_n G.1 G.2.1 d_Mo_putInstruction_243 rfl (lv_at hl 1 rfl) ?_
                  refine uiald G hP (kdp c_108 rfl) (typ c_108 rfl) h d_Mo_putInstruction_244 (fun x_109 h => ?_)
                  refine lv_icmp_ge (tgt := 296) G.1 G.2.1 d_Mo_putInstruction_245 (by decide) (fun c245 => ?_) (fun c245 => ?_)
                  · skip
                    have h := h.1 c245
                    exact J_296 y_h227 s_h227 d_h227 e_h227 x1h227 x4h227 x5h227 H locs h hP hD hS ls (lv_sub hl [0, 1, 2, 3] rfl)
                  · skip
                    have h := h.2 c245
                    refine lv_aload_n G.1 G.2.1 d_Mo_putInstruction_248 rfl (lv_at hl 0 rfl) ?_
                    refine W.eq (g2 := F0 m 249 ls [.ref (ad a0)]) rfl ?_
                    refine lv_iload G.1 G.2.1 d_Mo_putInstruction_249 (lv_at hl 4 rfl) ?_
                    have J_263 : ∀ (y_j263 : Ly) (s_j263 : St) (d_j263 e_j263 : Nat) (x1j263 : Int32) (x4j263 : Int32) (x5j263 : Int32) (x6j263 : Int32) (z1j263 : Nat) (H : Heap) (locs : List Loc), wja_Mo_putInstruction_263 mc ms Post K_227 a0 y_j263 s_j263 d_j263 e_j263 x1j263 x4j263 x5j263 x6j263 z1j263 → va_P D CL (ws g ad y_j263 s_j263) H → va_D A (ws g ad y_j263 s_j263) → va_S A s.heap H locs → ∀ ls, lv_has ls 7 [(0, .ref (ad a0)), (1, .int x1j263), (4, .int x4j263), (5, .int x5j263), (6, .int x6j263)] → W p l e (ra_Mo_putInstruction mc ms) s m args below meth c H locs d_j263 e_j263 Q (F0 m 263 ls [.ref (sk (F z1j263)), .ref (ad a0)]) := by
                      intro y_j263 s_j263 d_j263 e_j263 x1j263 x4j263 x5j263 x6j263 z1j263 H locs h hP hD hS ls hl
                      unfold wja_Mo_putInstruction_263 at h
                      obtain ⟨hd, h⟩ := h
                      obtain ⟨c_z1j263, h⟩ := h
                      obtain ⟨mc_115, ms_116, hr_117, h⟩ := h
                      refine utVv (As := [.ref (sk (F z1j263))]) (rest := []) G hP hD hS (ca_Mo_putWord l D g F sl hF ad mc_115 ms_116 y_j263 _ s_j263 a0 z1j263 H.size (us H) h_a0 c_z1j263 h) w9_Mo_putWord q4051 ⟨Nat.le_of_ble_eq_true rfl, Nat.le_of_ble_eq_true rfl⟩ rfl rfl h_a0 (q := (RMo, TMo, 131)) rfl rfl hl.1 rfl (Nat.le_of_ble_eq_true rfl) rfl hr_117 d_Mo_putInstruction_263 (fun y_112 s_111 d_113 e_114 H locs h hP hD hS => ?_)
                      obtain ⟨hd, h⟩ := h
                      refine lv_aload_n G.1 G.2.1 d_Mo_putInstruction_266 rfl (lv_at hl 0 rfl) ?_
                      refine lv_aload_n G.1 G.2.1 d_Mo_putInstruction_267 rfl (lv_at hl 0 rfl) ?_
                      obtain ⟨b_118, e_119, c_120, h⟩ := h
                      refine ugf (v := .ref (ad b_118)) G hP h_a0 iMo rfl 45 (by decide) rfl q3109 rfl (by show va_rf ((sO s_111 a0 45).map ad) = _; rw [e_119]; rfl) d_Mo_putInstruction_268 ?_
                      refine ugfN (v := .ref (yP y_112 b_118 36)) G hP c_120 iMw rfl 36 (by decide) rfl q2775 rfl rfl d_Mo_putInstruction_271 ?_
                      refine lv_aload_n G.1 G.2.1 d_Mo_putInstruction_274 rfl (lv_at hl 0 rfl) ?_
                      refine ugf (v := .ref (ad b_118)) G hP h_a0 iMo rfl 45 (by decide) rfl q3109 rfl (by show va_rf ((sO s_111 a0 45).map ad) = _; rw [e_119]; rfl) d_Mo_putInstruction_275 ?_
                      refine ugfN (v := .ref (yP y_112 b_118 32)) G hP c_120 iMw rfl 32 (by decide) rfl q2768 rfl rfl d_Mo_putInstruction_278 ?_
                      refine lv_iload_n G.1 G.2.1 d_Mo_putInstruction_281 rfl (lv_at hl 1 rfl) ?_
                      refine uiald G hP (kdp c_120 rfl) (typ c_120 rfl) h d_Mo_putInstruction_282 (fun x_121 h => ?_)
                      refine lv_iload G.1 G.2.1 d_Mo_putInstruction_283 (lv_at hl 4 rfl) ?_
                      refine W.eq (g2 := F0 m 285 ls [.int x6j263, .int x_121, .ref (yP y_112 b_118 36), .ref (ad a0)]) rfl ?_
                      refine lv_iadd G.1 G.2.1 d_Mo_putInstruction_285 ?_
                      refine uiald G hP (kdp c_120 rfl) (typ c_120 rfl) h d_Mo_putInstruction_286 (fun x_122 h => ?_)
                      obtain ⟨mc_128, ms_129, hr_130, h⟩ := h
                      refine uaVv (As := [.int x_122]) (rest := []) G hP hD hS (ca_Mo_putLabel l D g ad mc_128 ms_129 y_112 _ s_111 a0 x_122 H.size (us H) h_a0 h) w9_Mo_putLabel q4108 ⟨Nat.le_of_ble_eq_true rfl, Nat.le_of_ble_eq_true rfl⟩ rfl rfl h_a0 (q := (RMo, TMo, 131)) rfl rfl hl.1 rfl (Nat.le_of_ble_eq_true rfl) rfl hr_130 d_Mo_putInstruction_287 (fun y_125 s_124 d_126 e_127 H locs h hP hD hS => ?_)
                      obtain ⟨hd, h⟩ := h
                      refine lv_iinc (v := x6j263 + 1) (lv' := [(6, .int (x6j263 + 1)), (0, .ref (ad a0)), (1, .int x1j263), (4, .int x4j263), (5, .int x5j263)]) G.1 G.2.1 d_Mo_putInstruction_290 hl (k := 4) rfl rfl (by decide) rfl (fun ls hl => ?_)
                      refine lv_goto (tgt := 227) G.1 G.2.1 d_Mo_putInstruction_293 (by decide) ?_
                      have h := hK_227 y_125 s_124 (d_j263 + d_113 + d_126) (e_j263 + e_114 + e_127) x1j263 x4j263 x5j263 (x6j263 + 1) h
                      exact ih_227 y_125 s_124 (d_j263 + d_113 + d_126) (e_j263 + e_114 + e_127) x1j263 x4j263 x5j263 (x6j263 + 1) (Nat.lt_of_lt_of_le h.2 (Nat.le_of_lt_succ hμ_227)) h.1 H locs hP hD hS ls (lv_sub hl [1, 2, 3, 4, 0] rfl)
                    refine lv_if_le (tgt := 260) G.1 G.2.1 d_Mo_putInstruction_251 (by decide) (fun c251 => ?_) (fun c251 => ?_)
                    · skip
                      have h := h.1 c251
                      refine uldcw (n := 54) hF rfl G d_Mo_putInstruction_260 ?_
                      exact J_263 y_h227 s_h227 d_h227 e_h227 x1h227 x4h227 x5h227 x6h227 54 H locs h hP hD hS ls (lv_sub hl [0, 1, 2, 3, 4] rfl)
                    · skip
                      have h := h.2 c251
                      refine uldcw (n := 43) hF rfl G d_Mo_putInstruction_254 ?_
                      refine lv_goto (tgt := 263) G.1 G.2.1 d_Mo_putInstruction_257 (by decide) ?_
                      exact J_263 y_h227 s_h227 d_h227 e_h227 x1h227 x4h227 x5h227 x6h227 43 H locs h hP hD hS ls (lv_sub hl [0, 1, 2, 3, 4] rfl)
            exact L_227 _ y_j224 s_j224 d_j224 e_j224 x1j224 x4j224 x5j224 0 (Nat.lt_succ_self _) hI_227 H locs hP hD hS ls (lv_sub hl [1, 2, 3, 4, 0] rfl)
          refine lv_icmp_lt (tgt := 224) G.1 G.2.1 d_Mo_putInstruction_202 (by decide) (fun c202 => ?_) (fun c202 => ?_)
          · skip
            have h := h.1 c202
            exact J_224 y_j198 s_j198 d_j198 e_j198 x1j198 x4j198 x5j198 H locs h hP hD hS ls (lv_sub hl [0, 1, 2, 3] rfl)
          · skip
            have h := h.2 c202
            refine lv_iload G.1 G.2.1 d_Mo_putInstruction_205 (lv_at hl 2 rfl) ?_
            refine lv_bipush (v := 39) G.1 G.2.1 d_Mo_putInstruction_207 (by decide) ?_
            refine lv_icmp_gt (tgt := 224) G.1 G.2.1 d_Mo_putInstruction_209 (by decide) (fun c209 => ?_) (fun c209 => ?_)
            · skip
              have h := h.1 c209
              exact J_224 y_j198 s_j198 d_j198 e_j198 x1j198 x4j198 x5j198 H locs h hP hD hS ls (lv_sub hl [0, 1, 2, 3] rfl)
            · skip
              have h := h.2 c209
              refine lv_aload_n G.1 G.2.1 d_Mo_putInstruction_212 rfl (lv_at hl 0 rfl) ?_
              refine lv_bipush (v := 32) G.1 G.2.1 d_Mo_putInstruction_213 (by decide) ?_
              obtain ⟨mc_136, ms_137, hr_138, h⟩ := h
              refine uaVv (As := [.int 32]) (rest := []) G hP hD hS (ca_Mo_put l D g ad mc_136 ms_137 y_j198 _ s_j198 a0 32 H.size (us H) h_a0 h) w9_Mo_put q4055 ⟨Nat.le_of_ble_eq_true rfl, Nat.le_of_ble_eq_true rfl⟩ rfl rfl h_a0 (q := (RMo, TMo, 131)) rfl rfl hl.1 rfl (Nat.le_of_ble_eq_true rfl) rfl hr_138 d_Mo_putInstruction_215 (fun y_133 s_132 d_134 e_135 H locs h hP hD hS => ?_)
              obtain ⟨hd, h⟩ := h
              refine lv_aload_n G.1 G.2.1 d_Mo_putInstruction_218 rfl (lv_at hl 0 rfl) ?_
              refine lv_iload G.1 G.2.1 d_Mo_putInstruction_219 (lv_at hl 3 rfl) ?_
              refine W.eq (g2 := F0 m 221 ls [.int x5j198, .ref (ad a0)]) rfl ?_
              obtain ⟨mc_144, ms_145, hr_146, h⟩ := h
              refine uaVv (As := [.int x5j198]) (rest := []) G hP hD hS (ca_Mo_putLabel l D g ad mc_144 ms_145 y_133 _ s_132 a0 x5j198 H.size (us H) h_a0 h) w9_Mo_putLabel q4108 ⟨Nat.le_of_ble_eq_true rfl, Nat.le_of_ble_eq_true rfl⟩ rfl rfl h_a0 (q := (RMo, TMo, 131)) rfl rfl hl.1 rfl (Nat.le_of_ble_eq_true rfl) rfl hr_146 d_Mo_putInstruction_221 (fun y_141 s_140 d_142 e_143 H locs h hP hD hS => ?_)
              obtain ⟨hd, h⟩ := h
              exact J_224 y_141 s_140 (d_j198 + d_134 + d_142) (e_j198 + e_135 + e_143) x1j198 x4j198 x5j198 H locs h hP hD hS ls (lv_sub hl [0, 1, 2, 3] rfl)
        refine lv_icmp_ne (tgt := 198) G.1 G.2.1 d_Mo_putInstruction_176 (by decide) (fun c176 => ?_) (fun c176 => ?_)
        · skip
          have h := h.1 c176
          exact J_198 y_j172 s_j172 d_j172 e_j172 x1j172 x4j172 x5j172 H locs h hP hD hS ls (lv_sub hl [0, 1, 2, 3] rfl)
        · skip
          have h := h.2 c176
          refine lv_aload_n G.1 G.2.1 d_Mo_putInstruction_179 rfl (lv_at hl 0 rfl) ?_
          refine lv_bipush (v := 32) G.1 G.2.1 d_Mo_putInstruction_180 (by decide) ?_
          obtain ⟨mc_152, ms_153, hr_154, h⟩ := h
          refine uaVv (As := [.int 32]) (rest := []) G hP hD hS (ca_Mo_put l D g ad mc_152 ms_153 y_j172 _ s_j172 a0 32 H.size (us H) h_a0 h) w9_Mo_put q4055 ⟨Nat.le_of_ble_eq_true rfl, Nat.le_of_ble_eq_true rfl⟩ rfl rfl h_a0 (q := (RMo, TMo, 131)) rfl rfl hl.1 rfl (Nat.le_of_ble_eq_true rfl) rfl hr_154 d_Mo_putInstruction_182 (fun y_149 s_148 d_150 e_151 H locs h hP hD hS => ?_)
          obtain ⟨hd, h⟩ := h
          refine lv_aload_n G.1 G.2.1 d_Mo_putInstruction_185 rfl (lv_at hl 0 rfl) ?_
          refine lv_aload_n G.1 G.2.1 d_Mo_putInstruction_186 rfl (lv_at hl 0 rfl) ?_
          obtain ⟨b_155, e_156, c_157, h⟩ := h
          refine ugf (v := .ref (ad b_155)) G hP h_a0 iMo rfl 45 (by decide) rfl q3109 rfl (by show va_rf ((sO s_148 a0 45).map ad) = _; rw [e_156]; rfl) d_Mo_putInstruction_187 ?_
          refine ugfN (v := .ref (yP y_149 b_155 32)) G hP c_157 iMw rfl 32 (by decide) rfl q2768 rfl rfl d_Mo_putInstruction_190 ?_
          refine lv_iload_n G.1 G.2.1 d_Mo_putInstruction_193 rfl (lv_at hl 1 rfl) ?_
          refine W.eq (g2 := F0 m 194 ls [.int x1j172, .ref (yP y_149 b_155 32), .ref (ad a0)]) rfl ?_
          refine uiald G hP (kdp c_157 rfl) (typ c_157 rfl) h d_Mo_putInstruction_194 (fun x_158 h => ?_)
          obtain ⟨mc_164, ms_165, hr_166, h⟩ := h
          refine uaVv (As := [.int x_158]) (rest := []) G hP hD hS (ca_Mo_putNumber l D g ad mc_164 ms_165 y_149 _ s_148 a0 x_158 H.size (us H) h_a0 h) w9_Mo_putNumber q4081 ⟨Nat.le_of_ble_eq_true rfl, Nat.le_of_ble_eq_true rfl⟩ rfl rfl h_a0 (q := (RMo, TMo, 131)) rfl rfl hl.1 rfl (Nat.le_of_ble_eq_true rfl) rfl hr_166 d_Mo_putInstruction_195 (fun y_161 s_160 d_162 e_163 H locs h hP hD hS => ?_)
          obtain ⟨hd, h⟩ := h
          exact J_198 y_161 s_160 (d_j172 + d_150 + d_162) (e_j172 + e_151 + e_163) x1j172 x4j172 x5j172 H locs h hP hD hS ls (lv_sub hl [0, 1, 2, 3] rfl)
      have J_160 : ∀ (y_j160 : Ly) (s_j160 : St) (d_j160 e_j160 : Nat) (x1j160 : Int32) (x4j160 : Int32) (x5j160 : Int32) (H : Heap) (locs : List Loc), wja_Mo_putInstruction_160 mc ms Post a0 y_j160 s_j160 d_j160 e_j160 x1j160 x4j160 x5j160 → va_P D CL (ws g ad y_j160 s_j160) H → va_D A (ws g ad y_j160 s_j160) → va_S A s.heap H locs → ∀ ls, lv_has ls 7 [(0, .ref (ad a0)), (1, .int x1j160), (4, .int x4j160), (5, .int x5j160)] → W p l e (ra_Mo_putInstruction mc ms) s m args below meth c H locs d_j160 e_j160 Q (F0 m 160 ls []) := by
        intro y_j160 s_j160 d_j160 e_j160 x1j160 x4j160 x5j160 H locs h hP hD hS ls hl
        unfold wja_Mo_putInstruction_160 at h
        obtain ⟨hd, h⟩ := h
        refine lv_aload_n G.1 G.2.1 d_Mo_putInstruction_160 rfl (lv_at hl 0 rfl) ?_
        refine lv_bipush (v := 32) G.1 G.2.1 d_Mo_putInstruction_161 (by decide) ?_
        obtain ⟨mc_172, ms_173, hr_174, h⟩ := h
        refine uaVv (As := [.int 32]) (rest := []) G hP hD hS (ca_Mo_put l D g ad mc_172 ms_173 y_j160 _ s_j160 a0 32 H.size (us H) h_a0 h) w9_Mo_put q4055 ⟨Nat.le_of_ble_eq_true rfl, Nat.le_of_ble_eq_true rfl⟩ rfl rfl h_a0 (q := (RMo, TMo, 131)) rfl rfl hl.1 rfl (Nat.le_of_ble_eq_true rfl) rfl hr_174 d_Mo_putInstruction_163 (fun y_169 s_168 d_170 e_171 H locs h hP hD hS => ?_)
        obtain ⟨hd, h⟩ := h
        refine lv_aload_n G.1 G.2.1 d_Mo_putInstruction_166 rfl (lv_at hl 0 rfl) ?_
        refine lv_iload G.1 G.2.1 d_Mo_putInstruction_167 (lv_at hl 3 rfl) ?_
        obtain ⟨mc_180, ms_181, hr_182, h⟩ := h
        refine uaVv (As := [.int x5j160]) (rest := []) G hP hD hS (ca_Mo_putNumber l D g ad mc_180 ms_181 y_169 _ s_168 a0 x5j160 H.size (us H) h_a0 h) w9_Mo_putNumber q4081 ⟨Nat.le_of_ble_eq_true rfl, Nat.le_of_ble_eq_true rfl⟩ rfl rfl h_a0 (q := (RMo, TMo, 131)) rfl rfl hl.1 rfl (Nat.le_of_ble_eq_true rfl) rfl hr_182 d_Mo_putInstruction_169 (fun y_177 s_176 d_178 e_179 H locs h hP hD hS => ?_)
        obtain ⟨hd, h⟩ := h
        exact J_172 y_177 s_176 (d_j160 + d_170 + d_178) (e_j160 + e_171 + e_179) x1j160 x4j160 x5j160 H locs h hP hD hS ls (lv_sub hl [0, 1, 2, 3] rfl)
      refine lv_icmp_eq (tgt := 160) G.1 G.2.1 d_Mo_putInstruction_137 (by decide) (fun c137 => ?_) (fun c137 => ?_)
      · skip
        have h := h.1 c137
        exact J_160 y_20 s_19 (d_j101 + d_21) (e_j101 + e_22) x1j101 x_17 x_29 H locs h hP hD hS ls (lv_sub hl [2, 3, 1, 0] rfl)
      · skip
        have h := h.2 c137
        refine lv_iload G.1 G.2.1 d_Mo_putInstruction_140 (lv_at hl 1 rfl) ?_
        refine lv_iconst (v := 3) G.1 G.2.1 d_Mo_putInstruction_142 (by decide) ?_
        have J_153 : ∀ (y_j153 : Ly) (s_j153 : St) (d_j153 e_j153 : Nat) (x1j153 : Int32) (x4j153 : Int32) (x5j153 : Int32) (H : Heap) (locs : List Loc), wja_Mo_putInstruction_153 mc ms Post a0 y_j153 s_j153 d_j153 e_j153 x1j153 x4j153 x5j153 → va_P D CL (ws g ad y_j153 s_j153) H → va_D A (ws g ad y_j153 s_j153) → va_S A s.heap H locs → ∀ ls, lv_has ls 7 [(0, .ref (ad a0)), (1, .int x1j153), (4, .int x4j153), (5, .int x5j153)] → W p l e (ra_Mo_putInstruction mc ms) s m args below meth c H locs d_j153 e_j153 Q (F0 m 153 ls []) := by
          intro y_j153 s_j153 d_j153 e_j153 x1j153 x4j153 x5j153 H locs h hP hD hS ls hl
          unfold wja_Mo_putInstruction_153 at h
          obtain ⟨hd, h⟩ := h
          refine lv_iload G.1 G.2.1 d_Mo_putInstruction_153 (lv_at hl 2 rfl) ?_
          refine lv_bipush (v := 40) G.1 G.2.1 d_Mo_putInstruction_155 (by decide) ?_
          refine lv_icmp_ne (tgt := 172) G.1 G.2.1 d_Mo_putInstruction_157 (by decide) (fun c157 => ?_) (fun c157 => ?_)
          · skip
            have h := h.1 c157
            exact J_172 y_j153 s_j153 d_j153 e_j153 x1j153 x4j153 x5j153 H locs h hP hD hS ls (lv_sub hl [0, 1, 2, 3] rfl)
          · skip
            have h := h.2 c157
            exact J_160 y_j153 s_j153 d_j153 e_j153 x1j153 x4j153 x5j153 H locs h hP hD hS ls (lv_sub hl [0, 1, 2, 3] rfl)
        refine W.eq (g2 := F0 m 143 ls [.int 3, .int x_17]) rfl ?_
        refine lv_icmp_lt (tgt := 153) G.1 G.2.1 d_Mo_putInstruction_143 (by decide) (fun c143 => ?_) (fun c143 => ?_)
        · skip
          have h := h.1 c143
          exact J_153 y_20 s_19 (d_j101 + d_21) (e_j101 + e_22) x1j101 x_17 x_29 H locs h hP hD hS ls (lv_sub hl [2, 3, 1, 0] rfl)
        · skip
          have h := h.2 c143
          refine lv_iload G.1 G.2.1 d_Mo_putInstruction_146 (lv_at hl 1 rfl) ?_
          refine lv_bipush (v := 7) G.1 G.2.1 d_Mo_putInstruction_148 (by decide) ?_
          refine lv_icmp_le (tgt := 160) G.1 G.2.1 d_Mo_putInstruction_150 (by decide) (fun c150 => ?_) (fun c150 => ?_)
          · skip
            have h := h.1 c150
            exact J_160 y_20 s_19 (d_j101 + d_21) (e_j101 + e_22) x1j101 x_17 x_29 H locs h hP hD hS ls (lv_sub hl [2, 3, 1, 0] rfl)
          · skip
            have h := h.2 c150
            exact J_153 y_20 s_19 (d_j101 + d_21) (e_j101 + e_22) x1j101 x_17 x_29 H locs h hP hD hS ls (lv_sub hl [2, 3, 1, 0] rfl)
    refine lv_if_eq (tgt := 101) G.1 G.2.1 d_Mo_putInstruction_86 (by decide) (fun c86 => ?_) (fun c86 => ?_)
    · skip
      have h := h.1 c86
      exact J_101 y_7 s_6 (d_j73 + d_8) (e_j73 + e_9) x1j73 H locs h hP hD hS ls (lv_sub hl [0, 1] rfl)
    · skip
      have h := h.2 c86
      refine lv_aload_n G.1 G.2.1 d_Mo_putInstruction_89 rfl (lv_at hl 0 rfl) ?_
      refine lv_iload_n G.1 G.2.1 d_Mo_putInstruction_90 rfl (lv_at hl 2 rfl) ?_
      obtain ⟨mc_188, ms_189, hr_190, h⟩ := h
      refine uaVv (As := [.int x2j73]) (rest := []) G hP hD hS (ca_Mo_putLabel l D g ad mc_188 ms_189 y_7 _ s_6 a0 x2j73 H.size (us H) h_a0 h) w9_Mo_putLabel q4108 ⟨Nat.le_of_ble_eq_true rfl, Nat.le_of_ble_eq_true rfl⟩ rfl rfl h_a0 (q := (RMo, TMo, 131)) rfl rfl hl.1 rfl (Nat.le_of_ble_eq_true rfl) rfl hr_190 d_Mo_putInstruction_91 (fun y_185 s_184 d_186 e_187 H locs h hP hD hS => ?_)
      have hl := lv_sub (l' := [(0, .ref (ad a0)), (1, .int x1j73)]) hl [0, 1] rfl
      obtain ⟨hd, h⟩ := h
      refine W.eq (g2 := F0 m 94 ls []) rfl ?_
      refine lv_aload_n G.1 G.2.1 d_Mo_putInstruction_94 rfl (lv_at hl 0 rfl) ?_
      refine uldcw (n := 42) hF rfl G d_Mo_putInstruction_95 ?_
      obtain ⟨mc_196, ms_197, hr_198, h⟩ := h
      refine utVv (As := [.ref (sk (F 42))]) (rest := []) G hP hD hS (ca_Mo_putWord l D g F sl hF ad mc_196 ms_197 y_185 _ s_184 a0 42 H.size (us H) h_a0 (by decide +kernel) h) w9_Mo_putWord q4051 ⟨Nat.le_of_ble_eq_true rfl, Nat.le_of_ble_eq_true rfl⟩ rfl rfl h_a0 (q := (RMo, TMo, 131)) rfl rfl hl.1 rfl (Nat.le_of_ble_eq_true rfl) rfl hr_198 d_Mo_putInstruction_98 (fun y_193 s_192 d_194 e_195 H locs h hP hD hS => ?_)
      obtain ⟨hd, h⟩ := h
      exact J_101 y_193 s_192 (d_j73 + d_8 + d_186 + d_194) (e_j73 + e_9 + e_187 + e_195) x1j73 H locs h hP hD hS ls (lv_sub hl [0, 1] rfl)
  refine lv_if_lt (tgt := 73) G.1 G.2.1 d_Mo_putInstruction_13 (by decide) (fun c13 => ?_) (fun c13 => ?_)
  · skip
    have h := h.1 c13
    exact J_73 y σ 0 0 v1 v2 H locs h hP hD hS ls (lv_sub hl [1, 2, 3] rfl)
  · skip
    have h := h.2 c13
    refine lv_aload_n G.1 G.2.1 d_Mo_putInstruction_16 rfl (lv_at hl 1 rfl) ?_
    refine W.eq (g2 := F0 m 17 ls [.ref (ad a0)]) rfl ?_
    refine uldcw (n := 53) hF rfl G d_Mo_putInstruction_17 ?_
    obtain ⟨mc_204, ms_205, hr_206, h⟩ := h
    refine utVv (As := [.ref (sk (F 53))]) (rest := []) G hP hD hS (ca_Mo_putWord l D g F sl hF ad mc_204 ms_205 y _ σ a0 53 H.size (us H) h_a0 (by decide +kernel) h) w9_Mo_putWord q4051 ⟨Nat.le_of_ble_eq_true rfl, Nat.le_of_ble_eq_true rfl⟩ rfl rfl h_a0 (q := (RMo, TMo, 131)) rfl rfl hl.1 rfl (Nat.le_of_ble_eq_true rfl) rfl hr_206 d_Mo_putInstruction_20 (fun y_201 s_200 d_202 e_203 H locs h hP hD hS => ?_)
    obtain ⟨hd, h⟩ := h
    refine lv_aload_n G.1 G.2.1 d_Mo_putInstruction_23 rfl (lv_at hl 1 rfl) ?_
    refine lv_iload_n G.1 G.2.1 d_Mo_putInstruction_24 rfl (lv_at hl 0 rfl) ?_
    refine lv_iconst (v := 0) G.1 G.2.1 d_Mo_putInstruction_25 (by decide) ?_
    refine lv_aload_n G.1 G.2.1 d_Mo_putInstruction_26 rfl (lv_at hl 1 rfl) ?_
    obtain ⟨b_207, e_208, c_209, h⟩ := h
    refine ugf (v := .ref (ad b_207)) G hP h_a0 iMo rfl 45 (by decide) rfl q3109 rfl (by show va_rf ((sO s_200 a0 45).map ad) = _; rw [e_208]; rfl) d_Mo_putInstruction_27 ?_
    refine ugfN (v := .ref (yP y_201 b_207 38)) G hP c_209 iMw rfl 38 (by decide) rfl q2778 rfl rfl d_Mo_putInstruction_30 ?_
    refine lv_iload_n G.1 G.2.1 d_Mo_putInstruction_33 rfl (lv_at hl 0 rfl) ?_
    refine uiald G hP (kdp c_209 rfl) (typ c_209 rfl) h d_Mo_putInstruction_34 (fun x_210 h => ?_)
    obtain ⟨mc_216, ms_217, hr_218, h⟩ := h
    refine utVv (As := [.int (x_4 - 1), .int 0, .int x_210]) (rest := []) G hP hD hS (ca_Mo_putKinds l D g F sl hF ad mc_216 ms_217 y_201 _ s_200 a0 (x_4 - 1) 0 x_210 H.size (us H) h_a0 h) w9_Mo_putKinds q4102 ⟨Nat.le_of_ble_eq_true rfl, Nat.le_of_ble_eq_true rfl⟩ rfl rfl h_a0 (q := (RMo, TMo, 131)) rfl rfl hl.1 rfl (Nat.le_of_ble_eq_true rfl) rfl hr_218 d_Mo_putInstruction_35 (fun y_213 s_212 d_214 e_215 H locs h hP hD hS => ?_)
    obtain ⟨hd, h⟩ := h
    refine lv_aload_n G.1 G.2.1 d_Mo_putInstruction_38 rfl (lv_at hl 1 rfl) ?_
    refine W.eq (g2 := F0 m 39 ls [.ref (ad a0)]) rfl ?_
    refine lv_bipush (v := 59) G.1 G.2.1 d_Mo_putInstruction_39 (by decide) ?_
    obtain ⟨mc_224, ms_225, hr_226, h⟩ := h
    refine uaVv (As := [.int 59]) (rest := []) G hP hD hS (ca_Mo_put l D g ad mc_224 ms_225 y_213 _ s_212 a0 59 H.size (us H) h_a0 h) w9_Mo_put q4055 ⟨Nat.le_of_ble_eq_true rfl, Nat.le_of_ble_eq_true rfl⟩ rfl rfl h_a0 (q := (RMo, TMo, 131)) rfl rfl hl.1 rfl (Nat.le_of_ble_eq_true rfl) rfl hr_226 d_Mo_putInstruction_41 (fun y_221 s_220 d_222 e_223 H locs h hP hD hS => ?_)
    obtain ⟨hd, h⟩ := h
    refine lv_aload_n G.1 G.2.1 d_Mo_putInstruction_44 rfl (lv_at hl 1 rfl) ?_
    refine lv_iload_n G.1 G.2.1 d_Mo_putInstruction_45 rfl (lv_at hl 0 rfl) ?_
    refine lv_aload_n G.1 G.2.1 d_Mo_putInstruction_46 rfl (lv_at hl 1 rfl) ?_
    obtain ⟨b_227, e_228, c_229, h⟩ := h
    refine ugf (v := .ref (ad b_227)) G hP h_a0 iMo rfl 45 (by decide) rfl q3109 rfl (by show va_rf ((sO s_220 a0 45).map ad) = _; rw [e_228]; rfl) d_Mo_putInstruction_47 ?_
    refine ugfN (v := .ref (yP y_221 b_227 38)) G hP c_229 iMw rfl 38 (by decide) rfl q2778 rfl rfl d_Mo_putInstruction_50 ?_
    refine lv_iload_n G.1 G.2.1 d_Mo_putInstruction_53 rfl (lv_at hl 0 rfl) ?_
    refine uiald G hP (kdp c_229 rfl) (typ c_229 rfl) h d_Mo_putInstruction_54 (fun x_230 h => ?_)
    refine lv_aload_n G.1 G.2.1 d_Mo_putInstruction_55 rfl (lv_at hl 1 rfl) ?_
    refine ugf (v := .ref (ad b_227)) G hP h_a0 iMo rfl 45 (by decide) rfl q3109 rfl (by show va_rf ((sO s_220 a0 45).map ad) = _; rw [e_228]; rfl) d_Mo_putInstruction_56 ?_
    refine ugfN (v := .ref (yP y_221 b_227 39)) G hP c_229 iMw rfl 39 (by decide) rfl q2780 rfl rfl d_Mo_putInstruction_59 ?_
    refine W.eq (g2 := F0 m 62 ls [.ref (yP y_221 b_227 39), .int x_230, .int (x_4 - 1), .ref (ad a0)]) rfl ?_
    refine lv_iload_n G.1 G.2.1 d_Mo_putInstruction_62 rfl (lv_at hl 0 rfl) ?_
    refine uiald G hP (kdp c_229 rfl) (typ c_229 rfl) h d_Mo_putInstruction_63 (fun x_231 h => ?_)
    obtain ⟨mc_237, ms_238, hr_239, h⟩ := h
    refine utVv (As := [.int (x_4 - 1), .int x_230, .int x_231]) (rest := []) G hP hD hS (ca_Mo_putKinds l D g F sl hF ad mc_237 ms_238 y_221 _ s_220 a0 (x_4 - 1) x_230 x_231 H.size (us H) h_a0 h) w9_Mo_putKinds q4102 ⟨Nat.le_of_ble_eq_true rfl, Nat.le_of_ble_eq_true rfl⟩ rfl rfl h_a0 (q := (RMo, TMo, 131)) rfl rfl hl.1 rfl (Nat.le_of_ble_eq_true rfl) rfl hr_239 d_Mo_putInstruction_64 (fun y_234 s_233 d_235 e_236 H locs h hP hD hS => ?_)
    have hl := lv_sub (l' := [(0, .ref (ad a0)), (1, .int v1), (2, .int v2)]) hl [1, 2, 3] rfl
    obtain ⟨hd, h⟩ := h
    refine lv_aload_n G.1 G.2.1 d_Mo_putInstruction_67 rfl (lv_at hl 0 rfl) ?_
    refine lv_bipush (v := 10) G.1 G.2.1 d_Mo_putInstruction_68 (by decide) ?_
    obtain ⟨mc_245, ms_246, hr_247, h⟩ := h
    refine uaVv (As := [.int 10]) (rest := []) G hP hD hS (ca_Mo_put l D g ad mc_245 ms_246 y_234 _ s_233 a0 10 H.size (us H) h_a0 h) w9_Mo_put q4055 ⟨Nat.le_of_ble_eq_true rfl, Nat.le_of_ble_eq_true rfl⟩ rfl rfl h_a0 (q := (RMo, TMo, 131)) rfl rfl hl.1 rfl (Nat.le_of_ble_eq_true rfl) rfl hr_247 d_Mo_putInstruction_70 (fun y_242 s_241 d_243 e_244 H locs h hP hD hS => ?_)
    obtain ⟨hd, h⟩ := h
    exact J_73 y_242 s_241 (0 + d_202 + d_214 + d_222 + d_235 + d_243) (0 + e_203 + e_215 + e_223 + e_236 + e_244) v1 v2 H locs h hP hD hS ls (lv_sub hl [0, 1, 2] rfl)
theorem q4069 : Cond.methodLink "ClassWorksModel" 1215 y_Mo_putFlags ∈ lw_ok := lw_okmem (List.mem_of_getElem? (i := 4069) (by decide +kernel)) rfl
theorem q4072 : Cond.code y_Mo_putFlags b_Mo_putFlags 2 (none) ∈ lw_ok := lw_okmem (List.mem_of_getElem? (i := 4072) (by decide +kernel)) rfl
theorem q4071 : Cond.instanceMethod y_Mo_putFlags ∈ lw_ok := lw_okmem (List.mem_of_getElem? (i := 4071) (by decide +kernel)) rfl
theorem q298 : Cond.selects y_Mo_putFlags.cls y_Mo_putFlags y_Mo_putFlags ∈ lw_ok := lw_okmem (List.mem_of_getElem? (i := 298) (by decide +kernel)) rfl
theorem w9_Mo_putFlags : CWv y_Mo_putFlags b_Mo_putFlags 2 (none) 1 ∧ Cond.instanceMethod y_Mo_putFlags ∈ lw_ok ∧ Cond.selects y_Mo_putFlags.cls y_Mo_putFlags y_Mo_putFlags ∈ lw_ok := ⟨⟨q4072, q348, by decide +kernel, by decide +kernel, by decide +kernel⟩, q4071, q298⟩
theorem q4097 : Cond.methodLink "ClassWorksModel" 1237 y_Mo_putInstruction ∈ lw_ok := lw_okmem (List.mem_of_getElem? (i := 4097) (by decide +kernel)) rfl
theorem q4100 : Cond.code y_Mo_putInstruction b_Mo_putInstruction 7 (none) ∈ lw_ok := lw_okmem (List.mem_of_getElem? (i := 4100) (by decide +kernel)) rfl
theorem q4099 : Cond.instanceMethod y_Mo_putInstruction ∈ lw_ok := lw_okmem (List.mem_of_getElem? (i := 4099) (by decide +kernel)) rfl
theorem q303 : Cond.selects y_Mo_putInstruction.cls y_Mo_putInstruction y_Mo_putInstruction ∈ lw_ok := lw_okmem (List.mem_of_getElem? (i := 303) (by decide +kernel)) rfl
theorem w9_Mo_putInstruction : CWv y_Mo_putInstruction b_Mo_putInstruction 7 (none) 2 ∧ Cond.instanceMethod y_Mo_putInstruction ∈ lw_ok ∧ Cond.selects y_Mo_putInstruction.cls y_Mo_putInstruction y_Mo_putInstruction ∈ lw_ok := ⟨⟨q4100, q348, by decide +kernel, by decide +kernel, by decide +kernel⟩, q4099, q303⟩
def y_Mo_putMethod : MethodName := ⟨"ClassWorksModel", "putMethod", "(I)V"⟩
abbrev b_Mo_putMethod : ByteArray := prog_14_method_165_code
theorem d_Mo_putMethod_0 : decode b_Mo_putMethod 0 = .ok (.aload_n 0, 1) := by decide +kernel
theorem d_Mo_putMethod_1 : decode b_Mo_putMethod 1 = .ok (.ldc_w 1230, 3) := by decide +kernel
theorem d_Mo_putMethod_4 : decode b_Mo_putMethod 4 = .ok (.invokevirtual 1187, 3) := by decide +kernel
theorem d_Mo_putMethod_7 : decode b_Mo_putMethod 7 = .ok (.aload_n 0, 1) := by decide +kernel
theorem d_Mo_putMethod_8 : decode b_Mo_putMethod 8 = .ok (.aload_n 0, 1) := by decide +kernel
theorem d_Mo_putMethod_9 : decode b_Mo_putMethod 9 = .ok (.getfield 522, 3) := by decide +kernel
theorem d_Mo_putMethod_12 : decode b_Mo_putMethod 12 = .ok (.getfield 453, 3) := by decide +kernel
theorem d_Mo_putMethod_15 : decode b_Mo_putMethod 15 = .ok (.iload_n 1, 1) := by decide +kernel
theorem d_Mo_putMethod_16 : decode b_Mo_putMethod 16 = .ok (.iaload, 1) := by decide +kernel
theorem d_Mo_putMethod_17 : decode b_Mo_putMethod 17 = .ok (.invokevirtual 1215, 3) := by decide +kernel
theorem d_Mo_putMethod_20 : decode b_Mo_putMethod 20 = .ok (.aload_n 0, 1) := by decide +kernel
theorem d_Mo_putMethod_21 : decode b_Mo_putMethod 21 = .ok (.aload_n 0, 1) := by decide +kernel
theorem d_Mo_putMethod_22 : decode b_Mo_putMethod 22 = .ok (.getfield 522, 3) := by decide +kernel
theorem d_Mo_putMethod_25 : decode b_Mo_putMethod 25 = .ok (.getfield 447, 3) := by decide +kernel
theorem d_Mo_putMethod_28 : decode b_Mo_putMethod 28 = .ok (.iload_n 1, 1) := by decide +kernel
theorem d_Mo_putMethod_29 : decode b_Mo_putMethod 29 = .ok (.iaload, 1) := by decide +kernel
theorem d_Mo_putMethod_30 : decode b_Mo_putMethod 30 = .ok (.invokevirtual 1182, 3) := by decide +kernel
theorem d_Mo_putMethod_33 : decode b_Mo_putMethod 33 = .ok (.aload_n 0, 1) := by decide +kernel
theorem d_Mo_putMethod_34 : decode b_Mo_putMethod 34 = .ok (.aload_n 0, 1) := by decide +kernel
theorem d_Mo_putMethod_35 : decode b_Mo_putMethod 35 = .ok (.getfield 522, 3) := by decide +kernel
theorem d_Mo_putMethod_38 : decode b_Mo_putMethod 38 = .ok (.getfield 450, 3) := by decide +kernel
theorem d_Mo_putMethod_41 : decode b_Mo_putMethod 41 = .ok (.iload_n 1, 1) := by decide +kernel
theorem d_Mo_putMethod_42 : decode b_Mo_putMethod 42 = .ok (.iaload, 1) := by decide +kernel
theorem d_Mo_putMethod_43 : decode b_Mo_putMethod 43 = .ok (.invokevirtual 1232, 3) := by decide +kernel
theorem d_Mo_putMethod_46 : decode b_Mo_putMethod 46 = .ok (.aload_n 0, 1) := by decide +kernel
theorem d_Mo_putMethod_47 : decode b_Mo_putMethod 47 = .ok (.bipush 10, 2) := by decide +kernel
theorem d_Mo_putMethod_49 : decode b_Mo_putMethod 49 = .ok (.invokevirtual 1179, 3) := by decide +kernel
theorem d_Mo_putMethod_52 : decode b_Mo_putMethod 52 = .ok (.aload_n 0, 1) := by decide +kernel
theorem d_Mo_putMethod_53 : decode b_Mo_putMethod 53 = .ok (.getfield 522, 3) := by decide +kernel
theorem d_Mo_putMethod_56 : decode b_Mo_putMethod 56 = .ok (.getfield 453, 3) := by decide +kernel
theorem d_Mo_putMethod_59 : decode b_Mo_putMethod 59 = .ok (.iload_n 1, 1) := by decide +kernel
theorem d_Mo_putMethod_60 : decode b_Mo_putMethod 60 = .ok (.iaload, 1) := by decide +kernel
theorem d_Mo_putMethod_61 : decode b_Mo_putMethod 61 = .ok (.bipush 8, 2) := by decide +kernel
theorem d_Mo_putMethod_63 : decode b_Mo_putMethod 63 = .ok (.iand, 1) := by decide +kernel
theorem d_Mo_putMethod_64 : decode b_Mo_putMethod 64 = .ok (.ifCond .eq 4, 3) := by decide +kernel
theorem d_Mo_putMethod_67 : decode b_Mo_putMethod 67 = .ok (.return_, 1) := by decide +kernel
theorem d_Mo_putMethod_68 : decode b_Mo_putMethod 68 = .ok (.aload_n 0, 1) := by decide +kernel
theorem d_Mo_putMethod_69 : decode b_Mo_putMethod 69 = .ok (.ldc_w 1235, 3) := by decide +kernel
theorem d_Mo_putMethod_72 : decode b_Mo_putMethod 72 = .ok (.invokevirtual 1187, 3) := by decide +kernel
theorem d_Mo_putMethod_75 : decode b_Mo_putMethod 75 = .ok (.aload_n 0, 1) := by decide +kernel
theorem d_Mo_putMethod_76 : decode b_Mo_putMethod 76 = .ok (.aload_n 0, 1) := by decide +kernel
theorem d_Mo_putMethod_77 : decode b_Mo_putMethod 77 = .ok (.getfield 522, 3) := by decide +kernel
theorem d_Mo_putMethod_80 : decode b_Mo_putMethod 80 = .ok (.getfield 456, 3) := by decide +kernel
theorem d_Mo_putMethod_83 : decode b_Mo_putMethod 83 = .ok (.iload_n 1, 1) := by decide +kernel
theorem d_Mo_putMethod_84 : decode b_Mo_putMethod 84 = .ok (.iaload, 1) := by decide +kernel
theorem d_Mo_putMethod_85 : decode b_Mo_putMethod 85 = .ok (.invokevirtual 1220, 3) := by decide +kernel
theorem d_Mo_putMethod_88 : decode b_Mo_putMethod 88 = .ok (.aload_n 0, 1) := by decide +kernel
theorem d_Mo_putMethod_89 : decode b_Mo_putMethod 89 = .ok (.bipush 32, 2) := by decide +kernel
theorem d_Mo_putMethod_91 : decode b_Mo_putMethod 91 = .ok (.invokevirtual 1179, 3) := by decide +kernel
theorem d_Mo_putMethod_94 : decode b_Mo_putMethod 94 = .ok (.aload_n 0, 1) := by decide +kernel
theorem d_Mo_putMethod_95 : decode b_Mo_putMethod 95 = .ok (.aload_n 0, 1) := by decide +kernel
theorem d_Mo_putMethod_96 : decode b_Mo_putMethod 96 = .ok (.getfield 522, 3) := by decide +kernel
theorem d_Mo_putMethod_99 : decode b_Mo_putMethod 99 = .ok (.getfield 459, 3) := by decide +kernel
theorem d_Mo_putMethod_102 : decode b_Mo_putMethod 102 = .ok (.iload_n 1, 1) := by decide +kernel
theorem d_Mo_putMethod_103 : decode b_Mo_putMethod 103 = .ok (.iaload, 1) := by decide +kernel
theorem d_Mo_putMethod_104 : decode b_Mo_putMethod 104 = .ok (.invokevirtual 1220, 3) := by decide +kernel
theorem d_Mo_putMethod_107 : decode b_Mo_putMethod 107 = .ok (.aload_n 0, 1) := by decide +kernel
theorem d_Mo_putMethod_108 : decode b_Mo_putMethod 108 = .ok (.bipush 10, 2) := by decide +kernel
theorem d_Mo_putMethod_110 : decode b_Mo_putMethod 110 = .ok (.invokevirtual 1179, 3) := by decide +kernel
theorem d_Mo_putMethod_113 : decode b_Mo_putMethod 113 = .ok (.aload_n 0, 1) := by decide +kernel
theorem d_Mo_putMethod_114 : decode b_Mo_putMethod 114 = .ok (.getfield 522, 3) := by decide +kernel
theorem d_Mo_putMethod_117 : decode b_Mo_putMethod 117 = .ok (.getfield 462, 3) := by decide +kernel
theorem d_Mo_putMethod_120 : decode b_Mo_putMethod 120 = .ok (.iload_n 1, 1) := by decide +kernel
theorem d_Mo_putMethod_121 : decode b_Mo_putMethod 121 = .ok (.iaload, 1) := by decide +kernel
theorem d_Mo_putMethod_122 : decode b_Mo_putMethod 122 = .ok (.istore_n 2, 1) := by decide +kernel
theorem d_Mo_putMethod_123 : decode b_Mo_putMethod 123 = .ok (.aload_n 0, 1) := by decide +kernel
theorem d_Mo_putMethod_124 : decode b_Mo_putMethod 124 = .ok (.getfield 522, 3) := by decide +kernel
theorem d_Mo_putMethod_127 : decode b_Mo_putMethod 127 = .ok (.getfield 465, 3) := by decide +kernel
theorem d_Mo_putMethod_130 : decode b_Mo_putMethod 130 = .ok (.iload_n 1, 1) := by decide +kernel
theorem d_Mo_putMethod_131 : decode b_Mo_putMethod 131 = .ok (.iaload, 1) := by decide +kernel
theorem d_Mo_putMethod_132 : decode b_Mo_putMethod 132 = .ok (.istore_n 3, 1) := by decide +kernel
theorem d_Mo_putMethod_133 : decode b_Mo_putMethod 133 = .ok (.bipush 8, 2) := by decide +kernel
theorem d_Mo_putMethod_135 : decode b_Mo_putMethod 135 = .ok (.iload_n 1, 1) := by decide +kernel
theorem d_Mo_putMethod_136 : decode b_Mo_putMethod 136 = .ok (.imul, 1) := by decide +kernel
theorem d_Mo_putMethod_137 : decode b_Mo_putMethod 137 = .ok (.aload_n 0, 1) := by decide +kernel
theorem d_Mo_putMethod_138 : decode b_Mo_putMethod 138 = .ok (.getfield 522, 3) := by decide +kernel
theorem d_Mo_putMethod_141 : decode b_Mo_putMethod 141 = .ok (.getfield 468, 3) := by decide +kernel
theorem d_Mo_putMethod_144 : decode b_Mo_putMethod 144 = .ok (.iload_n 1, 1) := by decide +kernel
theorem d_Mo_putMethod_145 : decode b_Mo_putMethod 145 = .ok (.iaload, 1) := by decide +kernel
theorem d_Mo_putMethod_146 : decode b_Mo_putMethod 146 = .ok (.iadd, 1) := by decide +kernel
theorem d_Mo_putMethod_147 : decode b_Mo_putMethod 147 = .ok (.istore 4, 2) := by decide +kernel
theorem d_Mo_putMethod_149 : decode b_Mo_putMethod 149 = .ok (.iconst 0, 1) := by decide +kernel
theorem d_Mo_putMethod_150 : decode b_Mo_putMethod 150 = .ok (.istore 5, 2) := by decide +kernel
theorem d_Mo_putMethod_152 : decode b_Mo_putMethod 152 = .ok (.iload 5, 2) := by decide +kernel
theorem d_Mo_putMethod_154 : decode b_Mo_putMethod 154 = .ok (.iload_n 3, 1) := by decide +kernel
theorem d_Mo_putMethod_155 : decode b_Mo_putMethod 155 = .ok (.if_icmp .gt 17, 3) := by decide +kernel
theorem d_Mo_putMethod_158 : decode b_Mo_putMethod 158 = .ok (.aload_n 0, 1) := by decide +kernel
theorem d_Mo_putMethod_159 : decode b_Mo_putMethod 159 = .ok (.getfield 326, 3) := by decide +kernel
theorem d_Mo_putMethod_162 : decode b_Mo_putMethod 162 = .ok (.iload 5, 2) := by decide +kernel
theorem d_Mo_putMethod_164 : decode b_Mo_putMethod 164 = .ok (.iconst 0, 1) := by decide +kernel
theorem d_Mo_putMethod_165 : decode b_Mo_putMethod 165 = .ok (.bastore, 1) := by decide +kernel
theorem d_Mo_putMethod_166 : decode b_Mo_putMethod 166 = .ok (.iinc 5 1, 3) := by decide +kernel
theorem d_Mo_putMethod_169 : decode b_Mo_putMethod 169 = .ok (.goto (-17), 3) := by decide +kernel
theorem d_Mo_putMethod_172 : decode b_Mo_putMethod 172 = .ok (.iload_n 2, 1) := by decide +kernel
theorem d_Mo_putMethod_173 : decode b_Mo_putMethod 173 = .ok (.istore 5, 2) := by decide +kernel
theorem d_Mo_putMethod_175 : decode b_Mo_putMethod 175 = .ok (.iload 5, 2) := by decide +kernel
theorem d_Mo_putMethod_177 : decode b_Mo_putMethod 177 = .ok (.iload_n 2, 1) := by decide +kernel
theorem d_Mo_putMethod_178 : decode b_Mo_putMethod 178 = .ok (.iload_n 3, 1) := by decide +kernel
theorem d_Mo_putMethod_179 : decode b_Mo_putMethod 179 = .ok (.iadd, 1) := by decide +kernel
theorem d_Mo_putMethod_180 : decode b_Mo_putMethod 180 = .ok (.if_icmp .ge 109, 3) := by decide +kernel
theorem d_Mo_putMethod_183 : decode b_Mo_putMethod 183 = .ok (.aload_n 0, 1) := by decide +kernel
theorem d_Mo_putMethod_184 : decode b_Mo_putMethod 184 = .ok (.getfield 522, 3) := by decide +kernel
theorem d_Mo_putMethod_187 : decode b_Mo_putMethod 187 = .ok (.getfield 674, 3) := by decide +kernel
theorem d_Mo_putMethod_190 : decode b_Mo_putMethod 190 = .ok (.iload 5, 2) := by decide +kernel
theorem d_Mo_putMethod_192 : decode b_Mo_putMethod 192 = .ok (.baload, 1) := by decide +kernel
theorem d_Mo_putMethod_193 : decode b_Mo_putMethod 193 = .ok (.istore 6, 2) := by decide +kernel
theorem d_Mo_putMethod_195 : decode b_Mo_putMethod 195 = .ok (.iload 6, 2) := by decide +kernel
theorem d_Mo_putMethod_197 : decode b_Mo_putMethod 197 = .ok (.bipush 23, 2) := by decide +kernel
theorem d_Mo_putMethod_199 : decode b_Mo_putMethod 199 = .ok (.if_icmp .lt 26, 3) := by decide +kernel
theorem d_Mo_putMethod_202 : decode b_Mo_putMethod 202 = .ok (.iload 6, 2) := by decide +kernel
theorem d_Mo_putMethod_204 : decode b_Mo_putMethod 204 = .ok (.bipush 39, 2) := by decide +kernel
theorem d_Mo_putMethod_206 : decode b_Mo_putMethod 206 = .ok (.if_icmp .gt 19, 3) := by decide +kernel
theorem d_Mo_putMethod_209 : decode b_Mo_putMethod 209 = .ok (.aload_n 0, 1) := by decide +kernel
theorem d_Mo_putMethod_210 : decode b_Mo_putMethod 210 = .ok (.getfield 326, 3) := by decide +kernel
theorem d_Mo_putMethod_213 : decode b_Mo_putMethod 213 = .ok (.aload_n 0, 1) := by decide +kernel
theorem d_Mo_putMethod_214 : decode b_Mo_putMethod 214 = .ok (.getfield 522, 3) := by decide +kernel
theorem d_Mo_putMethod_217 : decode b_Mo_putMethod 217 = .ok (.getfield 677, 3) := by decide +kernel
theorem d_Mo_putMethod_220 : decode b_Mo_putMethod 220 = .ok (.iload 5, 2) := by decide +kernel
theorem d_Mo_putMethod_222 : decode b_Mo_putMethod 222 = .ok (.iaload, 1) := by decide +kernel
theorem d_Mo_putMethod_223 : decode b_Mo_putMethod 223 = .ok (.iconst 1, 1) := by decide +kernel
theorem d_Mo_putMethod_224 : decode b_Mo_putMethod 224 = .ok (.bastore, 1) := by decide +kernel
theorem d_Mo_putMethod_225 : decode b_Mo_putMethod 225 = .ok (.iconst 0, 1) := by decide +kernel
theorem d_Mo_putMethod_226 : decode b_Mo_putMethod 226 = .ok (.istore 7, 2) := by decide +kernel
theorem d_Mo_putMethod_228 : decode b_Mo_putMethod 228 = .ok (.iload 6, 2) := by decide +kernel
theorem d_Mo_putMethod_230 : decode b_Mo_putMethod 230 = .ok (.bipush 40, 2) := by decide +kernel
theorem d_Mo_putMethod_232 : decode b_Mo_putMethod 232 = .ok (.if_icmp .ne 51, 3) := by decide +kernel
theorem d_Mo_putMethod_235 : decode b_Mo_putMethod 235 = .ok (.iload 7, 2) := by decide +kernel
theorem d_Mo_putMethod_237 : decode b_Mo_putMethod 237 = .ok (.aload_n 0, 1) := by decide +kernel
theorem d_Mo_putMethod_238 : decode b_Mo_putMethod 238 = .ok (.getfield 522, 3) := by decide +kernel
theorem d_Mo_putMethod_241 : decode b_Mo_putMethod 241 = .ok (.getfield 683, 3) := by decide +kernel
theorem d_Mo_putMethod_244 : decode b_Mo_putMethod 244 = .ok (.iload 5, 2) := by decide +kernel
theorem d_Mo_putMethod_246 : decode b_Mo_putMethod 246 = .ok (.iaload, 1) := by decide +kernel
theorem d_Mo_putMethod_247 : decode b_Mo_putMethod 247 = .ok (.if_icmp .ge 36, 3) := by decide +kernel
theorem d_Mo_putMethod_250 : decode b_Mo_putMethod 250 = .ok (.aload_n 0, 1) := by decide +kernel
theorem d_Mo_putMethod_251 : decode b_Mo_putMethod 251 = .ok (.getfield 326, 3) := by decide +kernel
theorem d_Mo_putMethod_254 : decode b_Mo_putMethod 254 = .ok (.aload_n 0, 1) := by decide +kernel
theorem d_Mo_putMethod_255 : decode b_Mo_putMethod 255 = .ok (.getfield 522, 3) := by decide +kernel
theorem d_Mo_putMethod_258 : decode b_Mo_putMethod 258 = .ok (.getfield 689, 3) := by decide +kernel
theorem d_Mo_putMethod_261 : decode b_Mo_putMethod 261 = .ok (.aload_n 0, 1) := by decide +kernel
theorem d_Mo_putMethod_262 : decode b_Mo_putMethod 262 = .ok (.getfield 522, 3) := by decide +kernel
theorem d_Mo_putMethod_265 : decode b_Mo_putMethod 265 = .ok (.getfield 680, 3) := by decide +kernel
theorem d_Mo_putMethod_268 : decode b_Mo_putMethod 268 = .ok (.iload 5, 2) := by decide +kernel
theorem d_Mo_putMethod_270 : decode b_Mo_putMethod 270 = .ok (.iaload, 1) := by decide +kernel
theorem d_Mo_putMethod_271 : decode b_Mo_putMethod 271 = .ok (.iload 7, 2) := by decide +kernel
theorem d_Mo_putMethod_273 : decode b_Mo_putMethod 273 = .ok (.iadd, 1) := by decide +kernel
theorem d_Mo_putMethod_274 : decode b_Mo_putMethod 274 = .ok (.iaload, 1) := by decide +kernel
theorem d_Mo_putMethod_275 : decode b_Mo_putMethod 275 = .ok (.iconst 1, 1) := by decide +kernel
theorem d_Mo_putMethod_276 : decode b_Mo_putMethod 276 = .ok (.bastore, 1) := by decide +kernel
theorem d_Mo_putMethod_277 : decode b_Mo_putMethod 277 = .ok (.iinc 7 1, 3) := by decide +kernel
theorem d_Mo_putMethod_280 : decode b_Mo_putMethod 280 = .ok (.goto (-52), 3) := by decide +kernel
theorem d_Mo_putMethod_283 : decode b_Mo_putMethod 283 = .ok (.iinc 5 1, 3) := by decide +kernel
theorem d_Mo_putMethod_286 : decode b_Mo_putMethod 286 = .ok (.goto (-111), 3) := by decide +kernel
theorem d_Mo_putMethod_289 : decode b_Mo_putMethod 289 = .ok (.bipush 8, 2) := by decide +kernel
theorem d_Mo_putMethod_291 : decode b_Mo_putMethod 291 = .ok (.iload_n 1, 1) := by decide +kernel
theorem d_Mo_putMethod_292 : decode b_Mo_putMethod 292 = .ok (.imul, 1) := by decide +kernel
theorem d_Mo_putMethod_293 : decode b_Mo_putMethod 293 = .ok (.istore 5, 2) := by decide +kernel
theorem d_Mo_putMethod_295 : decode b_Mo_putMethod 295 = .ok (.iload 5, 2) := by decide +kernel
theorem d_Mo_putMethod_297 : decode b_Mo_putMethod 297 = .ok (.iload 4, 2) := by decide +kernel
theorem d_Mo_putMethod_299 : decode b_Mo_putMethod 299 = .ok (.if_icmp .ge 57, 3) := by decide +kernel
theorem d_Mo_putMethod_302 : decode b_Mo_putMethod 302 = .ok (.aload_n 0, 1) := by decide +kernel
theorem d_Mo_putMethod_303 : decode b_Mo_putMethod 303 = .ok (.getfield 326, 3) := by decide +kernel
theorem d_Mo_putMethod_306 : decode b_Mo_putMethod 306 = .ok (.aload_n 0, 1) := by decide +kernel
theorem d_Mo_putMethod_307 : decode b_Mo_putMethod 307 = .ok (.getfield 522, 3) := by decide +kernel
theorem d_Mo_putMethod_310 : decode b_Mo_putMethod 310 = .ok (.getfield 713, 3) := by decide +kernel
theorem d_Mo_putMethod_313 : decode b_Mo_putMethod 313 = .ok (.iload 5, 2) := by decide +kernel
theorem d_Mo_putMethod_315 : decode b_Mo_putMethod 315 = .ok (.iaload, 1) := by decide +kernel
theorem d_Mo_putMethod_316 : decode b_Mo_putMethod 316 = .ok (.iconst 1, 1) := by decide +kernel
theorem d_Mo_putMethod_317 : decode b_Mo_putMethod 317 = .ok (.bastore, 1) := by decide +kernel
theorem d_Mo_putMethod_318 : decode b_Mo_putMethod 318 = .ok (.aload_n 0, 1) := by decide +kernel
theorem d_Mo_putMethod_319 : decode b_Mo_putMethod 319 = .ok (.getfield 326, 3) := by decide +kernel
theorem d_Mo_putMethod_322 : decode b_Mo_putMethod 322 = .ok (.aload_n 0, 1) := by decide +kernel
theorem d_Mo_putMethod_323 : decode b_Mo_putMethod 323 = .ok (.getfield 522, 3) := by decide +kernel
theorem d_Mo_putMethod_326 : decode b_Mo_putMethod 326 = .ok (.getfield 716, 3) := by decide +kernel
theorem d_Mo_putMethod_329 : decode b_Mo_putMethod 329 = .ok (.iload 5, 2) := by decide +kernel
theorem d_Mo_putMethod_331 : decode b_Mo_putMethod 331 = .ok (.iaload, 1) := by decide +kernel
theorem d_Mo_putMethod_332 : decode b_Mo_putMethod 332 = .ok (.iconst 1, 1) := by decide +kernel
theorem d_Mo_putMethod_333 : decode b_Mo_putMethod 333 = .ok (.bastore, 1) := by decide +kernel
theorem d_Mo_putMethod_334 : decode b_Mo_putMethod 334 = .ok (.aload_n 0, 1) := by decide +kernel
theorem d_Mo_putMethod_335 : decode b_Mo_putMethod 335 = .ok (.getfield 326, 3) := by decide +kernel
theorem d_Mo_putMethod_338 : decode b_Mo_putMethod 338 = .ok (.aload_n 0, 1) := by decide +kernel
theorem d_Mo_putMethod_339 : decode b_Mo_putMethod 339 = .ok (.getfield 522, 3) := by decide +kernel
theorem d_Mo_putMethod_342 : decode b_Mo_putMethod 342 = .ok (.getfield 719, 3) := by decide +kernel
theorem d_Mo_putMethod_345 : decode b_Mo_putMethod 345 = .ok (.iload 5, 2) := by decide +kernel
theorem d_Mo_putMethod_347 : decode b_Mo_putMethod 347 = .ok (.iaload, 1) := by decide +kernel
theorem d_Mo_putMethod_348 : decode b_Mo_putMethod 348 = .ok (.iconst 1, 1) := by decide +kernel
theorem d_Mo_putMethod_349 : decode b_Mo_putMethod 349 = .ok (.bastore, 1) := by decide +kernel
theorem d_Mo_putMethod_350 : decode b_Mo_putMethod 350 = .ok (.iinc 5 1, 3) := by decide +kernel
theorem d_Mo_putMethod_353 : decode b_Mo_putMethod 353 = .ok (.goto (-58), 3) := by decide +kernel
theorem d_Mo_putMethod_356 : decode b_Mo_putMethod 356 = .ok (.iconst 0, 1) := by decide +kernel
theorem d_Mo_putMethod_357 : decode b_Mo_putMethod 357 = .ok (.istore 5, 2) := by decide +kernel
theorem d_Mo_putMethod_359 : decode b_Mo_putMethod 359 = .ok (.iload 5, 2) := by decide +kernel
theorem d_Mo_putMethod_361 : decode b_Mo_putMethod 361 = .ok (.iload_n 3, 1) := by decide +kernel
theorem d_Mo_putMethod_362 : decode b_Mo_putMethod 362 = .ok (.if_icmp .ge 19, 3) := by decide +kernel
theorem d_Mo_putMethod_365 : decode b_Mo_putMethod 365 = .ok (.aload_n 0, 1) := by decide +kernel
theorem d_Mo_putMethod_366 : decode b_Mo_putMethod 366 = .ok (.iload_n 2, 1) := by decide +kernel
theorem d_Mo_putMethod_367 : decode b_Mo_putMethod 367 = .ok (.iload 5, 2) := by decide +kernel
theorem d_Mo_putMethod_369 : decode b_Mo_putMethod 369 = .ok (.iadd, 1) := by decide +kernel
theorem d_Mo_putMethod_370 : decode b_Mo_putMethod 370 = .ok (.iload 5, 2) := by decide +kernel
theorem d_Mo_putMethod_372 : decode b_Mo_putMethod 372 = .ok (.invokevirtual 1237, 3) := by decide +kernel
theorem d_Mo_putMethod_375 : decode b_Mo_putMethod 375 = .ok (.iinc 5 1, 3) := by decide +kernel
theorem d_Mo_putMethod_378 : decode b_Mo_putMethod 378 = .ok (.goto (-19), 3) := by decide +kernel
theorem d_Mo_putMethod_381 : decode b_Mo_putMethod 381 = .ok (.aload_n 0, 1) := by decide +kernel
theorem d_Mo_putMethod_382 : decode b_Mo_putMethod 382 = .ok (.getfield 326, 3) := by decide +kernel
theorem d_Mo_putMethod_385 : decode b_Mo_putMethod 385 = .ok (.iload_n 3, 1) := by decide +kernel
theorem d_Mo_putMethod_386 : decode b_Mo_putMethod 386 = .ok (.baload, 1) := by decide +kernel
theorem d_Mo_putMethod_387 : decode b_Mo_putMethod 387 = .ok (.ifCond .eq 27, 3) := by decide +kernel
theorem d_Mo_putMethod_390 : decode b_Mo_putMethod 390 = .ok (.aload_n 0, 1) := by decide +kernel
theorem d_Mo_putMethod_391 : decode b_Mo_putMethod 391 = .ok (.ldc_w 1240, 3) := by decide +kernel
theorem d_Mo_putMethod_394 : decode b_Mo_putMethod 394 = .ok (.invokevirtual 1187, 3) := by decide +kernel
theorem d_Mo_putMethod_397 : decode b_Mo_putMethod 397 = .ok (.aload_n 0, 1) := by decide +kernel
theorem d_Mo_putMethod_398 : decode b_Mo_putMethod 398 = .ok (.iload_n 3, 1) := by decide +kernel
theorem d_Mo_putMethod_399 : decode b_Mo_putMethod 399 = .ok (.invokevirtual 1242, 3) := by decide +kernel
theorem d_Mo_putMethod_402 : decode b_Mo_putMethod 402 = .ok (.aload_n 0, 1) := by decide +kernel
theorem d_Mo_putMethod_403 : decode b_Mo_putMethod 403 = .ok (.bipush 58, 2) := by decide +kernel
theorem d_Mo_putMethod_405 : decode b_Mo_putMethod 405 = .ok (.invokevirtual 1179, 3) := by decide +kernel
theorem d_Mo_putMethod_408 : decode b_Mo_putMethod 408 = .ok (.aload_n 0, 1) := by decide +kernel
theorem d_Mo_putMethod_409 : decode b_Mo_putMethod 409 = .ok (.bipush 10, 2) := by decide +kernel
theorem d_Mo_putMethod_411 : decode b_Mo_putMethod 411 = .ok (.invokevirtual 1179, 3) := by decide +kernel
theorem d_Mo_putMethod_414 : decode b_Mo_putMethod 414 = .ok (.bipush 8, 2) := by decide +kernel
theorem d_Mo_putMethod_416 : decode b_Mo_putMethod 416 = .ok (.iload_n 1, 1) := by decide +kernel
theorem d_Mo_putMethod_417 : decode b_Mo_putMethod 417 = .ok (.imul, 1) := by decide +kernel
theorem d_Mo_putMethod_418 : decode b_Mo_putMethod 418 = .ok (.istore 5, 2) := by decide +kernel
theorem d_Mo_putMethod_420 : decode b_Mo_putMethod 420 = .ok (.iload 5, 2) := by decide +kernel
theorem d_Mo_putMethod_422 : decode b_Mo_putMethod 422 = .ok (.iload 4, 2) := by decide +kernel
theorem d_Mo_putMethod_424 : decode b_Mo_putMethod 424 = .ok (.if_icmp .ge 116, 3) := by decide +kernel
theorem d_Mo_putMethod_427 : decode b_Mo_putMethod 427 = .ok (.aload_n 0, 1) := by decide +kernel
theorem d_Mo_putMethod_428 : decode b_Mo_putMethod 428 = .ok (.ldc_w 1245, 3) := by decide +kernel
theorem d_Mo_putMethod_431 : decode b_Mo_putMethod 431 = .ok (.invokevirtual 1187, 3) := by decide +kernel
theorem d_Mo_putMethod_434 : decode b_Mo_putMethod 434 = .ok (.aload_n 0, 1) := by decide +kernel
theorem d_Mo_putMethod_435 : decode b_Mo_putMethod 435 = .ok (.aload_n 0, 1) := by decide +kernel
theorem d_Mo_putMethod_436 : decode b_Mo_putMethod 436 = .ok (.getfield 522, 3) := by decide +kernel
theorem d_Mo_putMethod_439 : decode b_Mo_putMethod 439 = .ok (.getfield 713, 3) := by decide +kernel
theorem d_Mo_putMethod_442 : decode b_Mo_putMethod 442 = .ok (.iload 5, 2) := by decide +kernel
theorem d_Mo_putMethod_444 : decode b_Mo_putMethod 444 = .ok (.iaload, 1) := by decide +kernel
theorem d_Mo_putMethod_445 : decode b_Mo_putMethod 445 = .ok (.invokevirtual 1242, 3) := by decide +kernel
theorem d_Mo_putMethod_448 : decode b_Mo_putMethod 448 = .ok (.aload_n 0, 1) := by decide +kernel
theorem d_Mo_putMethod_449 : decode b_Mo_putMethod 449 = .ok (.bipush 32, 2) := by decide +kernel
theorem d_Mo_putMethod_451 : decode b_Mo_putMethod 451 = .ok (.invokevirtual 1179, 3) := by decide +kernel
theorem d_Mo_putMethod_454 : decode b_Mo_putMethod 454 = .ok (.aload_n 0, 1) := by decide +kernel
theorem d_Mo_putMethod_455 : decode b_Mo_putMethod 455 = .ok (.aload_n 0, 1) := by decide +kernel
theorem d_Mo_putMethod_456 : decode b_Mo_putMethod 456 = .ok (.getfield 522, 3) := by decide +kernel
theorem d_Mo_putMethod_459 : decode b_Mo_putMethod 459 = .ok (.getfield 716, 3) := by decide +kernel
theorem d_Mo_putMethod_462 : decode b_Mo_putMethod 462 = .ok (.iload 5, 2) := by decide +kernel
theorem d_Mo_putMethod_464 : decode b_Mo_putMethod 464 = .ok (.iaload, 1) := by decide +kernel
theorem d_Mo_putMethod_465 : decode b_Mo_putMethod 465 = .ok (.invokevirtual 1242, 3) := by decide +kernel
theorem d_Mo_putMethod_468 : decode b_Mo_putMethod 468 = .ok (.aload_n 0, 1) := by decide +kernel
theorem d_Mo_putMethod_469 : decode b_Mo_putMethod 469 = .ok (.bipush 32, 2) := by decide +kernel
theorem d_Mo_putMethod_471 : decode b_Mo_putMethod 471 = .ok (.invokevirtual 1179, 3) := by decide +kernel
theorem d_Mo_putMethod_474 : decode b_Mo_putMethod 474 = .ok (.aload_n 0, 1) := by decide +kernel
theorem d_Mo_putMethod_475 : decode b_Mo_putMethod 475 = .ok (.aload_n 0, 1) := by decide +kernel
theorem d_Mo_putMethod_476 : decode b_Mo_putMethod 476 = .ok (.getfield 522, 3) := by decide +kernel
theorem d_Mo_putMethod_479 : decode b_Mo_putMethod 479 = .ok (.getfield 719, 3) := by decide +kernel
theorem d_Mo_putMethod_482 : decode b_Mo_putMethod 482 = .ok (.iload 5, 2) := by decide +kernel
theorem d_Mo_putMethod_484 : decode b_Mo_putMethod 484 = .ok (.iaload, 1) := by decide +kernel
theorem d_Mo_putMethod_485 : decode b_Mo_putMethod 485 = .ok (.invokevirtual 1242, 3) := by decide +kernel
theorem d_Mo_putMethod_488 : decode b_Mo_putMethod 488 = .ok (.aload_n 0, 1) := by decide +kernel
theorem d_Mo_putMethod_489 : decode b_Mo_putMethod 489 = .ok (.bipush 32, 2) := by decide +kernel
theorem d_Mo_putMethod_491 : decode b_Mo_putMethod 491 = .ok (.invokevirtual 1179, 3) := by decide +kernel
theorem d_Mo_putMethod_494 : decode b_Mo_putMethod 494 = .ok (.aload_n 0, 1) := by decide +kernel
theorem d_Mo_putMethod_495 : decode b_Mo_putMethod 495 = .ok (.aload_n 0, 1) := by decide +kernel
theorem d_Mo_putMethod_496 : decode b_Mo_putMethod 496 = .ok (.getfield 522, 3) := by decide +kernel
theorem d_Mo_putMethod_499 : decode b_Mo_putMethod 499 = .ok (.getfield 722, 3) := by decide +kernel
theorem d_Mo_putMethod_502 : decode b_Mo_putMethod 502 = .ok (.iload 5, 2) := by decide +kernel
theorem d_Mo_putMethod_504 : decode b_Mo_putMethod 504 = .ok (.iaload, 1) := by decide +kernel
theorem d_Mo_putMethod_505 : decode b_Mo_putMethod 505 = .ok (.ifCond .ge 10, 3) := by decide +kernel
theorem d_Mo_putMethod_508 : decode b_Mo_putMethod 508 = .ok (.aload_n 0, 1) := by decide +kernel
theorem d_Mo_putMethod_509 : decode b_Mo_putMethod 509 = .ok (.getfield 232, 3) := by decide +kernel
theorem d_Mo_putMethod_512 : decode b_Mo_putMethod 512 = .ok (.goto 13, 3) := by decide +kernel
theorem d_Mo_putMethod_515 : decode b_Mo_putMethod 515 = .ok (.aload_n 0, 1) := by decide +kernel
theorem d_Mo_putMethod_516 : decode b_Mo_putMethod 516 = .ok (.getfield 522, 3) := by decide +kernel
theorem d_Mo_putMethod_519 : decode b_Mo_putMethod 519 = .ok (.getfield 722, 3) := by decide +kernel
theorem d_Mo_putMethod_522 : decode b_Mo_putMethod 522 = .ok (.iload 5, 2) := by decide +kernel
theorem d_Mo_putMethod_524 : decode b_Mo_putMethod 524 = .ok (.iaload, 1) := by decide +kernel
theorem d_Mo_putMethod_525 : decode b_Mo_putMethod 525 = .ok (.invokevirtual 1182, 3) := by decide +kernel
theorem d_Mo_putMethod_528 : decode b_Mo_putMethod 528 = .ok (.aload_n 0, 1) := by decide +kernel
theorem d_Mo_putMethod_529 : decode b_Mo_putMethod 529 = .ok (.bipush 10, 2) := by decide +kernel
theorem d_Mo_putMethod_531 : decode b_Mo_putMethod 531 = .ok (.invokevirtual 1179, 3) := by decide +kernel
theorem d_Mo_putMethod_534 : decode b_Mo_putMethod 534 = .ok (.iinc 5 1, 3) := by decide +kernel
theorem d_Mo_putMethod_537 : decode b_Mo_putMethod 537 = .ok (.goto (-117), 3) := by decide +kernel
theorem d_Mo_putMethod_540 : decode b_Mo_putMethod 540 = .ok (.return_, 1) := by decide +kernel
abbrev ra_Mo_putMethod (mc ms : Nat) : Room := { frames := 8, cells := mc, slots := ms, locals := 262 }
def wja_Mo_putMethod_525 (mc ms : Nat) (Post : Ly → St → Nat → Nat → Prop) (K_420 : Ly → St → Nat → Nat → Int32 → Int32 → Prop) (a0 : Nat) (y_j525 : Ly) (s_j525 : St) (d_j525 e_j525 : Nat) (x4j525 : Int32) (x5j525 : Int32) (z1j525 : Int32) : Prop := (d_j525 ≤ mc ∧ e_j525 ≤ ms) ∧ ∃ mc_189 ms_190 : Nat, (d_j525 + mc_189 ≤ mc ∧ e_j525 + ms_190 ≤ ms) ∧ wa_Mo_putName mc_189 ms_190 y_j525 (fun (y_186 : Ly) (s_185 : St) (d_187 e_188 : Nat) => (d_j525 + d_187 ≤ mc ∧ e_j525 + e_188 ≤ ms) ∧ ∃ mc_197 ms_198 : Nat, (d_j525 + d_187 + mc_197 ≤ mc ∧ e_j525 + e_188 + ms_198 ≤ ms) ∧ wa_Mo_put mc_197 ms_198 y_186 (fun (y_194 : Ly) (s_193 : St) (d_195 e_196 : Nat) => (d_j525 + d_187 + d_195 ≤ mc ∧ e_j525 + e_188 + e_196 ≤ ms) ∧ K_420 y_194 s_193 (d_j525 + d_187 + d_195) (e_j525 + e_188 + e_196) x4j525 (x5j525 + 1)) s_185 a0 10) s_j525 a0 z1j525
def wba_Mo_putMethod_420 (mc ms : Nat) (Post : Ly → St → Nat → Nat → Prop) (K_420 : Ly → St → Nat → Nat → Int32 → Int32 → Prop) (a0 : Nat) (y_h420 : Ly) (s_h420 : St) (d_h420 e_h420 : Nat) (x4h420 : Int32) (x5h420 : Int32) : Prop := (d_h420 ≤ mc ∧ e_h420 ≤ ms) ∧ ((x4h420 ≤ x5h420 → Post y_h420 s_h420 d_h420 e_h420) ∧ (¬ (x4h420 ≤ x5h420) → ∃ mc_117 ms_118 : Nat, (d_h420 + mc_117 ≤ mc ∧ e_h420 + ms_118 ≤ ms) ∧ wa_Mo_putWord mc_117 ms_118 y_h420 (fun (y_114 : Ly) (s_113 : St) (d_115 e_116 : Nat) => (d_h420 + d_115 ≤ mc ∧ e_h420 + e_116 ≤ ms) ∧ ∃ b_120 : Nat, sO s_113 a0 45 = some b_120 ∧ cl b_120 = 13 ∧ xA y_114 s_113 b_120 26 x5h420 (fun x_123 : Int32 => ∃ mc_129 ms_130 : Nat, (d_h420 + d_115 + mc_129 ≤ mc ∧ e_h420 + e_116 + ms_130 ≤ ms) ∧ wa_Mo_putLabel mc_129 ms_130 y_114 (fun (y_126 : Ly) (s_125 : St) (d_127 e_128 : Nat) => (d_h420 + d_115 + d_127 ≤ mc ∧ e_h420 + e_116 + e_128 ≤ ms) ∧ ∃ mc_137 ms_138 : Nat, (d_h420 + d_115 + d_127 + mc_137 ≤ mc ∧ e_h420 + e_116 + e_128 + ms_138 ≤ ms) ∧ wa_Mo_put mc_137 ms_138 y_126 (fun (y_134 : Ly) (s_133 : St) (d_135 e_136 : Nat) => (d_h420 + d_115 + d_127 + d_135 ≤ mc ∧ e_h420 + e_116 + e_128 + e_136 ≤ ms) ∧ ∃ b_140 : Nat, sO s_133 a0 45 = some b_140 ∧ cl b_140 = 13 ∧ xA y_134 s_133 b_140 27 x5h420 (fun x_143 : Int32 => ∃ mc_149 ms_150 : Nat, (d_h420 + d_115 + d_127 + d_135 + mc_149 ≤ mc ∧ e_h420 + e_116 + e_128 + e_136 + ms_150 ≤ ms) ∧ wa_Mo_putLabel mc_149 ms_150 y_134 (fun (y_146 : Ly) (s_145 : St) (d_147 e_148 : Nat) => (d_h420 + d_115 + d_127 + d_135 + d_147 ≤ mc ∧ e_h420 + e_116 + e_128 + e_136 + e_148 ≤ ms) ∧ ∃ mc_157 ms_158 : Nat, (d_h420 + d_115 + d_127 + d_135 + d_147 + mc_157 ≤ mc ∧ e_h420 + e_116 + e_128 + e_136 + e_148 + ms_158 ≤ ms) ∧ wa_Mo_put mc_157 ms_158 y_146 (fun (y_154 : Ly) (s_153 : St) (d_155 e_156 : Nat) => (d_h420 + d_115 + d_127 + d_135 + d_147 + d_155 ≤ mc ∧ e_h420 + e_116 + e_128 + e_136 + e_148 + e_156 ≤ ms) ∧ ∃ b_160 : Nat, sO s_153 a0 45 = some b_160 ∧ cl b_160 = 13 ∧ xA y_154 s_153 b_160 28 x5h420 (fun x_163 : Int32 => ∃ mc_169 ms_170 : Nat, (d_h420 + d_115 + d_127 + d_135 + d_147 + d_155 + mc_169 ≤ mc ∧ e_h420 + e_116 + e_128 + e_136 + e_148 + e_156 + ms_170 ≤ ms) ∧ wa_Mo_putLabel mc_169 ms_170 y_154 (fun (y_166 : Ly) (s_165 : St) (d_167 e_168 : Nat) => (d_h420 + d_115 + d_127 + d_135 + d_147 + d_155 + d_167 ≤ mc ∧ e_h420 + e_116 + e_128 + e_136 + e_148 + e_156 + e_168 ≤ ms) ∧ ∃ mc_177 ms_178 : Nat, (d_h420 + d_115 + d_127 + d_135 + d_147 + d_155 + d_167 + mc_177 ≤ mc ∧ e_h420 + e_116 + e_128 + e_136 + e_148 + e_156 + e_168 + ms_178 ≤ ms) ∧ wa_Mo_put mc_177 ms_178 y_166 (fun (y_174 : Ly) (s_173 : St) (d_175 e_176 : Nat) => (d_h420 + d_115 + d_127 + d_135 + d_147 + d_155 + d_167 + d_175 ≤ mc ∧ e_h420 + e_116 + e_128 + e_136 + e_148 + e_156 + e_168 + e_176 ≤ ms) ∧ ∃ b_180 : Nat, sO s_173 a0 45 = some b_180 ∧ cl b_180 = 13 ∧ xA y_174 s_173 b_180 29 x5h420 (fun x_183 : Int32 => ((0 ≤ x_183 → xA y_174 s_173 b_180 29 x5h420 (fun x_200 : Int32 => wja_Mo_putMethod_525 mc ms Post K_420 a0 y_174 s_173 (d_h420 + d_115 + d_127 + d_135 + d_147 + d_155 + d_167 + d_175) (e_h420 + e_116 + e_128 + e_136 + e_148 + e_156 + e_168 + e_176) x4h420 x5h420 x_200)) ∧ (¬ (0 ≤ x_183) → wja_Mo_putMethod_525 mc ms Post K_420 a0 y_174 s_173 (d_h420 + d_115 + d_127 + d_135 + d_147 + d_155 + d_167 + d_175) (e_h420 + e_116 + e_128 + e_136 + e_148 + e_156 + e_168 + e_176) x4h420 x5h420 (sV s_173 a0 24))))) s_165 a0 32) s_153 a0 x_163)) s_145 a0 32) s_133 a0 x_143)) s_125 a0 32) s_113 a0 x_123)) s_h420 a0 56))
def wla_Mo_putMethod_420 (mc ms : Nat) (Post : Ly → St → Nat → Nat → Prop) (a0 : Nat) (y_h420 : Ly) (s_h420 : St) (d_h420 e_h420 : Nat) (x4h420 : Int32) (x5h420 : Int32) : Prop := ∃ (I : Ly → St → Nat → Nat → Int32 → Int32 → Prop) (μ : Ly → St → Nat → Nat → Int32 → Int32 → Nat), I y_h420 s_h420 d_h420 e_h420 x4h420 x5h420 ∧ ∀ (u1 : Ly) (u2 : St) (u3 u4 : Nat) (t0 : Int32) (t1 : Int32), I u1 u2 u3 u4 t0 t1 → wba_Mo_putMethod_420 mc ms Post (fun z1 z2 z3 z4 t0q t1q => I z1 z2 z3 z4 t0q t1q ∧ μ z1 z2 z3 z4 t0q t1q < μ u1 u2 u3 u4 t0 t1) a0 u1 u2 u3 u4 t0 t1
def wja_Mo_putMethod_414 (mc ms : Nat) (Post : Ly → St → Nat → Nat → Prop) (a0 : Nat) (y_j414 : Ly) (s_j414 : St) (d_j414 e_j414 : Nat) (x1j414 : Int32) (x4j414 : Int32) : Prop := (d_j414 ≤ mc ∧ e_j414 ≤ ms) ∧ wla_Mo_putMethod_420 mc ms Post a0 y_j414 s_j414 d_j414 e_j414 x4j414 (8 * x1j414)
def wba_Mo_putMethod_359 (mc ms : Nat) (Post : Ly → St → Nat → Nat → Prop) (K_359 : Ly → St → Nat → Nat → Int32 → Int32 → Int32 → Int32 → Int32 → Prop) (a0 : Nat) (y_h359 : Ly) (s_h359 : St) (d_h359 e_h359 : Nat) (x1h359 : Int32) (x2h359 : Int32) (x3h359 : Int32) (x4h359 : Int32) (x5h359 : Int32) : Prop := (d_h359 ≤ mc ∧ e_h359 ≤ ms) ∧ ((x3h359 ≤ x5h359 → xA y_h359 s_h359 a0 96 x3h359 (fun x_111 : Int32 => ((x_111 = 0 → wja_Mo_putMethod_414 mc ms Post a0 y_h359 s_h359 d_h359 e_h359 x1h359 x4h359) ∧ (¬ (x_111 = 0) → ∃ mc_206 ms_207 : Nat, (d_h359 + mc_206 ≤ mc ∧ e_h359 + ms_207 ≤ ms) ∧ wa_Mo_putWord mc_206 ms_207 y_h359 (fun (y_203 : Ly) (s_202 : St) (d_204 e_205 : Nat) => (d_h359 + d_204 ≤ mc ∧ e_h359 + e_205 ≤ ms) ∧ ∃ mc_214 ms_215 : Nat, (d_h359 + d_204 + mc_214 ≤ mc ∧ e_h359 + e_205 + ms_215 ≤ ms) ∧ wa_Mo_putLabel mc_214 ms_215 y_203 (fun (y_211 : Ly) (s_210 : St) (d_212 e_213 : Nat) => (d_h359 + d_204 + d_212 ≤ mc ∧ e_h359 + e_205 + e_213 ≤ ms) ∧ ∃ mc_222 ms_223 : Nat, (d_h359 + d_204 + d_212 + mc_222 ≤ mc ∧ e_h359 + e_205 + e_213 + ms_223 ≤ ms) ∧ wa_Mo_put mc_222 ms_223 y_211 (fun (y_219 : Ly) (s_218 : St) (d_220 e_221 : Nat) => (d_h359 + d_204 + d_212 + d_220 ≤ mc ∧ e_h359 + e_205 + e_213 + e_221 ≤ ms) ∧ ∃ mc_230 ms_231 : Nat, (d_h359 + d_204 + d_212 + d_220 + mc_230 ≤ mc ∧ e_h359 + e_205 + e_213 + e_221 + ms_231 ≤ ms) ∧ wa_Mo_put mc_230 ms_231 y_219 (fun (y_227 : Ly) (s_226 : St) (d_228 e_229 : Nat) => (d_h359 + d_204 + d_212 + d_220 + d_228 ≤ mc ∧ e_h359 + e_205 + e_213 + e_221 + e_229 ≤ ms) ∧ wja_Mo_putMethod_414 mc ms Post a0 y_227 s_226 (d_h359 + d_204 + d_212 + d_220 + d_228) (e_h359 + e_205 + e_213 + e_221 + e_229) x1h359 x4h359) s_218 a0 10) s_210 a0 58) s_202 a0 x3h359) s_h359 a0 55)))) ∧ (¬ (x3h359 ≤ x5h359) → ∃ mc_238 ms_239 : Nat, (d_h359 + mc_238 ≤ mc ∧ e_h359 + ms_239 ≤ ms) ∧ wa_Mo_putInstruction mc_238 ms_239 y_h359 (fun (y_235 : Ly) (s_234 : St) (d_236 e_237 : Nat) => (d_h359 + d_236 ≤ mc ∧ e_h359 + e_237 ≤ ms) ∧ K_359 y_235 s_234 (d_h359 + d_236) (e_h359 + e_237) x1h359 x2h359 x3h359 x4h359 (x5h359 + 1)) s_h359 a0 (x2h359 + x5h359) x5h359))
def wla_Mo_putMethod_359 (mc ms : Nat) (Post : Ly → St → Nat → Nat → Prop) (a0 : Nat) (y_h359 : Ly) (s_h359 : St) (d_h359 e_h359 : Nat) (x1h359 : Int32) (x2h359 : Int32) (x3h359 : Int32) (x4h359 : Int32) (x5h359 : Int32) : Prop := ∃ (I : Ly → St → Nat → Nat → Int32 → Int32 → Int32 → Int32 → Int32 → Prop) (μ : Ly → St → Nat → Nat → Int32 → Int32 → Int32 → Int32 → Int32 → Nat), I y_h359 s_h359 d_h359 e_h359 x1h359 x2h359 x3h359 x4h359 x5h359 ∧ ∀ (u1 : Ly) (u2 : St) (u3 u4 : Nat) (t0 : Int32) (t1 : Int32) (t2 : Int32) (t3 : Int32) (t4 : Int32), I u1 u2 u3 u4 t0 t1 t2 t3 t4 → wba_Mo_putMethod_359 mc ms Post (fun z1 z2 z3 z4 t0q t1q t2q t3q t4q => I z1 z2 z3 z4 t0q t1q t2q t3q t4q ∧ μ z1 z2 z3 z4 t0q t1q t2q t3q t4q < μ u1 u2 u3 u4 t0 t1 t2 t3 t4) a0 u1 u2 u3 u4 t0 t1 t2 t3 t4
def wba_Mo_putMethod_295 (mc ms : Nat) (Post : Ly → St → Nat → Nat → Prop) (K_295 : Ly → St → Nat → Nat → Int32 → Int32 → Int32 → Int32 → Int32 → Prop) (a0 : Nat) (y_h295 : Ly) (s_h295 : St) (d_h295 e_h295 : Nat) (x1h295 : Int32) (x2h295 : Int32) (x3h295 : Int32) (x4h295 : Int32) (x5h295 : Int32) : Prop := (d_h295 ≤ mc ∧ e_h295 ≤ ms) ∧ ((x4h295 ≤ x5h295 → wla_Mo_putMethod_359 mc ms Post a0 y_h295 s_h295 d_h295 e_h295 x1h295 x2h295 x3h295 x4h295 0) ∧ (¬ (x4h295 ≤ x5h295) → ∃ b_241 : Nat, sO s_h295 a0 45 = some b_241 ∧ cl b_241 = 13 ∧ xA y_h295 s_h295 b_241 26 x5h295 (fun x_244 : Int32 => xS y_h295 s_h295 a0 96 x_244 (vp_nar .boolean 1) (fun s_245 : St => ∃ b_246 : Nat, sO s_245 a0 45 = some b_246 ∧ cl b_246 = 13 ∧ xA y_h295 s_245 b_246 27 x5h295 (fun x_249 : Int32 => xS y_h295 s_245 a0 96 x_249 (vp_nar .boolean 1) (fun s_250 : St => ∃ b_251 : Nat, sO s_250 a0 45 = some b_251 ∧ cl b_251 = 13 ∧ xA y_h295 s_250 b_251 28 x5h295 (fun x_254 : Int32 => xS y_h295 s_250 a0 96 x_254 (vp_nar .boolean 1) (fun s_255 : St => K_295 y_h295 s_255 d_h295 e_h295 x1h295 x2h295 x3h295 x4h295 (x5h295 + 1)))))))))
def wla_Mo_putMethod_295 (mc ms : Nat) (Post : Ly → St → Nat → Nat → Prop) (a0 : Nat) (y_h295 : Ly) (s_h295 : St) (d_h295 e_h295 : Nat) (x1h295 : Int32) (x2h295 : Int32) (x3h295 : Int32) (x4h295 : Int32) (x5h295 : Int32) : Prop := ∃ (I : Ly → St → Nat → Nat → Int32 → Int32 → Int32 → Int32 → Int32 → Prop) (μ : Ly → St → Nat → Nat → Int32 → Int32 → Int32 → Int32 → Int32 → Nat), I y_h295 s_h295 d_h295 e_h295 x1h295 x2h295 x3h295 x4h295 x5h295 ∧ ∀ (u1 : Ly) (u2 : St) (u3 u4 : Nat) (t0 : Int32) (t1 : Int32) (t2 : Int32) (t3 : Int32) (t4 : Int32), I u1 u2 u3 u4 t0 t1 t2 t3 t4 → wba_Mo_putMethod_295 mc ms Post (fun z1 z2 z3 z4 t0q t1q t2q t3q t4q => I z1 z2 z3 z4 t0q t1q t2q t3q t4q ∧ μ z1 z2 z3 z4 t0q t1q t2q t3q t4q < μ u1 u2 u3 u4 t0 t1 t2 t3 t4) a0 u1 u2 u3 u4 t0 t1 t2 t3 t4
def wja_Mo_putMethod_283 (mc ms : Nat) (Post : Ly → St → Nat → Nat → Prop) (K_175 : Ly → St → Nat → Nat → Int32 → Int32 → Int32 → Int32 → Int32 → Prop) (a0 : Nat) (y_j283 : Ly) (s_j283 : St) (d_j283 e_j283 : Nat) (x1j283 : Int32) (x2j283 : Int32) (x3j283 : Int32) (x4j283 : Int32) (x5j283 : Int32) : Prop := (d_j283 ≤ mc ∧ e_j283 ≤ ms) ∧ K_175 y_j283 s_j283 d_j283 e_j283 x1j283 x2j283 x3j283 x4j283 (x5j283 + 1)
def wba_Mo_putMethod_228 (mc ms : Nat) (Post : Ly → St → Nat → Nat → Prop) (K_175 : Ly → St → Nat → Nat → Int32 → Int32 → Int32 → Int32 → Int32 → Prop) (K_228 : Ly → St → Nat → Nat → Int32 → Int32 → Int32 → Int32 → Int32 → Int32 → Int32 → Prop) (a0 : Nat) (y_h228 : Ly) (s_h228 : St) (d_h228 e_h228 : Nat) (x1h228 : Int32) (x2h228 : Int32) (x3h228 : Int32) (x4h228 : Int32) (x5h228 : Int32) (x6h228 : Int32) (x7h228 : Int32) : Prop := (d_h228 ≤ mc ∧ e_h228 ≤ ms) ∧ ((¬ x6h228 = 40 → wja_Mo_putMethod_283 mc ms Post K_175 a0 y_h228 s_h228 d_h228 e_h228 x1h228 x2h228 x3h228 x4h228 x5h228) ∧ (x6h228 = 40 → ∃ b_260 : Nat, sO s_h228 a0 45 = some b_260 ∧ cl b_260 = 13 ∧ xA y_h228 s_h228 b_260 33 x5h228 (fun x_263 : Int32 => ((x_263 ≤ x7h228 → wja_Mo_putMethod_283 mc ms Post K_175 a0 y_h228 s_h228 d_h228 e_h228 x1h228 x2h228 x3h228 x4h228 x5h228) ∧ (¬ (x_263 ≤ x7h228) → xA y_h228 s_h228 b_260 32 x5h228 (fun x_264 : Int32 => xA y_h228 s_h228 b_260 36 (x_264 + x7h228) (fun x_265 : Int32 => xS y_h228 s_h228 a0 96 x_265 (vp_nar .boolean 1) (fun s_266 : St => K_228 y_h228 s_266 d_h228 e_h228 x1h228 x2h228 x3h228 x4h228 x5h228 x6h228 (x7h228 + 1)))))))))
def wla_Mo_putMethod_228 (mc ms : Nat) (Post : Ly → St → Nat → Nat → Prop) (K_175 : Ly → St → Nat → Nat → Int32 → Int32 → Int32 → Int32 → Int32 → Prop) (a0 : Nat) (y_h228 : Ly) (s_h228 : St) (d_h228 e_h228 : Nat) (x1h228 : Int32) (x2h228 : Int32) (x3h228 : Int32) (x4h228 : Int32) (x5h228 : Int32) (x6h228 : Int32) (x7h228 : Int32) : Prop := ∃ (I : Ly → St → Nat → Nat → Int32 → Int32 → Int32 → Int32 → Int32 → Int32 → Int32 → Prop) (μ : Ly → St → Nat → Nat → Int32 → Int32 → Int32 → Int32 → Int32 → Int32 → Int32 → Nat), I y_h228 s_h228 d_h228 e_h228 x1h228 x2h228 x3h228 x4h228 x5h228 x6h228 x7h228 ∧ ∀ (u1 : Ly) (u2 : St) (u3 u4 : Nat) (t0 : Int32) (t1 : Int32) (t2 : Int32) (t3 : Int32) (t4 : Int32) (t5 : Int32) (t6 : Int32), I u1 u2 u3 u4 t0 t1 t2 t3 t4 t5 t6 → wba_Mo_putMethod_228 mc ms Post K_175 (fun z1 z2 z3 z4 t0q t1q t2q t3q t4q t5q t6q => I z1 z2 z3 z4 t0q t1q t2q t3q t4q t5q t6q ∧ μ z1 z2 z3 z4 t0q t1q t2q t3q t4q t5q t6q < μ u1 u2 u3 u4 t0 t1 t2 t3 t4 t5 t6) a0 u1 u2 u3 u4 t0 t1 t2 t3 t4 t5 t6
def wja_Mo_putMethod_225 (mc ms : Nat) (Post : Ly → St → Nat → Nat → Prop) (K_175 : Ly → St → Nat → Nat → Int32 → Int32 → Int32 → Int32 → Int32 → Prop) (a0 : Nat) (y_j225 : Ly) (s_j225 : St) (d_j225 e_j225 : Nat) (x1j225 : Int32) (x2j225 : Int32) (x3j225 : Int32) (x4j225 : Int32) (x5j225 : Int32) (x6j225 : Int32) : Prop := (d_j225 ≤ mc ∧ e_j225 ≤ ms) ∧ wla_Mo_putMethod_228 mc ms Post K_175 a0 y_j225 s_j225 d_j225 e_j225 x1j225 x2j225 x3j225 x4j225 x5j225 x6j225 0
def wba_Mo_putMethod_175 (mc ms : Nat) (Post : Ly → St → Nat → Nat → Prop) (K_175 : Ly → St → Nat → Nat → Int32 → Int32 → Int32 → Int32 → Int32 → Prop) (a0 : Nat) (y_h175 : Ly) (s_h175 : St) (d_h175 e_h175 : Nat) (x1h175 : Int32) (x2h175 : Int32) (x3h175 : Int32) (x4h175 : Int32) (x5h175 : Int32) : Prop := (d_h175 ≤ mc ∧ e_h175 ≤ ms) ∧ (((x2h175 + x3h175) ≤ x5h175 → wla_Mo_putMethod_295 mc ms Post a0 y_h175 s_h175 d_h175 e_h175 x1h175 x2h175 x3h175 x4h175 (8 * x1h175)) ∧ (¬ ((x2h175 + x3h175) ≤ x5h175) → ∃ b_256 : Nat, sO s_h175 a0 45 = some b_256 ∧ cl b_256 = 13 ∧ xA y_h175 s_h175 b_256 30 x5h175 (fun x_259 : Int32 => ((x_259 < 23 → wja_Mo_putMethod_225 mc ms Post K_175 a0 y_h175 s_h175 d_h175 e_h175 x1h175 x2h175 x3h175 x4h175 x5h175 x_259) ∧ (¬ (x_259 < 23) → ((39 < x_259 → wja_Mo_putMethod_225 mc ms Post K_175 a0 y_h175 s_h175 d_h175 e_h175 x1h175 x2h175 x3h175 x4h175 x5h175 x_259) ∧ (¬ (39 < x_259) → xA y_h175 s_h175 b_256 31 x5h175 (fun x_267 : Int32 => xS y_h175 s_h175 a0 96 x_267 (vp_nar .boolean 1) (fun s_268 : St => wja_Mo_putMethod_225 mc ms Post K_175 a0 y_h175 s_268 d_h175 e_h175 x1h175 x2h175 x3h175 x4h175 x5h175 x_259)))))))))
def wla_Mo_putMethod_175 (mc ms : Nat) (Post : Ly → St → Nat → Nat → Prop) (a0 : Nat) (y_h175 : Ly) (s_h175 : St) (d_h175 e_h175 : Nat) (x1h175 : Int32) (x2h175 : Int32) (x3h175 : Int32) (x4h175 : Int32) (x5h175 : Int32) : Prop := ∃ (I : Ly → St → Nat → Nat → Int32 → Int32 → Int32 → Int32 → Int32 → Prop) (μ : Ly → St → Nat → Nat → Int32 → Int32 → Int32 → Int32 → Int32 → Nat), I y_h175 s_h175 d_h175 e_h175 x1h175 x2h175 x3h175 x4h175 x5h175 ∧ ∀ (u1 : Ly) (u2 : St) (u3 u4 : Nat) (t0 : Int32) (t1 : Int32) (t2 : Int32) (t3 : Int32) (t4 : Int32), I u1 u2 u3 u4 t0 t1 t2 t3 t4 → wba_Mo_putMethod_175 mc ms Post (fun z1 z2 z3 z4 t0q t1q t2q t3q t4q => I z1 z2 z3 z4 t0q t1q t2q t3q t4q ∧ μ z1 z2 z3 z4 t0q t1q t2q t3q t4q < μ u1 u2 u3 u4 t0 t1 t2 t3 t4) a0 u1 u2 u3 u4 t0 t1 t2 t3 t4
def wba_Mo_putMethod_152 (mc ms : Nat) (Post : Ly → St → Nat → Nat → Prop) (K_152 : Ly → St → Nat → Nat → Int32 → Int32 → Int32 → Int32 → Int32 → Prop) (a0 : Nat) (y_h152 : Ly) (s_h152 : St) (d_h152 e_h152 : Nat) (x1h152 : Int32) (x2h152 : Int32) (x3h152 : Int32) (x4h152 : Int32) (x5h152 : Int32) : Prop := (d_h152 ≤ mc ∧ e_h152 ≤ ms) ∧ ((x3h152 < x5h152 → wla_Mo_putMethod_175 mc ms Post a0 y_h152 s_h152 d_h152 e_h152 x1h152 x2h152 x3h152 x4h152 x2h152) ∧ (¬ (x3h152 < x5h152) → xS y_h152 s_h152 a0 96 x5h152 (vp_nar .boolean 0) (fun s_269 : St => K_152 y_h152 s_269 d_h152 e_h152 x1h152 x2h152 x3h152 x4h152 (x5h152 + 1))))
def wla_Mo_putMethod_152 (mc ms : Nat) (Post : Ly → St → Nat → Nat → Prop) (a0 : Nat) (y_h152 : Ly) (s_h152 : St) (d_h152 e_h152 : Nat) (x1h152 : Int32) (x2h152 : Int32) (x3h152 : Int32) (x4h152 : Int32) (x5h152 : Int32) : Prop := ∃ (I : Ly → St → Nat → Nat → Int32 → Int32 → Int32 → Int32 → Int32 → Prop) (μ : Ly → St → Nat → Nat → Int32 → Int32 → Int32 → Int32 → Int32 → Nat), I y_h152 s_h152 d_h152 e_h152 x1h152 x2h152 x3h152 x4h152 x5h152 ∧ ∀ (u1 : Ly) (u2 : St) (u3 u4 : Nat) (t0 : Int32) (t1 : Int32) (t2 : Int32) (t3 : Int32) (t4 : Int32), I u1 u2 u3 u4 t0 t1 t2 t3 t4 → wba_Mo_putMethod_152 mc ms Post (fun z1 z2 z3 z4 t0q t1q t2q t3q t4q => I z1 z2 z3 z4 t0q t1q t2q t3q t4q ∧ μ z1 z2 z3 z4 t0q t1q t2q t3q t4q < μ u1 u2 u3 u4 t0 t1 t2 t3 t4) a0 u1 u2 u3 u4 t0 t1 t2 t3 t4
def wa_Mo_putMethod (mc ms : Nat) (y : Ly) (Post : Ly → St → Nat → Nat → Prop) (σ : St) (a0 : Nat) (v1 : Int32) : Prop := ∃ mc_6 ms_7 : Nat, (0 + mc_6 ≤ mc ∧ 0 + ms_7 ≤ ms) ∧ wa_Mo_putWord mc_6 ms_7 y (fun (y_3 : Ly) (s_2 : St) (d_4 e_5 : Nat) => (0 + d_4 ≤ mc ∧ 0 + e_5 ≤ ms) ∧ ∃ b_9 : Nat, sO s_2 a0 45 = some b_9 ∧ cl b_9 = 13 ∧ xA y_3 s_2 b_9 20 v1 (fun x_12 : Int32 => ∃ mc_18 ms_19 : Nat, (0 + d_4 + mc_18 ≤ mc ∧ 0 + e_5 + ms_19 ≤ ms) ∧ wa_Mo_putFlags mc_18 ms_19 y_3 (fun (y_15 : Ly) (s_14 : St) (d_16 e_17 : Nat) => (0 + d_4 + d_16 ≤ mc ∧ 0 + e_5 + e_17 ≤ ms) ∧ ∃ b_21 : Nat, sO s_14 a0 45 = some b_21 ∧ cl b_21 = 13 ∧ xA y_15 s_14 b_21 18 v1 (fun x_24 : Int32 => ∃ mc_30 ms_31 : Nat, (0 + d_4 + d_16 + mc_30 ≤ mc ∧ 0 + e_5 + e_17 + ms_31 ≤ ms) ∧ wa_Mo_putName mc_30 ms_31 y_15 (fun (y_27 : Ly) (s_26 : St) (d_28 e_29 : Nat) => (0 + d_4 + d_16 + d_28 ≤ mc ∧ 0 + e_5 + e_17 + e_29 ≤ ms) ∧ ∃ b_33 : Nat, sO s_26 a0 45 = some b_33 ∧ cl b_33 = 13 ∧ xA y_27 s_26 b_33 19 v1 (fun x_36 : Int32 => ∃ mc_42 ms_43 : Nat, (0 + d_4 + d_16 + d_28 + mc_42 ≤ mc ∧ 0 + e_5 + e_17 + e_29 + ms_43 ≤ ms) ∧ wa_Mo_putSignature mc_42 ms_43 y_27 (fun (y_39 : Ly) (s_38 : St) (d_40 e_41 : Nat) => (0 + d_4 + d_16 + d_28 + d_40 ≤ mc ∧ 0 + e_5 + e_17 + e_29 + e_41 ≤ ms) ∧ ∃ mc_50 ms_51 : Nat, (0 + d_4 + d_16 + d_28 + d_40 + mc_50 ≤ mc ∧ 0 + e_5 + e_17 + e_29 + e_41 + ms_51 ≤ ms) ∧ wa_Mo_put mc_50 ms_51 y_39 (fun (y_47 : Ly) (s_46 : St) (d_48 e_49 : Nat) => (0 + d_4 + d_16 + d_28 + d_40 + d_48 ≤ mc ∧ 0 + e_5 + e_17 + e_29 + e_41 + e_49 ≤ ms) ∧ ∃ b_53 : Nat, sO s_46 a0 45 = some b_53 ∧ cl b_53 = 13 ∧ xA y_47 s_46 b_53 20 v1 (fun x_56 : Int32 => (((x_56 &&& 8) = 0 → ∃ mc_62 ms_63 : Nat, (0 + d_4 + d_16 + d_28 + d_40 + d_48 + mc_62 ≤ mc ∧ 0 + e_5 + e_17 + e_29 + e_41 + e_49 + ms_63 ≤ ms) ∧ wa_Mo_putWord mc_62 ms_63 y_47 (fun (y_59 : Ly) (s_58 : St) (d_60 e_61 : Nat) => (0 + d_4 + d_16 + d_28 + d_40 + d_48 + d_60 ≤ mc ∧ 0 + e_5 + e_17 + e_29 + e_41 + e_49 + e_61 ≤ ms) ∧ ∃ b_65 : Nat, sO s_58 a0 45 = some b_65 ∧ cl b_65 = 13 ∧ xA y_59 s_58 b_65 21 v1 (fun x_68 : Int32 => ∃ mc_74 ms_75 : Nat, (0 + d_4 + d_16 + d_28 + d_40 + d_48 + d_60 + mc_74 ≤ mc ∧ 0 + e_5 + e_17 + e_29 + e_41 + e_49 + e_61 + ms_75 ≤ ms) ∧ wa_Mo_putNumber mc_74 ms_75 y_59 (fun (y_71 : Ly) (s_70 : St) (d_72 e_73 : Nat) => (0 + d_4 + d_16 + d_28 + d_40 + d_48 + d_60 + d_72 ≤ mc ∧ 0 + e_5 + e_17 + e_29 + e_41 + e_49 + e_61 + e_73 ≤ ms) ∧ ∃ mc_82 ms_83 : Nat, (0 + d_4 + d_16 + d_28 + d_40 + d_48 + d_60 + d_72 + mc_82 ≤ mc ∧ 0 + e_5 + e_17 + e_29 + e_41 + e_49 + e_61 + e_73 + ms_83 ≤ ms) ∧ wa_Mo_put mc_82 ms_83 y_71 (fun (y_79 : Ly) (s_78 : St) (d_80 e_81 : Nat) => (0 + d_4 + d_16 + d_28 + d_40 + d_48 + d_60 + d_72 + d_80 ≤ mc ∧ 0 + e_5 + e_17 + e_29 + e_41 + e_49 + e_61 + e_73 + e_81 ≤ ms) ∧ ∃ b_85 : Nat, sO s_78 a0 45 = some b_85 ∧ cl b_85 = 13 ∧ xA y_79 s_78 b_85 22 v1 (fun x_88 : Int32 => ∃ mc_94 ms_95 : Nat, (0 + d_4 + d_16 + d_28 + d_40 + d_48 + d_60 + d_72 + d_80 + mc_94 ≤ mc ∧ 0 + e_5 + e_17 + e_29 + e_41 + e_49 + e_61 + e_73 + e_81 + ms_95 ≤ ms) ∧ wa_Mo_putNumber mc_94 ms_95 y_79 (fun (y_91 : Ly) (s_90 : St) (d_92 e_93 : Nat) => (0 + d_4 + d_16 + d_28 + d_40 + d_48 + d_60 + d_72 + d_80 + d_92 ≤ mc ∧ 0 + e_5 + e_17 + e_29 + e_41 + e_49 + e_61 + e_73 + e_81 + e_93 ≤ ms) ∧ ∃ mc_102 ms_103 : Nat, (0 + d_4 + d_16 + d_28 + d_40 + d_48 + d_60 + d_72 + d_80 + d_92 + mc_102 ≤ mc ∧ 0 + e_5 + e_17 + e_29 + e_41 + e_49 + e_61 + e_73 + e_81 + e_93 + ms_103 ≤ ms) ∧ wa_Mo_put mc_102 ms_103 y_91 (fun (y_99 : Ly) (s_98 : St) (d_100 e_101 : Nat) => (0 + d_4 + d_16 + d_28 + d_40 + d_48 + d_60 + d_72 + d_80 + d_92 + d_100 ≤ mc ∧ 0 + e_5 + e_17 + e_29 + e_41 + e_49 + e_61 + e_73 + e_81 + e_93 + e_101 ≤ ms) ∧ ∃ b_105 : Nat, sO s_98 a0 45 = some b_105 ∧ cl b_105 = 13 ∧ xA y_99 s_98 b_105 23 v1 (fun x_108 : Int32 => xA y_99 s_98 b_105 24 v1 (fun x_109 : Int32 => xA y_99 s_98 b_105 25 v1 (fun x_110 : Int32 => wla_Mo_putMethod_152 mc ms Post a0 y_99 s_98 (0 + d_4 + d_16 + d_28 + d_40 + d_48 + d_60 + d_72 + d_80 + d_92 + d_100) (0 + e_5 + e_17 + e_29 + e_41 + e_49 + e_61 + e_73 + e_81 + e_93 + e_101) v1 x_108 x_109 ((8 * v1) + x_110) 0)))) s_90 a0 10) s_78 a0 x_88)) s_70 a0 32) s_58 a0 x_68)) s_46 a0 52) ∧ (¬ ((x_56 &&& 8) = 0) → Post y_47 s_46 (0 + d_4 + d_16 + d_28 + d_40 + d_48) (0 + e_5 + e_17 + e_29 + e_41 + e_49))))) s_38 a0 10) s_26 a0 x_36)) s_14 a0 x_24)) s_2 a0 x_12)) σ a0 49
set_option maxHeartbeats 4000000 in
set_option maxRecDepth 100000 in
theorem ca_Mo_putMethod (l : Launch) (D : va_G) (g : Nat → ClassId) (F : Nat → SL) (sl : List SL) (hF : SOK F sl) (ad : Nat → Nat) (mc ms : Nat) (y : Ly) (Post : Ly → St → Nat → Nat → Prop) (σ : St) (a0 : Nat) (v1 : Int32) (sz uz : Nat) (h_a0 : cl a0 = 14) (h : wa_Mo_putMethod mc ms y Post σ a0 v1) : Met l y_Mo_putMethod (mw y_Mo_putMethod b_Mo_putMethod 8 (none)) (ra_Mo_putMethod mc ms) (PCu g D sl [.ref (ad a0), .int v1] sz uz (ws g ad y σ)) (va_Qv (fun (u : Ly × St × Nat × Nat) => Post u.1 u.2.1 u.2.2.1 u.2.2.2) (QU D (va_A (ws g ad y σ) sz) (fun u => ws g ad u.1 u.2.1) sz uz (fun u => u.2.2.1) (fun u => u.2.2.2)) (va_A (ws g ad y σ) sz)) mc ms (va_A (ws g ad y σ) sz) := by
  refine ofVu (by decide +kernel) (Nat.le_of_ble_eq_true rfl) ?_
  intro p e s m args below meth c A Q ls H locs G hsz hP hD hS hl hret
  subst hsz
  have hl : lv_has ls 8 [(0, .ref (ad a0)), (1, .int v1)] := hl
  have hd : 0 ≤ mc ∧ 0 ≤ ms := ⟨Nat.zero_le _, Nat.zero_le _⟩
  unfold wa_Mo_putMethod at h
  refine lv_aload_n G.1 G.2.1 d_Mo_putMethod_0 rfl (lv_at hl 0 rfl) ?_
  refine uldcw (n := 49) hF rfl G d_Mo_putMethod_1 ?_
  obtain ⟨mc_6, ms_7, hr_8, h⟩ := h
  refine utVv (As := [.ref (sk (F 49))]) (rest := []) G hP hD hS (ca_Mo_putWord l D g F sl hF ad mc_6 ms_7 y _ σ a0 49 H.size (us H) h_a0 (by decide +kernel) h) w9_Mo_putWord q4051 ⟨Nat.le_of_ble_eq_true rfl, Nat.le_of_ble_eq_true rfl⟩ rfl rfl h_a0 (q := (RMo, TMo, 131)) rfl rfl hl.1 rfl (Nat.le_of_ble_eq_true rfl) rfl hr_8 d_Mo_putMethod_4 (fun y_3 s_2 d_4 e_5 H locs h hP hD hS => ?_)
  obtain ⟨hd, h⟩ := h
  refine lv_aload_n G.1 G.2.1 d_Mo_putMethod_7 rfl (lv_at hl 0 rfl) ?_
  refine lv_aload_n G.1 G.2.1 d_Mo_putMethod_8 rfl (lv_at hl 0 rfl) ?_
  obtain ⟨b_9, e_10, c_11, h⟩ := h
  refine ugf (v := .ref (ad b_9)) G hP h_a0 iMo rfl 45 (by decide) rfl q3109 rfl (by show va_rf ((sO s_2 a0 45).map ad) = _; rw [e_10]; rfl) d_Mo_putMethod_9 ?_
  refine ugfN (v := .ref (yP y_3 b_9 20)) G hP c_11 iMw rfl 20 (by decide) rfl q2744 rfl rfl d_Mo_putMethod_12 ?_
  refine lv_iload_n G.1 G.2.1 d_Mo_putMethod_15 rfl (lv_at hl 1 rfl) ?_
  refine uiald G hP (kdp c_11 rfl) (typ c_11 rfl) h d_Mo_putMethod_16 (fun x_12 h => ?_)
  obtain ⟨mc_18, ms_19, hr_20, h⟩ := h
  refine utVv (As := [.int x_12]) (rest := []) G hP hD hS (ca_Mo_putFlags l D g F sl hF ad mc_18 ms_19 y_3 _ s_2 a0 x_12 H.size (us H) h_a0 h) w9_Mo_putFlags q4069 ⟨Nat.le_of_ble_eq_true rfl, Nat.le_of_ble_eq_true rfl⟩ rfl rfl h_a0 (q := (RMo, TMo, 131)) rfl rfl hl.1 rfl (Nat.le_of_ble_eq_true rfl) rfl hr_20 d_Mo_putMethod_17 (fun y_15 s_14 d_16 e_17 H locs h hP hD hS => ?_)
  obtain ⟨hd, h⟩ := h
  refine lv_aload_n G.1 G.2.1 d_Mo_putMethod_20 rfl (lv_at hl 0 rfl) ?_
  refine W.eq (g2 := F0 m 21 ls [.ref (ad a0)]) rfl ?_
  refine lv_aload_n G.1 G.2.1 d_Mo_putMethod_21 rfl (lv_at hl 0 rfl) ?_
  obtain ⟨b_21, e_22, c_23, h⟩ := h
  refine ugf (v := .ref (ad b_21)) G hP h_a0 iMo rfl 45 (by decide) rfl q3109 rfl (by show va_rf ((sO s_14 a0 45).map ad) = _; rw [e_22]; rfl) d_Mo_putMethod_22 ?_
  refine ugfN (v := .ref (yP y_15 b_21 18)) G hP c_23 iMw rfl 18 (by decide) rfl q2740 rfl rfl d_Mo_putMethod_25 ?_
  refine lv_iload_n G.1 G.2.1 d_Mo_putMethod_28 rfl (lv_at hl 1 rfl) ?_
  refine uiald G hP (kdp c_23 rfl) (typ c_23 rfl) h d_Mo_putMethod_29 (fun x_24 h => ?_)
  obtain ⟨mc_30, ms_31, hr_32, h⟩ := h
  refine uaVv (As := [.int x_24]) (rest := []) G hP hD hS (ca_Mo_putName l D g ad mc_30 ms_31 y_15 _ s_14 a0 x_24 H.size (us H) h_a0 h) w9_Mo_putName q4062 ⟨Nat.le_of_ble_eq_true rfl, Nat.le_of_ble_eq_true rfl⟩ rfl rfl h_a0 (q := (RMo, TMo, 131)) rfl rfl hl.1 rfl (Nat.le_of_ble_eq_true rfl) rfl hr_32 d_Mo_putMethod_30 (fun y_27 s_26 d_28 e_29 H locs h hP hD hS => ?_)
  obtain ⟨hd, h⟩ := h
  refine lv_aload_n G.1 G.2.1 d_Mo_putMethod_33 rfl (lv_at hl 0 rfl) ?_
  refine lv_aload_n G.1 G.2.1 d_Mo_putMethod_34 rfl (lv_at hl 0 rfl) ?_
  obtain ⟨b_33, e_34, c_35, h⟩ := h
  refine ugf (v := .ref (ad b_33)) G hP h_a0 iMo rfl 45 (by decide) rfl q3109 rfl (by show va_rf ((sO s_26 a0 45).map ad) = _; rw [e_34]; rfl) d_Mo_putMethod_35 ?_
  refine ugfN (v := .ref (yP y_27 b_33 19)) G hP c_35 iMw rfl 19 (by decide) rfl q2742 rfl rfl d_Mo_putMethod_38 ?_
  refine lv_iload_n G.1 G.2.1 d_Mo_putMethod_41 rfl (lv_at hl 1 rfl) ?_
  refine uiald G hP (kdp c_35 rfl) (typ c_35 rfl) h d_Mo_putMethod_42 (fun x_36 h => ?_)
  refine W.eq (g2 := F0 m 43 ls [.int x_36, .ref (ad a0)]) rfl ?_
  obtain ⟨mc_42, ms_43, hr_44, h⟩ := h
  refine utVv (As := [.int x_36]) (rest := []) G hP hD hS (ca_Mo_putSignature l D g F sl hF ad mc_42 ms_43 y_27 _ s_26 a0 x_36 H.size (us H) h_a0 h) w9_Mo_putSignature q4090 ⟨Nat.le_of_ble_eq_true rfl, Nat.le_of_ble_eq_true rfl⟩ rfl rfl h_a0 (q := (RMo, TMo, 131)) rfl rfl hl.1 rfl (Nat.le_of_ble_eq_true rfl) rfl hr_44 d_Mo_putMethod_43 (fun y_39 s_38 d_40 e_41 H locs h hP hD hS => ?_)
  obtain ⟨hd, h⟩ := h
  refine lv_aload_n G.1 G.2.1 d_Mo_putMethod_46 rfl (lv_at hl 0 rfl) ?_
  refine lv_bipush (v := 10) G.1 G.2.1 d_Mo_putMethod_47 (by decide) ?_
  obtain ⟨mc_50, ms_51, hr_52, h⟩ := h
  refine uaVv (As := [.int 10]) (rest := []) G hP hD hS (ca_Mo_put l D g ad mc_50 ms_51 y_39 _ s_38 a0 10 H.size (us H) h_a0 h) w9_Mo_put q4055 ⟨Nat.le_of_ble_eq_true rfl, Nat.le_of_ble_eq_true rfl⟩ rfl rfl h_a0 (q := (RMo, TMo, 131)) rfl rfl hl.1 rfl (Nat.le_of_ble_eq_true rfl) rfl hr_52 d_Mo_putMethod_49 (fun y_47 s_46 d_48 e_49 H locs h hP hD hS => ?_)
  obtain ⟨hd, h⟩ := h
  refine lv_aload_n G.1 G.2.1 d_Mo_putMethod_52 rfl (lv_at hl 0 rfl) ?_
  obtain ⟨b_53, e_54, c_55, h⟩ := h
  refine ugf (v := .ref (ad b_53)) G hP h_a0 iMo rfl 45 (by decide) rfl q3109 rfl (by show va_rf ((sO s_46 a0 45).map ad) = _; rw [e_54]; rfl) d_Mo_putMethod_53 ?_
  refine ugfN (v := .ref (yP y_47 b_53 20)) G hP c_55 iMw rfl 20 (by decide) rfl q2744 rfl rfl d_Mo_putMethod_56 ?_
  refine lv_iload_n G.1 G.2.1 d_Mo_putMethod_59 rfl (lv_at hl 1 rfl) ?_
  refine uiald G hP (kdp c_55 rfl) (typ c_55 rfl) h d_Mo_putMethod_60 (fun x_56 h => ?_)
  refine lv_bipush (v := 8) G.1 G.2.1 d_Mo_putMethod_61 (by decide) ?_
  refine lv_iand G.1 G.2.1 d_Mo_putMethod_63 ?_
  refine lv_if_eq (tgt := 68) G.1 G.2.1 d_Mo_putMethod_64 (by decide) (fun c64 => ?_) (fun c64 => ?_)
  · skip
    have h := h.1 c64
    refine W.eq (g2 := F0 m 68 ls []) rfl ?_
    refine lv_aload_n G.1 G.2.1 d_Mo_putMethod_68 rfl (lv_at hl 0 rfl) ?_
    refine uldcw (n := 52) hF rfl G d_Mo_putMethod_69 ?_
    obtain ⟨mc_62, ms_63, hr_64, h⟩ := h
    refine utVv (As := [.ref (sk (F 52))]) (rest := []) G hP hD hS (ca_Mo_putWord l D g F sl hF ad mc_62 ms_63 y_47 _ s_46 a0 52 H.size (us H) h_a0 (by decide +kernel) h) w9_Mo_putWord q4051 ⟨Nat.le_of_ble_eq_true rfl, Nat.le_of_ble_eq_true rfl⟩ rfl rfl h_a0 (q := (RMo, TMo, 131)) rfl rfl hl.1 rfl (Nat.le_of_ble_eq_true rfl) rfl hr_64 d_Mo_putMethod_72 (fun y_59 s_58 d_60 e_61 H locs h hP hD hS => ?_)
    obtain ⟨hd, h⟩ := h
    refine lv_aload_n G.1 G.2.1 d_Mo_putMethod_75 rfl (lv_at hl 0 rfl) ?_
    refine lv_aload_n G.1 G.2.1 d_Mo_putMethod_76 rfl (lv_at hl 0 rfl) ?_
    obtain ⟨b_65, e_66, c_67, h⟩ := h
    refine ugf (v := .ref (ad b_65)) G hP h_a0 iMo rfl 45 (by decide) rfl q3109 rfl (by show va_rf ((sO s_58 a0 45).map ad) = _; rw [e_66]; rfl) d_Mo_putMethod_77 ?_
    refine ugfN (v := .ref (yP y_59 b_65 21)) G hP c_67 iMw rfl 21 (by decide) rfl q2746 rfl rfl d_Mo_putMethod_80 ?_
    refine lv_iload_n G.1 G.2.1 d_Mo_putMethod_83 rfl (lv_at hl 1 rfl) ?_
    refine uiald G hP (kdp c_67 rfl) (typ c_67 rfl) h d_Mo_putMethod_84 (fun x_68 h => ?_)
    obtain ⟨mc_74, ms_75, hr_76, h⟩ := h
    refine uaVv (As := [.int x_68]) (rest := []) G hP hD hS (ca_Mo_putNumber l D g ad mc_74 ms_75 y_59 _ s_58 a0 x_68 H.size (us H) h_a0 h) w9_Mo_putNumber q4081 ⟨Nat.le_of_ble_eq_true rfl, Nat.le_of_ble_eq_true rfl⟩ rfl rfl h_a0 (q := (RMo, TMo, 131)) rfl rfl hl.1 rfl (Nat.le_of_ble_eq_true rfl) rfl hr_76 d_Mo_putMethod_85 (fun y_71 s_70 d_72 e_73 H locs h hP hD hS => ?_)
    obtain ⟨hd, h⟩ := h
    refine lv_aload_n G.1 G.2.1 d_Mo_putMethod_88 rfl (lv_at hl 0 rfl) ?_
    refine lv_bipush (v := 32) G.1 G.2.1 d_Mo_putMethod_89 (by decide) ?_
    refine W.eq (g2 := F0 m 91 ls [.int 32, .ref (ad a0)]) rfl ?_
    obtain ⟨mc_82, ms_83, hr_84, h⟩ := h
    refine uaVv (As := [.int 32]) (rest := []) G hP hD hS (ca_Mo_put l D g ad mc_82 ms_83 y_71 _ s_70 a0 32 H.size (us H) h_a0 h) w9_Mo_put q4055 ⟨Nat.le_of_ble_eq_true rfl, Nat.le_of_ble_eq_true rfl⟩ rfl rfl h_a0 (q := (RMo, TMo, 131)) rfl rfl hl.1 rfl (Nat.le_of_ble_eq_true rfl) rfl hr_84 d_Mo_putMethod_91 (fun y_79 s_78 d_80 e_81 H locs h hP hD hS => ?_)
    obtain ⟨hd, h⟩ := h
    refine lv_aload_n G.1 G.2.1 d_Mo_putMethod_94 rfl (lv_at hl 0 rfl) ?_
    refine lv_aload_n G.1 G.2.1 d_Mo_putMethod_95 rfl (lv_at hl 0 rfl) ?_
    obtain ⟨b_85, e_86, c_87, h⟩ := h
    refine ugf (v := .ref (ad b_85)) G hP h_a0 iMo rfl 45 (by decide) rfl q3109 rfl (by show va_rf ((sO s_78 a0 45).map ad) = _; rw [e_86]; rfl) d_Mo_putMethod_96 ?_
    refine ugfN (v := .ref (yP y_79 b_85 22)) G hP c_87 iMw rfl 22 (by decide) rfl q2748 rfl rfl d_Mo_putMethod_99 ?_
    refine lv_iload_n G.1 G.2.1 d_Mo_putMethod_102 rfl (lv_at hl 1 rfl) ?_
    refine uiald G hP (kdp c_87 rfl) (typ c_87 rfl) h d_Mo_putMethod_103 (fun x_88 h => ?_)
    obtain ⟨mc_94, ms_95, hr_96, h⟩ := h
    refine uaVv (As := [.int x_88]) (rest := []) G hP hD hS (ca_Mo_putNumber l D g ad mc_94 ms_95 y_79 _ s_78 a0 x_88 H.size (us H) h_a0 h) w9_Mo_putNumber q4081 ⟨Nat.le_of_ble_eq_true rfl, Nat.le_of_ble_eq_true rfl⟩ rfl rfl h_a0 (q := (RMo, TMo, 131)) rfl rfl hl.1 rfl (Nat.le_of_ble_eq_true rfl) rfl hr_96 d_Mo_putMethod_104 (fun y_91 s_90 d_92 e_93 H locs h hP hD hS => ?_)
    obtain ⟨hd, h⟩ := h
    refine lv_aload_n G.1 G.2.1 d_Mo_putMethod_107 rfl (lv_at hl 0 rfl) ?_
    refine lv_bipush (v := 10) G.1 G.2.1 d_Mo_putMethod_108 (by decide) ?_
    obtain ⟨mc_102, ms_103, hr_104, h⟩ := h
    refine uaVv (As := [.int 10]) (rest := []) G hP hD hS (ca_Mo_put l D g ad mc_102 ms_103 y_91 _ s_90 a0 10 H.size (us H) h_a0 h) w9_Mo_put q4055 ⟨Nat.le_of_ble_eq_true rfl, Nat.le_of_ble_eq_true rfl⟩ rfl rfl h_a0 (q := (RMo, TMo, 131)) rfl rfl hl.1 rfl (Nat.le_of_ble_eq_true rfl) rfl hr_104 d_Mo_putMethod_110 (fun y_99 s_98 d_100 e_101 H locs h hP hD hS => ?_)
    obtain ⟨hd, h⟩ := h
    refine lv_aload_n G.1 G.2.1 d_Mo_putMethod_113 rfl (lv_at hl 0 rfl) ?_
    refine W.eq (g2 := F0 m 114 ls [.ref (ad a0)]) rfl ?_
    obtain ⟨b_105, e_106, c_107, h⟩ := h
    refine ugf (v := .ref (ad b_105)) G hP h_a0 iMo rfl 45 (by decide) rfl q3109 rfl (by show va_rf ((sO s_98 a0 45).map ad) = _; rw [e_106]; rfl) d_Mo_putMethod_114 ?_
    refine ugfN (v := .ref (yP y_99 b_105 23)) G hP c_107 iMw rfl 23 (by decide) rfl q2750 rfl rfl d_Mo_putMethod_117 ?_
    refine lv_iload_n G.1 G.2.1 d_Mo_putMethod_120 rfl (lv_at hl 1 rfl) ?_
    refine uiald G hP (kdp c_107 rfl) (typ c_107 rfl) h d_Mo_putMethod_121 (fun x_108 h => ?_)
    refine lv_istore_n (lv' := [(2, .int x_108), (0, .ref (ad a0)), (1, .int v1)]) G.1 G.2.1 d_Mo_putMethod_122 rfl hl (by decide) rfl (fun ls hl => ?_)
    refine lv_aload_n G.1 G.2.1 d_Mo_putMethod_123 rfl (lv_at hl 1 rfl) ?_
    refine ugf (v := .ref (ad b_105)) G hP h_a0 iMo rfl 45 (by decide) rfl q3109 rfl (by show va_rf ((sO s_98 a0 45).map ad) = _; rw [e_106]; rfl) d_Mo_putMethod_124 ?_
    refine ugfN (v := .ref (yP y_99 b_105 24)) G hP c_107 iMw rfl 24 (by decide) rfl q2752 rfl rfl d_Mo_putMethod_127 ?_
    refine lv_iload_n G.1 G.2.1 d_Mo_putMethod_130 rfl (lv_at hl 2 rfl) ?_
    refine uiald G hP (kdp c_107 rfl) (typ c_107 rfl) h d_Mo_putMethod_131 (fun x_109 h => ?_)
    refine lv_istore_n (lv' := [(3, .int x_109), (2, .int x_108), (0, .ref (ad a0)), (1, .int v1)]) G.1 G.2.1 d_Mo_putMethod_132 rfl hl (by decide) rfl (fun ls hl => ?_)
    refine lv_bipush (v := 8) G.1 G.2.1 d_Mo_putMethod_133 (by decide) ?_
    refine W.eq (g2 := F0 m 135 ls [.int 8]) rfl ?_
    refine lv_iload_n G.1 G.2.1 d_Mo_putMethod_135 rfl (lv_at hl 3 rfl) ?_
    refine lv_imul G.1 G.2.1 d_Mo_putMethod_136 ?_
    refine lv_aload_n G.1 G.2.1 d_Mo_putMethod_137 rfl (lv_at hl 2 rfl) ?_
    refine ugf (v := .ref (ad b_105)) G hP h_a0 iMo rfl 45 (by decide) rfl q3109 rfl (by show va_rf ((sO s_98 a0 45).map ad) = _; rw [e_106]; rfl) d_Mo_putMethod_138 ?_
    refine ugfN (v := .ref (yP y_99 b_105 25)) G hP c_107 iMw rfl 25 (by decide) rfl q2754 rfl rfl d_Mo_putMethod_141 ?_
    refine lv_iload_n G.1 G.2.1 d_Mo_putMethod_144 rfl (lv_at hl 3 rfl) ?_
    refine uiald G hP (kdp c_107 rfl) (typ c_107 rfl) h d_Mo_putMethod_145 (fun x_110 h => ?_)
    refine lv_iadd G.1 G.2.1 d_Mo_putMethod_146 ?_
    refine lv_istore (lv' := [(4, .int ((8 * v1) + x_110)), (3, .int x_109), (2, .int x_108), (0, .ref (ad a0)), (1, .int v1)]) G.1 G.2.1 d_Mo_putMethod_147 hl (by decide) rfl (fun ls hl => ?_)
    refine lv_iconst (v := 0) G.1 G.2.1 d_Mo_putMethod_149 (by decide) ?_
    refine lv_istore (lv' := [(5, .int 0), (4, .int ((8 * v1) + x_110)), (3, .int x_109), (2, .int x_108), (0, .ref (ad a0)), (1, .int v1)]) G.1 G.2.1 d_Mo_putMethod_150 hl (by decide) rfl (fun ls hl => ?_)
    unfold wla_Mo_putMethod_152 at h
    obtain ⟨I_152, μ_152, hI_152, hB_152⟩ := h
    have L_152 : ∀ (n_152 : Nat) (y_h152 : Ly) (s_h152 : St) (d_h152 e_h152 : Nat) (x1h152 : Int32) (x2h152 : Int32) (x3h152 : Int32) (x4h152 : Int32) (x5h152 : Int32), μ_152 y_h152 s_h152 d_h152 e_h152 x1h152 x2h152 x3h152 x4h152 x5h152 < n_152 → I_152 y_h152 s_h152 d_h152 e_h152 x1h152 x2h152 x3h152 x4h152 x5h152 → ∀ (H : Heap) (locs : List Loc), va_P D CL (ws g ad y_h152 s_h152) H → va_D A (ws g ad y_h152 s_h152) → va_S A s.heap H locs → ∀ ls, lv_has ls 8 [(0, .ref (ad a0)), (1, .int x1h152), (2, .int x2h152), (3, .int x3h152), (4, .int x4h152), (5, .int x5h152)] → W p l e (ra_Mo_putMethod mc ms) s m args below meth c H locs d_h152 e_h152 Q (F0 m 152 ls []) := by
      intro n_152
      induction n_152 with
      | zero => intro y_h152 s_h152 d_h152 e_h152 x1h152 x2h152 x3h152 x4h152 x5h152 hμ; exact absurd hμ (Nat.not_lt_zero _)
      | succ n_152 ih_152 =>
        intro y_h152 s_h152 d_h152 e_h152 x1h152 x2h152 x3h152 x4h152 x5h152 hμ_152 hJ H locs hP hD hS ls hl
        obtain ⟨K_152, hK_152, h⟩ : ∃ K : Ly → St → Nat → Nat → Int32 → Int32 → Int32 → Int32 → Int32 → Prop, (∀ z1 z2 z3 z4 (t0 : Int32) (t1 : Int32) (t2 : Int32) (t3 : Int32) (t4 : Int32), K z1 z2 z3 z4 t0 t1 t2 t3 t4 → I_152 z1 z2 z3 z4 t0 t1 t2 t3 t4 ∧ μ_152 z1 z2 z3 z4 t0 t1 t2 t3 t4 < μ_152 y_h152 s_h152 d_h152 e_h152 x1h152 x2h152 x3h152 x4h152 x5h152) ∧ wba_Mo_putMethod_152 mc ms Post K a0 y_h152 s_h152 d_h152 e_h152 x1h152 x2h152 x3h152 x4h152 x5h152 := ⟨_, fun _ _ _ _ _ _ _ _ _ h => h, hB_152 y_h152 s_h152 d_h152 e_h152 x1h152 x2h152 x3h152 x4h152 x5h152 hJ⟩
        unfold wba_Mo_putMethod_152 at h
        obtain ⟨hd, h⟩ := h
        refine lv_iload G.1 G.2.1 d_Mo_putMethod_152 (lv_at hl 5 rfl) ?_
        refine lv_iload_n G.1 G.2.1 d_Mo_putMethod_154 rfl (lv_at hl 3 rfl) ?_
        refine lv_icmp_gt (tgt := 172) G.1 G.2.1 d_Mo_putMethod_155 (by decide) (fun c155 => ?_) (fun c155 => ?_)
        · skip
          have h := h.1 c155
          refine lv_iload_n G.1 G.2.1 d_Mo_putMethod_172 rfl (lv_at hl 2 rfl) ?_
          refine lv_istore (lv' := [(5, .int x2h152), (0, .ref (ad a0)), (1, .int x1h152), (2, .int x2h152), (3, .int x3h152), (4, .int x4h152)]) G.1 G.2.1 d_Mo_putMethod_173 hl (by decide) rfl (fun ls hl => ?_)
          unfold wla_Mo_putMethod_175 at h
          obtain ⟨I_175, μ_175, hI_175, hB_175⟩ := h
          have L_175 : ∀ (n_175 : Nat) (y_h175 : Ly) (s_h175 : St) (d_h175 e_h175 : Nat) (x1h175 : Int32) (x2h175 : Int32) (x3h175 : Int32) (x4h175 : Int32) (x5h175 : Int32), μ_175 y_h175 s_h175 d_h175 e_h175 x1h175 x2h175 x3h175 x4h175 x5h175 < n_175 → I_175 y_h175 s_h175 d_h175 e_h175 x1h175 x2h175 x3h175 x4h175 x5h175 → ∀ (H : Heap) (locs : List Loc), va_P D CL (ws g ad y_h175 s_h175) H → va_D A (ws g ad y_h175 s_h175) → va_S A s.heap H locs → ∀ ls, lv_has ls 8 [(0, .ref (ad a0)), (1, .int x1h175), (2, .int x2h175), (3, .int x3h175), (4, .int x4h175), (5, .int x5h175)] → W p l e (ra_Mo_putMethod mc ms) s m args below meth c H locs d_h175 e_h175 Q (F0 m 175 ls []) := by
            intro n_175
            induction n_175 with
            | zero => intro y_h175 s_h175 d_h175 e_h175 x1h175 x2h175 x3h175 x4h175 x5h175 hμ; exact absurd hμ (Nat.not_lt_zero _)
            | succ n_175 ih_175 =>
              intro y_h175 s_h175 d_h175 e_h175 x1h175 x2h175 x3h175 x4h175 x5h175 hμ_175 hJ H locs hP hD hS ls hl
              obtain ⟨K_175, hK_175, h⟩ : ∃ K : Ly → St → Nat → Nat → Int32 → Int32 → Int32 → Int32 → Int32 → Prop, (∀ z1 z2 z3 z4 (t0 : Int32) (t1 : Int32) (t2 : Int32) (t3 : Int32) (t4 : Int32), K z1 z2 z3 z4 t0 t1 t2 t3 t4 → I_175 z1 z2 z3 z4 t0 t1 t2 t3 t4 ∧ μ_175 z1 z2 z3 z4 t0 t1 t2 t3 t4 < μ_175 y_h175 s_h175 d_h175 e_h175 x1h175 x2h175 x3h175 x4h175 x5h175) ∧ wba_Mo_putMethod_175 mc ms Post K a0 y_h175 s_h175 d_h175 e_h175 x1h175 x2h175 x3h175 x4h175 x5h175 := ⟨_, fun _ _ _ _ _ _ _ _ _ h => h, hB_175 y_h175 s_h175 d_h175 e_h175 x1h175 x2h175 x3h175 x4h175 x5h175 hJ⟩
              unfold wba_Mo_putMethod_175 at h
              obtain ⟨hd, h⟩ := h
              refine lv_iload G.1 G.2.1 d_Mo_putMethod_175 (lv_at hl 5 rfl) ?_
              refine lv_iload_n G.1 G.2.1 d_Mo_putMethod_177 rfl (lv_at hl 2 rfl) ?_
              refine lv_iload_n G.1 G.2.1 d_Mo_putMethod_178 rfl (lv_at hl 3 rfl) ?_
              refine lv_iadd G.1 G.2.1 d_Mo_putMethod_179 ?_
              refine lv_icmp_ge (tgt := 289) G.1 G.2.1 d_Mo_putMethod_180 (by decide) (fun c180 => ?_) (fun c180 => ?_)
              · skip
                have h := h.1 c180
                refine lv_bipush (v := 8) G.1 G.2.1 d_Mo_putMethod_289 (by decide) ?_
                refine lv_iload_n G.1 G.2.1 d_Mo_putMethod_291 rfl (lv_at hl 1 rfl) ?_
                refine lv_imul G.1 G.2.1 d_Mo_putMethod_292 ?_
                refine lv_istore (lv' := [(5, .int (8 * x1h175)), (0, .ref (ad a0)), (1, .int x1h175), (2, .int x2h175), (3, .int x3h175), (4, .int x4h175)]) G.1 G.2.1 d_Mo_putMethod_293 hl (by decide) rfl (fun ls hl => ?_)
                unfold wla_Mo_putMethod_295 at h
                obtain ⟨I_295, μ_295, hI_295, hB_295⟩ := h
                have L_295 : ∀ (n_295 : Nat) (y_h295 : Ly) (s_h295 : St) (d_h295 e_h295 : Nat) (x1h295 : Int32) (x2h295 : Int32) (x3h295 : Int32) (x4h295 : Int32) (x5h295 : Int32), μ_295 y_h295 s_h295 d_h295 e_h295 x1h295 x2h295 x3h295 x4h295 x5h295 < n_295 → I_295 y_h295 s_h295 d_h295 e_h295 x1h295 x2h295 x3h295 x4h295 x5h295 → ∀ (H : Heap) (locs : List Loc), va_P D CL (ws g ad y_h295 s_h295) H → va_D A (ws g ad y_h295 s_h295) → va_S A s.heap H locs → ∀ ls, lv_has ls 8 [(0, .ref (ad a0)), (1, .int x1h295), (2, .int x2h295), (3, .int x3h295), (4, .int x4h295), (5, .int x5h295)] → W p l e (ra_Mo_putMethod mc ms) s m args below meth c H locs d_h295 e_h295 Q (F0 m 295 ls []) := by
                  intro n_295
                  induction n_295 with
                  | zero => intro y_h295 s_h295 d_h295 e_h295 x1h295 x2h295 x3h295 x4h295 x5h295 hμ; exact absurd hμ (Nat.not_lt_zero _)
                  | succ n_295 ih_295 =>
                    intro y_h295 s_h295 d_h295 e_h295 x1h295 x2h295 x3h295 x4h295 x5h295 hμ_295 hJ H locs hP hD hS ls hl
                    obtain ⟨K_295, hK_295, h⟩ : ∃ K : Ly → St → Nat → Nat → Int32 → Int32 → Int32 → Int32 → Int32 → Prop, (∀ z1 z2 z3 z4 (t0 : Int32) (t1 : Int32) (t2 : Int32) (t3 : Int32) (t4 : Int32), K z1 z2 z3 z4 t0 t1 t2 t3 t4 → I_295 z1 z2 z3 z4 t0 t1 t2 t3 t4 ∧ μ_295 z1 z2 z3 z4 t0 t1 t2 t3 t4 < μ_295 y_h295 s_h295 d_h295 e_h295 x1h295 x2h295 x3h295 x4h295 x5h295) ∧ wba_Mo_putMethod_295 mc ms Post K a0 y_h295 s_h295 d_h295 e_h295 x1h295 x2h295 x3h295 x4h295 x5h295 := ⟨_, fun _ _ _ _ _ _ _ _ _ h => h, hB_295 y_h295 s_h295 d_h295 e_h295 x1h295 x2h295 x3h295 x4h295 x5h295 hJ⟩
                    unfold wba_Mo_putMethod_295 at h
                    obtain ⟨hd, h⟩ := h
                    refine lv_iload G.1 G.2.1 d_Mo_putMethod_295 (lv_at hl 5 rfl) ?_
                    refine lv_iload G.1 G.2.1 d_Mo_putMethod_297 (lv_at hl 4 rfl) ?_
                    refine lv_icmp_ge (tgt := 356) G.1 G.2.1 d_Mo_putMethod_299 (by decide) (fun c299 => ?_) (fun c299 => ?_)
                    · skip
                      have h := h.1 c299
                      refine lv_iconst (v := 0) G.1 G.2.1 d_Mo_putMethod_356 (by decide) ?_
                      refine lv_istore (lv' := [(5, .int 0), (0, .ref (ad a0)), (1, .int x1h295), (2, .int x2h295), (3, .int x3h295), (4, .int x4h295)]) G.1 G.2.1 d_Mo_putMethod_357 hl (by decide) rfl (fun ls hl => ?_)
                      unfold wla_Mo_putMethod_359 at h
                      obtain ⟨I_359, μ_359, hI_359, hB_359⟩ := h
                      have L_359 : ∀ (n_359 : Nat) (y_h359 : Ly) (s_h359 : St) (d_h359 e_h359 : Nat) (x1h359 : Int32) (x2h359 : Int32) (x3h359 : Int32) (x4h359 : Int32) (x5h359 : Int32), μ_359 y_h359 s_h359 d_h359 e_h359 x1h359 x2h359 x3h359 x4h359 x5h359 < n_359 → I_359 y_h359 s_h359 d_h359 e_h359 x1h359 x2h359 x3h359 x4h359 x5h359 → ∀ (H : Heap) (locs : List Loc), va_P D CL (ws g ad y_h359 s_h359) H → va_D A (ws g ad y_h359 s_h359) → va_S A s.heap H locs → ∀ ls, lv_has ls 8 [(0, .ref (ad a0)), (1, .int x1h359), (2, .int x2h359), (3, .int x3h359), (4, .int x4h359), (5, .int x5h359)] → W p l e (ra_Mo_putMethod mc ms) s m args below meth c H locs d_h359 e_h359 Q (F0 m 359 ls []) := by
                        intro n_359
                        induction n_359 with
                        | zero => intro y_h359 s_h359 d_h359 e_h359 x1h359 x2h359 x3h359 x4h359 x5h359 hμ; exact absurd hμ (Nat.not_lt_zero _)
                        | succ n_359 ih_359 =>
                          intro y_h359 s_h359 d_h359 e_h359 x1h359 x2h359 x3h359 x4h359 x5h359 hμ_359 hJ H locs hP hD hS ls hl
                          obtain ⟨K_359, hK_359, h⟩ : ∃ K : Ly → St → Nat → Nat → Int32 → Int32 → Int32 → Int32 → Int32 → Prop, (∀ z1 z2 z3 z4 (t0 : Int32) (t1 : Int32) (t2 : Int32) (t3 : Int32) (t4 : Int32), K z1 z2 z3 z4 t0 t1 t2 t3 t4 → I_359 z1 z2 z3 z4 t0 t1 t2 t3 t4 ∧ μ_359 z1 z2 z3 z4 t0 t1 t2 t3 t4 < μ_359 y_h359 s_h359 d_h359 e_h359 x1h359 x2h359 x3h359 x4h359 x5h359) ∧ wba_Mo_putMethod_359 mc ms Post K a0 y_h359 s_h359 d_h359 e_h359 x1h359 x2h359 x3h359 x4h359 x5h359 := ⟨_, fun _ _ _ _ _ _ _ _ _ h => h, hB_359 y_h359 s_h359 d_h359 e_h359 x1h359 x2h359 x3h359 x4h359 x5h359 hJ⟩
                          unfold wba_Mo_putMethod_359 at h
                          obtain ⟨hd, h⟩ := h
                          refine lv_iload G.1 G.2.1 d_Mo_putMethod_359 (lv_at hl 5 rfl) ?_
                          refine lv_iload_n G.1 G.2.1 d_Mo_putMethod_361 rfl (lv_at hl 3 rfl) ?_
                          refine lv_icmp_ge (tgt := 381) G.1 G.2.1 d_Mo_putMethod_362 (by decide) (fun c362 => ?_) (fun c362 => ?_)
                          · skip
                            have h := h.1 c362
                            refine lv_aload_n G.1 G.2.1 d_Mo_putMethod_381 rfl (lv_at hl 0 rfl) ?_
                            refine ugf (v := .ref (yP y_h359 a0 96)) G hP h_a0 iMo rfl 96 (by decide) rfl q3160 rfl rfl d_Mo_putMethod_382 ?_
                            refine lv_iload_n G.1 G.2.1 d_Mo_putMethod_385 rfl (lv_at hl 3 rfl) ?_
                            refine uzald G hP (kdp h_a0 rfl) (typ h_a0 rfl) h d_Mo_putMethod_386 (fun x_111 h => ?_)
                            have J_414 : ∀ (y_j414 : Ly) (s_j414 : St) (d_j414 e_j414 : Nat) (x1j414 : Int32) (x4j414 : Int32) (H : Heap) (locs : List Loc), wja_Mo_putMethod_414 mc ms Post a0 y_j414 s_j414 d_j414 e_j414 x1j414 x4j414 → va_P D CL (ws g ad y_j414 s_j414) H → va_D A (ws g ad y_j414 s_j414) → va_S A s.heap H locs → ∀ ls, lv_has ls 8 [(0, .ref (ad a0)), (1, .int x1j414), (4, .int x4j414)] → W p l e (ra_Mo_putMethod mc ms) s m args below meth c H locs d_j414 e_j414 Q (F0 m 414 ls []) := by
                              intro y_j414 s_j414 d_j414 e_j414 x1j414 x4j414 H locs h hP hD hS ls hl
                              unfold wja_Mo_putMethod_414 at h
                              obtain ⟨hd, h⟩ := h
                              refine lv_bipush (v := 8) G.1 G.2.1 d_Mo_putMethod_414 (by decide) ?_
                              refine lv_iload_n G.1 G.2.1 d_Mo_putMethod_416 rfl (lv_at hl 1 rfl) ?_
                              refine lv_imul G.1 G.2.1 d_Mo_putMethod_417 ?_
                              refine lv_istore (lv' := [(5, .int (8 * x1j414)), (0, .ref (ad a0)), (1, .int x1j414), (4, .int x4j414)]) G.1 G.2.1 d_Mo_putMethod_418 hl (by decide) rfl (fun ls hl => ?_)
                              unfold wla_Mo_putMethod_420 at h
                              obtain ⟨I_420, μ_420, hI_420, hB_420⟩ := h
                              have L_420 : ∀ (n_420 : Nat) (y_h420 : Ly) (s_h420 : St) (d_h420 e_h420 : Nat) (x4h420 : Int32) (x5h420 : Int32), μ_420 y_h420 s_h420 d_h420 e_h420 x4h420 x5h420 < n_420 → I_420 y_h420 s_h420 d_h420 e_h420 x4h420 x5h420 → ∀ (H : Heap) (locs : List Loc), va_P D CL (ws g ad y_h420 s_h420) H → va_D A (ws g ad y_h420 s_h420) → va_S A s.heap H locs → ∀ ls, lv_has ls 8 [(0, .ref (ad a0)), (4, .int x4h420), (5, .int x5h420)] → W p l e (ra_Mo_putMethod mc ms) s m args below meth c H locs d_h420 e_h420 Q (F0 m 420 ls []) := by
                                intro n_420
                                induction n_420 with
                                | zero => intro y_h420 s_h420 d_h420 e_h420 x4h420 x5h420 hμ; exact absurd hμ (Nat.not_lt_zero _)
                                | succ n_420 ih_420 =>
                                  intro y_h420 s_h420 d_h420 e_h420 x4h420 x5h420 hμ_420 hJ H locs hP hD hS ls hl
                                  obtain ⟨K_420, hK_420, h⟩ : ∃ K : Ly → St → Nat → Nat → Int32 → Int32 → Prop, (∀ z1 z2 z3 z4 (t0 : Int32) (t1 : Int32), K z1 z2 z3 z4 t0 t1 → I_420 z1 z2 z3 z4 t0 t1 ∧ μ_420 z1 z2 z3 z4 t0 t1 < μ_420 y_h420 s_h420 d_h420 e_h420 x4h420 x5h420) ∧ wba_Mo_putMethod_420 mc ms Post K a0 y_h420 s_h420 d_h420 e_h420 x4h420 x5h420 := ⟨_, fun _ _ _ _ _ _ h => h, hB_420 y_h420 s_h420 d_h420 e_h420 x4h420 x5h420 hJ⟩
                                  unfold wba_Mo_putMethod_420 at h
                                  obtain ⟨hd, h⟩ := h
                                  refine lv_iload G.1 G.2.1 d_Mo_putMethod_420 (lv_at hl 2 rfl) ?_
                                  refine lv_iload G.1 G.2.1 d_Mo_putMethod_422 (lv_at hl 1 rfl) ?_
                                  refine lv_icmp_ge (tgt := 540) G.1 G.2.1 d_Mo_putMethod_424 (by decide) (fun c424 => ?_) (fun c424 => ?_)
                                  · skip
                                    have h := h.1 c424
                                    exact hret (y_h420, s_h420, d_h420, e_h420) _ _ _ _ _ ls h hP hD hS (Nat.le_refl _) (Nat.le_refl _) hd.1 hd.2 d_Mo_putMethod_540
                                  · skip
                                    have h := h.2 c424
                                    refine lv_aload_n G.1 G.2.1 d_Mo_putMethod_427 rfl (lv_at hl 0 rfl) ?_
                                    refine uldcw (n := 56) hF rfl G d_Mo_putMethod_428 ?_
                                    obtain ⟨mc_117, ms_118, hr_119, h⟩ := h
                                    refine utVv (As := [.ref (sk (F 56))]) (rest := []) G hP hD hS (ca_Mo_putWord l D g F sl hF ad mc_117 ms_118 y_h420 _ s_h420 a0 56 H.size (us H) h_a0 (by decide +kernel) h) w9_Mo_putWord q4051 ⟨Nat.le_of_ble_eq_true rfl, Nat.le_of_ble_eq_true rfl⟩ rfl rfl h_a0 (q := (RMo, TMo, 131)) rfl rfl hl.1 rfl (Nat.le_of_ble_eq_true rfl) rfl hr_119 d_Mo_putMethod_431 (fun y_114 s_113 d_115 e_116 H locs h hP hD hS => ?_)
                                    obtain ⟨hd, h⟩ := h
                                    refine lv_aload_n G.1 G.2.1 d_Mo_putMethod_434 rfl (lv_at hl 0 rfl) ?_
                                    refine lv_aload_n G.1 G.2.1 d_Mo_putMethod_435 rfl (lv_at hl 0 rfl) ?_
                                    obtain ⟨b_120, e_121, c_122, h⟩ := h
                                    refine ugf (v := .ref (ad b_120)) G hP h_a0 iMo rfl 45 (by decide) rfl q3109 rfl (by show va_rf ((sO s_113 a0 45).map ad) = _; rw [e_121]; rfl) d_Mo_putMethod_436 ?_
                                    refine ugfN (v := .ref (yP y_114 b_120 26)) G hP c_122 iMw rfl 26 (by decide) rfl q2756 rfl rfl d_Mo_putMethod_439 ?_
                                    refine lv_iload G.1 G.2.1 d_Mo_putMethod_442 (lv_at hl 2 rfl) ?_
                                    refine W.eq (g2 := F0 m 444 ls [.int x5h420, .ref (yP y_114 b_120 26), .ref (ad a0)]) rfl ?_
                                    refine uiald G hP (kdp c_122 rfl) (typ c_122 rfl) h d_Mo_putMethod_444 (fun x_123 h => ?_)
                                    obtain ⟨mc_129, ms_130, hr_131, h⟩ := h
                                    refine uaVv (As := [.int x_123]) (rest := []) G hP hD hS (ca_Mo_putLabel l D g ad mc_129 ms_130 y_114 _ s_113 a0 x_123 H.size (us H) h_a0 h) w9_Mo_putLabel q4108 ⟨Nat.le_of_ble_eq_true rfl, Nat.le_of_ble_eq_true rfl⟩ rfl rfl h_a0 (q := (RMo, TMo, 131)) rfl rfl hl.1 rfl (Nat.le_of_ble_eq_true rfl) rfl hr_131 d_Mo_putMethod_445 (fun y_126 s_125 d_127 e_128 H locs h hP hD hS => ?_)
                                    obtain ⟨hd, h⟩ := h
                                    refine lv_aload_n G.1 G.2.1 d_Mo_putMethod_448 rfl (lv_at hl 0 rfl) ?_
                                    refine lv_bipush (v := 32) G.1 G.2.1 d_Mo_putMethod_449 (by decide) ?_
                                    obtain ⟨mc_137, ms_138, hr_139, h⟩ := h
                                    refine uaVv (As := [.int 32]) (rest := []) G hP hD hS (ca_Mo_put l D g ad mc_137 ms_138 y_126 _ s_125 a0 32 H.size (us H) h_a0 h) w9_Mo_put q4055 ⟨Nat.le_of_ble_eq_true rfl, Nat.le_of_ble_eq_true rfl⟩ rfl rfl h_a0 (q := (RMo, TMo, 131)) rfl rfl hl.1 rfl (Nat.le_of_ble_eq_true rfl) rfl hr_139 d_Mo_putMethod_451 (fun y_134 s_133 d_135 e_136 H locs h hP hD hS => ?_)
                                    obtain ⟨hd, h⟩ := h
                                    refine lv_aload_n G.1 G.2.1 d_Mo_putMethod_454 rfl (lv_at hl 0 rfl) ?_
                                    refine lv_aload_n G.1 G.2.1 d_Mo_putMethod_455 rfl (lv_at hl 0 rfl) ?_
                                    obtain ⟨b_140, e_141, c_142, h⟩ := h
                                    refine ugf (v := .ref (ad b_140)) G hP h_a0 iMo rfl 45 (by decide) rfl q3109 rfl (by show va_rf ((sO s_133 a0 45).map ad) = _; rw [e_141]; rfl) d_Mo_putMethod_456 ?_
                                    refine ugfN (v := .ref (yP y_134 b_140 27)) G hP c_142 iMw rfl 27 (by decide) rfl q2758 rfl rfl d_Mo_putMethod_459 ?_
                                    refine lv_iload G.1 G.2.1 d_Mo_putMethod_462 (lv_at hl 2 rfl) ?_
                                    refine uiald G hP (kdp c_142 rfl) (typ c_142 rfl) h d_Mo_putMethod_464 (fun x_143 h => ?_)
                                    obtain ⟨mc_149, ms_150, hr_151, h⟩ := h
                                    refine uaVv (As := [.int x_143]) (rest := []) G hP hD hS (ca_Mo_putLabel l D g ad mc_149 ms_150 y_134 _ s_133 a0 x_143 H.size (us H) h_a0 h) w9_Mo_putLabel q4108 ⟨Nat.le_of_ble_eq_true rfl, Nat.le_of_ble_eq_true rfl⟩ rfl rfl h_a0 (q := (RMo, TMo, 131)) rfl rfl hl.1 rfl (Nat.le_of_ble_eq_true rfl) rfl hr_151 d_Mo_putMethod_465 (fun y_146 s_145 d_147 e_148 H locs h hP hD hS => ?_)
                                    obtain ⟨hd, h⟩ := h
                                    refine W.eq (g2 := F0 m 468 ls []) rfl ?_
                                    refine lv_aload_n G.1 G.2.1 d_Mo_putMethod_468 rfl (lv_at hl 0 rfl) ?_
                                    refine lv_bipush (v := 32) G.1 G.2.1 d_Mo_putMethod_469 (by decide) ?_
                                    obtain ⟨mc_157, ms_158, hr_159, h⟩ := h
                                    refine uaVv (As := [.int 32]) (rest := []) G hP hD hS (ca_Mo_put l D g ad mc_157 ms_158 y_146 _ s_145 a0 32 H.size (us H) h_a0 h) w9_Mo_put q4055 ⟨Nat.le_of_ble_eq_true rfl, Nat.le_of_ble_eq_true rfl⟩ rfl rfl h_a0 (q := (RMo, TMo, 131)) rfl rfl hl.1 rfl (Nat.le_of_ble_eq_true rfl) rfl hr_159 d_Mo_putMethod_471 (fun y_154 s_153 d_155 e_156 H locs h hP hD hS => ?_)
                                    obtain ⟨hd, h⟩ := h
                                    refine lv_aload_n G.1 G.2.1 d_Mo_putMethod_474 rfl (lv_at hl 0 rfl) ?_
                                    refine lv_aload_n G.1 G.2.1 d_Mo_putMethod_475 rfl (lv_at hl 0 rfl) ?_
                                    obtain ⟨b_160, e_161, c_162, h⟩ := h
                                    refine ugf (v := .ref (ad b_160)) G hP h_a0 iMo rfl 45 (by decide) rfl q3109 rfl (by show va_rf ((sO s_153 a0 45).map ad) = _; rw [e_161]; rfl) d_Mo_putMethod_476 ?_
                                    refine ugfN (v := .ref (yP y_154 b_160 28)) G hP c_162 iMw rfl 28 (by decide) rfl q2760 rfl rfl d_Mo_putMethod_479 ?_
                                    refine lv_iload G.1 G.2.1 d_Mo_putMethod_482 (lv_at hl 2 rfl) ?_
                                    refine uiald G hP (kdp c_162 rfl) (typ c_162 rfl) h d_Mo_putMethod_484 (fun x_163 h => ?_)
                                    obtain ⟨mc_169, ms_170, hr_171, h⟩ := h
                                    refine uaVv (As := [.int x_163]) (rest := []) G hP hD hS (ca_Mo_putLabel l D g ad mc_169 ms_170 y_154 _ s_153 a0 x_163 H.size (us H) h_a0 h) w9_Mo_putLabel q4108 ⟨Nat.le_of_ble_eq_true rfl, Nat.le_of_ble_eq_true rfl⟩ rfl rfl h_a0 (q := (RMo, TMo, 131)) rfl rfl hl.1 rfl (Nat.le_of_ble_eq_true rfl) rfl hr_171 d_Mo_putMethod_485 (fun y_166 s_165 d_167 e_168 H locs h hP hD hS => ?_)
                                    obtain ⟨hd, h⟩ := h
                                    refine lv_aload_n G.1 G.2.1 d_Mo_putMethod_488 rfl (lv_at hl 0 rfl) ?_
                                    refine lv_bipush (v := 32) G.1 G.2.1 d_Mo_putMethod_489 (by decide) ?_
                                    refine W.eq (g2 := F0 m 491 ls [.int 32, .ref (ad a0)]) rfl ?_
                                    obtain ⟨mc_177, ms_178, hr_179, h⟩ := h
                                    refine uaVv (As := [.int 32]) (rest := []) G hP hD hS (ca_Mo_put l D g ad mc_177 ms_178 y_166 _ s_165 a0 32 H.size (us H) h_a0 h) w9_Mo_put q4055 ⟨Nat.le_of_ble_eq_true rfl, Nat.le_of_ble_eq_true rfl⟩ rfl rfl h_a0 (q := (RMo, TMo, 131)) rfl rfl hl.1 rfl (Nat.le_of_ble_eq_true rfl) rfl hr_179 d_Mo_putMethod_491 (fun y_174 s_173 d_175 e_176 H locs h hP hD hS => ?_)
                                    obtain ⟨hd, h⟩ := h
                                    refine lv_aload_n G.1 G.2.1 d_Mo_putMethod_494 rfl (lv_at hl 0 rfl) ?_
                                    refine lv_aload_n G.1 G.2.1 d_Mo_putMethod_495 rfl (lv_at hl 0 rfl) ?_
                                    obtain ⟨b_180, e_181, c_182, h⟩ := h
                                    refine ugf (v := .ref (ad b_180)) G hP h_a0 iMo rfl 45 (by decide) rfl q3109 rfl (by show va_rf ((sO s_173 a0 45).map ad) = _; rw [e_181]; rfl) d_Mo_putMethod_496 ?_
                                    refine ugfN (v := .ref (yP y_174 b_180 29)) G hP c_182 iMw rfl 29 (by decide) rfl q2762 rfl rfl d_Mo_putMethod_499 ?_
                                    refine lv_iload G.1 G.2.1 d_Mo_putMethod_502 (lv_at hl 2 rfl) ?_
                                    refine uiald G hP (kdp c_182 rfl) (typ c_182 rfl) h d_Mo_putMethod_504 (fun x_183 h => ?_)
                                    have J_525 : ∀ (y_j525 : Ly) (s_j525 : St) (d_j525 e_j525 : Nat) (x4j525 : Int32) (x5j525 : Int32) (z1j525 : Int32) (H : Heap) (locs : List Loc), wja_Mo_putMethod_525 mc ms Post K_420 a0 y_j525 s_j525 d_j525 e_j525 x4j525 x5j525 z1j525 → va_P D CL (ws g ad y_j525 s_j525) H → va_D A (ws g ad y_j525 s_j525) → va_S A s.heap H locs → ∀ ls, lv_has ls 8 [(0, .ref (ad a0)), (4, .int x4j525), (5, .int x5j525)] → W p l e (ra_Mo_putMethod mc ms) s m args below meth c H locs d_j525 e_j525 Q (F0 m 525 ls [.int z1j525, .ref (ad a0)]) := by
                                      intro y_j525 s_j525 d_j525 e_j525 x4j525 x5j525 z1j525 H locs h hP hD hS ls hl
                                      unfold wja_Mo_putMethod_525 at h
                                      obtain ⟨hd, h⟩ := h
                                      obtain ⟨mc_189, ms_190, hr_191, h⟩ := h
                                      refine uaVv (As := [.int z1j525]) (rest := []) G hP hD hS (ca_Mo_putName l D g ad mc_189 ms_190 y_j525 _ s_j525 a0 z1j525 H.size (us H) h_a0 h) w9_Mo_putName q4062 ⟨Nat.le_of_ble_eq_true rfl, Nat.le_of_ble_eq_true rfl⟩ rfl rfl h_a0 (q := (RMo, TMo, 131)) rfl rfl hl.1 rfl (Nat.le_of_ble_eq_true rfl) rfl hr_191 d_Mo_putMethod_525 (fun y_186 s_185 d_187 e_188 H locs h hP hD hS => ?_)
                                      obtain ⟨hd, h⟩ := h
                                      refine lv_aload_n G.1 G.2.1 d_Mo_putMethod_528 rfl (lv_at hl 0 rfl) ?_
                                      refine lv_bipush (v := 10) G.1 G.2.1 d_Mo_putMethod_529 (by decide) ?_
                                      obtain ⟨mc_197, ms_198, hr_199, h⟩ := h
                                      refine uaVv (As := [.int 10]) (rest := []) G hP hD hS (ca_Mo_put l D g ad mc_197 ms_198 y_186 _ s_185 a0 10 H.size (us H) h_a0 h) w9_Mo_put q4055 ⟨Nat.le_of_ble_eq_true rfl, Nat.le_of_ble_eq_true rfl⟩ rfl rfl h_a0 (q := (RMo, TMo, 131)) rfl rfl hl.1 rfl (Nat.le_of_ble_eq_true rfl) rfl hr_199 d_Mo_putMethod_531 (fun y_194 s_193 d_195 e_196 H locs h hP hD hS => ?_)
                                      obtain ⟨hd, h⟩ := h
                                      refine lv_iinc (v := x5j525 + 1) (lv' := [(5, .int (x5j525 + 1)), (0, .ref (ad a0)), (4, .int x4j525)]) G.1 G.2.1 d_Mo_putMethod_534 hl (k := 2) rfl rfl (by decide) rfl (fun ls hl => ?_)
                                      refine lv_goto (tgt := 420) G.1 G.2.1 d_Mo_putMethod_537 (by decide) ?_
                                      have h := hK_420 y_194 s_193 (d_j525 + d_187 + d_195) (e_j525 + e_188 + e_196) x4j525 (x5j525 + 1) h
                                      exact ih_420 y_194 s_193 (d_j525 + d_187 + d_195) (e_j525 + e_188 + e_196) x4j525 (x5j525 + 1) (Nat.lt_of_lt_of_le h.2 (Nat.le_of_lt_succ hμ_420)) h.1 H locs hP hD hS ls (lv_sub hl [1, 2, 0] rfl)
                                    refine lv_if_ge (tgt := 515) G.1 G.2.1 d_Mo_putMethod_505 (by decide) (fun c505 => ?_) (fun c505 => ?_)
                                    · skip
                                      have h := h.1 c505
                                      refine lv_aload_n G.1 G.2.1 d_Mo_putMethod_515 rfl (lv_at hl 0 rfl) ?_
                                      refine ugf (v := .ref (ad b_180)) G hP h_a0 iMo rfl 45 (by decide) rfl q3109 rfl (by show va_rf ((sO s_173 a0 45).map ad) = _; rw [e_181]; rfl) d_Mo_putMethod_516 ?_
                                      refine ugfN (v := .ref (yP y_174 b_180 29)) G hP c_182 iMw rfl 29 (by decide) rfl q2762 rfl rfl d_Mo_putMethod_519 ?_
                                      refine lv_iload G.1 G.2.1 d_Mo_putMethod_522 (lv_at hl 2 rfl) ?_
                                      refine W.eq (g2 := F0 m 524 ls [.int x5h420, .ref (yP y_174 b_180 29), .ref (ad a0)]) rfl ?_
                                      refine uiald G hP (kdp c_182 rfl) (typ c_182 rfl) h d_Mo_putMethod_524 (fun x_200 h => ?_)
                                      exact J_525 y_174 s_173 (d_h420 + d_115 + d_127 + d_135 + d_147 + d_155 + d_167 + d_175) (e_h420 + e_116 + e_128 + e_136 + e_148 + e_156 + e_168 + e_176) x4h420 x5h420 x_200 H locs h hP hD hS ls (lv_sub hl [0, 1, 2] rfl)
                                    · skip
                                      have h := h.2 c505
                                      refine lv_aload_n G.1 G.2.1 d_Mo_putMethod_508 rfl (lv_at hl 0 rfl) ?_
                                      refine ugf (v := .int (sV s_173 a0 24)) G hP h_a0 iMo rfl 24 (by decide) rfl q3088 rfl rfl d_Mo_putMethod_509 ?_
                                      refine lv_goto (tgt := 525) G.1 G.2.1 d_Mo_putMethod_512 (by decide) ?_
                                      exact J_525 y_174 s_173 (d_h420 + d_115 + d_127 + d_135 + d_147 + d_155 + d_167 + d_175) (e_h420 + e_116 + e_128 + e_136 + e_148 + e_156 + e_168 + e_176) x4h420 x5h420 (sV s_173 a0 24) H locs h hP hD hS ls (lv_sub hl [0, 1, 2] rfl)
                              exact L_420 _ y_j414 s_j414 d_j414 e_j414 x4j414 (8 * x1j414) (Nat.lt_succ_self _) hI_420 H locs hP hD hS ls (lv_sub hl [1, 3, 0] rfl)
                            refine lv_if_eq (tgt := 414) G.1 G.2.1 d_Mo_putMethod_387 (by decide) (fun c387 => ?_) (fun c387 => ?_)
                            · skip
                              have h := h.1 c387
                              exact J_414 y_h359 s_h359 d_h359 e_h359 x1h359 x4h359 H locs h hP hD hS ls (lv_sub hl [0, 1, 4] rfl)
                            · skip
                              have h := h.2 c387
                              refine lv_aload_n G.1 G.2.1 d_Mo_putMethod_390 rfl (lv_at hl 0 rfl) ?_
                              refine uldcw (n := 55) hF rfl G d_Mo_putMethod_391 ?_
                              obtain ⟨mc_206, ms_207, hr_208, h⟩ := h
                              refine utVv (As := [.ref (sk (F 55))]) (rest := []) G hP hD hS (ca_Mo_putWord l D g F sl hF ad mc_206 ms_207 y_h359 _ s_h359 a0 55 H.size (us H) h_a0 (by decide +kernel) h) w9_Mo_putWord q4051 ⟨Nat.le_of_ble_eq_true rfl, Nat.le_of_ble_eq_true rfl⟩ rfl rfl h_a0 (q := (RMo, TMo, 131)) rfl rfl hl.1 rfl (Nat.le_of_ble_eq_true rfl) rfl hr_208 d_Mo_putMethod_394 (fun y_203 s_202 d_204 e_205 H locs h hP hD hS => ?_)
                              have hl := lv_sub (l' := [(0, .ref (ad a0)), (1, .int x1h359), (3, .int x3h359), (4, .int x4h359)]) hl [0, 1, 3, 4] rfl
                              obtain ⟨hd, h⟩ := h
                              refine W.eq (g2 := F0 m 397 ls []) rfl ?_
                              refine lv_aload_n G.1 G.2.1 d_Mo_putMethod_397 rfl (lv_at hl 0 rfl) ?_
                              refine lv_iload_n G.1 G.2.1 d_Mo_putMethod_398 rfl (lv_at hl 2 rfl) ?_
                              obtain ⟨mc_214, ms_215, hr_216, h⟩ := h
                              refine uaVv (As := [.int x3h359]) (rest := []) G hP hD hS (ca_Mo_putLabel l D g ad mc_214 ms_215 y_203 _ s_202 a0 x3h359 H.size (us H) h_a0 h) w9_Mo_putLabel q4108 ⟨Nat.le_of_ble_eq_true rfl, Nat.le_of_ble_eq_true rfl⟩ rfl rfl h_a0 (q := (RMo, TMo, 131)) rfl rfl hl.1 rfl (Nat.le_of_ble_eq_true rfl) rfl hr_216 d_Mo_putMethod_399 (fun y_211 s_210 d_212 e_213 H locs h hP hD hS => ?_)
                              have hl := lv_sub (l' := [(0, .ref (ad a0)), (1, .int x1h359), (4, .int x4h359)]) hl [0, 1, 3] rfl
                              obtain ⟨hd, h⟩ := h
                              refine lv_aload_n G.1 G.2.1 d_Mo_putMethod_402 rfl (lv_at hl 0 rfl) ?_
                              refine lv_bipush (v := 58) G.1 G.2.1 d_Mo_putMethod_403 (by decide) ?_
                              obtain ⟨mc_222, ms_223, hr_224, h⟩ := h
                              refine uaVv (As := [.int 58]) (rest := []) G hP hD hS (ca_Mo_put l D g ad mc_222 ms_223 y_211 _ s_210 a0 58 H.size (us H) h_a0 h) w9_Mo_put q4055 ⟨Nat.le_of_ble_eq_true rfl, Nat.le_of_ble_eq_true rfl⟩ rfl rfl h_a0 (q := (RMo, TMo, 131)) rfl rfl hl.1 rfl (Nat.le_of_ble_eq_true rfl) rfl hr_224 d_Mo_putMethod_405 (fun y_219 s_218 d_220 e_221 H locs h hP hD hS => ?_)
                              obtain ⟨hd, h⟩ := h
                              refine lv_aload_n G.1 G.2.1 d_Mo_putMethod_408 rfl (lv_at hl 0 rfl) ?_
                              refine lv_bipush (v := 10) G.1 G.2.1 d_Mo_putMethod_409 (by decide) ?_
                              obtain ⟨mc_230, ms_231, hr_232, h⟩ := h
                              refine uaVv (As := [.int 10]) (rest := []) G hP hD hS (ca_Mo_put l D g ad mc_230 ms_231 y_219 _ s_218 a0 10 H.size (us H) h_a0 h) w9_Mo_put q4055 ⟨Nat.le_of_ble_eq_true rfl, Nat.le_of_ble_eq_true rfl⟩ rfl rfl h_a0 (q := (RMo, TMo, 131)) rfl rfl hl.1 rfl (Nat.le_of_ble_eq_true rfl) rfl hr_232 d_Mo_putMethod_411 (fun y_227 s_226 d_228 e_229 H locs h hP hD hS => ?_)
                              obtain ⟨hd, h⟩ := h
                              exact J_414 y_227 s_226 (d_h359 + d_204 + d_212 + d_220 + d_228) (e_h359 + e_205 + e_213 + e_221 + e_229) x1h359 x4h359 H locs h hP hD hS ls (lv_sub hl [0, 1, 2] rfl)
                          · skip
                            have h := h.2 c362
                            refine lv_aload_n G.1 G.2.1 d_Mo_putMethod_365 rfl (lv_at hl 0 rfl) ?_
                            refine lv_iload_n G.1 G.2.1 d_Mo_putMethod_366 rfl (lv_at hl 2 rfl) ?_
                            refine lv_iload G.1 G.2.1 d_Mo_putMethod_367 (lv_at hl 5 rfl) ?_
                            refine lv_iadd G.1 G.2.1 d_Mo_putMethod_369 ?_
                            refine lv_iload G.1 G.2.1 d_Mo_putMethod_370 (lv_at hl 5 rfl) ?_
                            obtain ⟨mc_238, ms_239, hr_240, h⟩ := h
                            refine utVv (As := [.int (x2h359 + x5h359), .int x5h359]) (rest := []) G hP hD hS (ca_Mo_putInstruction l D g F sl hF ad mc_238 ms_239 y_h359 _ s_h359 a0 (x2h359 + x5h359) x5h359 H.size (us H) h_a0 h) w9_Mo_putInstruction q4097 ⟨Nat.le_of_ble_eq_true rfl, Nat.le_of_ble_eq_true rfl⟩ rfl rfl h_a0 (q := (RMo, TMo, 131)) rfl rfl hl.1 rfl (Nat.le_of_ble_eq_true rfl) rfl hr_240 d_Mo_putMethod_372 (fun y_235 s_234 d_236 e_237 H locs h hP hD hS => ?_)
                            obtain ⟨hd, h⟩ := h
                            refine lv_iinc (v := x5h359 + 1) (lv' := [(5, .int (x5h359 + 1)), (0, .ref (ad a0)), (1, .int x1h359), (2, .int x2h359), (3, .int x3h359), (4, .int x4h359)]) G.1 G.2.1 d_Mo_putMethod_375 hl (k := 5) rfl rfl (by decide) rfl (fun ls hl => ?_)
                            refine lv_goto (tgt := 359) G.1 G.2.1 d_Mo_putMethod_378 (by decide) ?_
                            have h := hK_359 y_235 s_234 (d_h359 + d_236) (e_h359 + e_237) x1h359 x2h359 x3h359 x4h359 (x5h359 + 1) h
                            exact ih_359 y_235 s_234 (d_h359 + d_236) (e_h359 + e_237) x1h359 x2h359 x3h359 x4h359 (x5h359 + 1) (Nat.lt_of_lt_of_le h.2 (Nat.le_of_lt_succ hμ_359)) h.1 H locs hP hD hS ls (lv_sub hl [1, 2, 3, 4, 5, 0] rfl)
                      exact L_359 _ y_h295 s_h295 d_h295 e_h295 x1h295 x2h295 x3h295 x4h295 0 (Nat.lt_succ_self _) hI_359 H locs hP hD hS ls (lv_sub hl [1, 2, 3, 4, 5, 0] rfl)
                    · skip
                      have h := h.2 c299
                      refine lv_aload_n G.1 G.2.1 d_Mo_putMethod_302 rfl (lv_at hl 0 rfl) ?_
                      refine ugf (v := .ref (yP y_h295 a0 96)) G hP h_a0 iMo rfl 96 (by decide) rfl q3160 rfl rfl d_Mo_putMethod_303 ?_
                      refine lv_aload_n G.1 G.2.1 d_Mo_putMethod_306 rfl (lv_at hl 0 rfl) ?_
                      obtain ⟨b_241, e_242, c_243, h⟩ := h
                      refine ugf (v := .ref (ad b_241)) G hP h_a0 iMo rfl 45 (by decide) rfl q3109 rfl (by show va_rf ((sO s_h295 a0 45).map ad) = _; rw [e_242]; rfl) d_Mo_putMethod_307 ?_
                      refine ugfN (v := .ref (yP y_h295 b_241 26)) G hP c_243 iMw rfl 26 (by decide) rfl q2756 rfl rfl d_Mo_putMethod_310 ?_
                      refine lv_iload G.1 G.2.1 d_Mo_putMethod_313 (lv_at hl 5 rfl) ?_
                      refine uiald G hP (kdp c_243 rfl) (typ c_243 rfl) h d_Mo_putMethod_315 (fun x_244 h => ?_)
                      refine lv_iconst (v := 1) G.1 G.2.1 d_Mo_putMethod_316 (by decide) ?_
                      refine W.eq (g2 := F0 m 317 ls [.int 1, .int x_244, .ref (yP y_h295 a0 96)]) rfl ?_
                      refine uzast G hP hD hS (kdp h_a0 rfl) (typ h_a0 rfl) h d_Mo_putMethod_317 (fun s_245 H locs h hP hD hS => ?_)
                      refine lv_aload_n G.1 G.2.1 d_Mo_putMethod_318 rfl (lv_at hl 0 rfl) ?_
                      refine ugf (v := .ref (yP y_h295 a0 96)) G hP h_a0 iMo rfl 96 (by decide) rfl q3160 rfl rfl d_Mo_putMethod_319 ?_
                      refine lv_aload_n G.1 G.2.1 d_Mo_putMethod_322 rfl (lv_at hl 0 rfl) ?_
                      obtain ⟨b_246, e_247, c_248, h⟩ := h
                      refine ugf (v := .ref (ad b_246)) G hP h_a0 iMo rfl 45 (by decide) rfl q3109 rfl (by show va_rf ((sO s_245 a0 45).map ad) = _; rw [e_247]; rfl) d_Mo_putMethod_323 ?_
                      refine ugfN (v := .ref (yP y_h295 b_246 27)) G hP c_248 iMw rfl 27 (by decide) rfl q2758 rfl rfl d_Mo_putMethod_326 ?_
                      refine lv_iload G.1 G.2.1 d_Mo_putMethod_329 (lv_at hl 5 rfl) ?_
                      refine uiald G hP (kdp c_248 rfl) (typ c_248 rfl) h d_Mo_putMethod_331 (fun x_249 h => ?_)
                      refine lv_iconst (v := 1) G.1 G.2.1 d_Mo_putMethod_332 (by decide) ?_
                      refine uzast G hP hD hS (kdp h_a0 rfl) (typ h_a0 rfl) h d_Mo_putMethod_333 (fun s_250 H locs h hP hD hS => ?_)
                      refine lv_aload_n G.1 G.2.1 d_Mo_putMethod_334 rfl (lv_at hl 0 rfl) ?_
                      refine ugf (v := .ref (yP y_h295 a0 96)) G hP h_a0 iMo rfl 96 (by decide) rfl q3160 rfl rfl d_Mo_putMethod_335 ?_
                      refine W.eq (g2 := F0 m 338 ls [.ref (yP y_h295 a0 96)]) rfl ?_
                      refine lv_aload_n G.1 G.2.1 d_Mo_putMethod_338 rfl (lv_at hl 0 rfl) ?_
                      obtain ⟨b_251, e_252, c_253, h⟩ := h
                      refine ugf (v := .ref (ad b_251)) G hP h_a0 iMo rfl 45 (by decide) rfl q3109 rfl (by show va_rf ((sO s_250 a0 45).map ad) = _; rw [e_252]; rfl) d_Mo_putMethod_339 ?_
                      refine ugfN (v := .ref (yP y_h295 b_251 28)) G hP c_253 iMw rfl 28 (by decide) rfl q2760 rfl rfl d_Mo_putMethod_342 ?_
                      refine lv_iload G.1 G.2.1 d_Mo_putMethod_345 (lv_at hl 5 rfl) ?_
                      refine uiald G hP (kdp c_253 rfl) (typ c_253 rfl) h d_Mo_putMethod_347 (fun x_254 h => ?_)
                      refine lv_iconst (v := 1) G.1 G.2.1 d_Mo_putMethod_348 (by decide) ?_
                      refine uzast G hP hD hS (kdp h_a0 rfl) (typ h_a0 rfl) h d_Mo_putMethod_349 (fun s_255 H locs h hP hD hS => ?_)
                      refine lv_iinc (v := x5h295 + 1) (lv' := [(5, .int (x5h295 + 1)), (0, .ref (ad a0)), (1, .int x1h295), (2, .int x2h295), (3, .int x3h295), (4, .int x4h295)]) G.1 G.2.1 d_Mo_putMethod_350 hl (k := 5) rfl rfl (by decide) rfl (fun ls hl => ?_)
                      refine lv_goto (tgt := 295) G.1 G.2.1 d_Mo_putMethod_353 (by decide) ?_
                      have h := hK_295 y_h295 s_255 d_h295 e_h295 x1h295 x2h295 x3h295 x4h295 (x5h295 + 1) h
                      exact ih_295 y_h295 s_255 d_h295 e_h295 x1h295 x2h295 x3h295 x4h295 (x5h295 + 1) (Nat.lt_of_lt_of_le h.2 (Nat.le_of_lt_succ hμ_295)) h.1 H locs hP hD hS ls (lv_sub hl [1, 2, 3, 4, 5, 0] rfl)
                exact L_295 _ y_h175 s_h175 d_h175 e_h175 x1h175 x2h175 x3h175 x4h175 (8 * x1h175) (Nat.lt_succ_self _) hI_295 H locs hP hD hS ls (lv_sub hl [1, 2, 3, 4, 5, 0] rfl)
              · skip
                have h := h.2 c180
                refine lv_aload_n G.1 G.2.1 d_Mo_putMethod_183 rfl (lv_at hl 0 rfl) ?_
                obtain ⟨b_256, e_257, c_258, h⟩ := h
                refine ugf (v := .ref (ad b_256)) G hP h_a0 iMo rfl 45 (by decide) rfl q3109 rfl (by show va_rf ((sO s_h175 a0 45).map ad) = _; rw [e_257]; rfl) d_Mo_putMethod_184 ?_
                refine ugfN (v := .ref (yP y_h175 b_256 30)) G hP c_258 iMw rfl 30 (by decide) rfl q2764 rfl rfl d_Mo_putMethod_187 ?_
                refine lv_iload G.1 G.2.1 d_Mo_putMethod_190 (lv_at hl 5 rfl) ?_
                refine ubald G hP (kdp c_258 rfl) (typ c_258 rfl) h d_Mo_putMethod_192 (fun x_259 h => ?_)
                refine lv_istore (lv' := [(6, .int x_259), (0, .ref (ad a0)), (1, .int x1h175), (2, .int x2h175), (3, .int x3h175), (4, .int x4h175), (5, .int x5h175)]) G.1 G.2.1 d_Mo_putMethod_193 hl (by decide) rfl (fun ls hl => ?_)
                refine W.eq (g2 := F0 m 195 ls []) rfl ?_
                refine lv_iload G.1 G.2.1 d_Mo_putMethod_195 (lv_at hl 0 rfl) ?_
                refine lv_bipush (v := 23) G.1 G.2.1 d_Mo_putMethod_197 (by decide) ?_
                have J_225 : ∀ (y_j225 : Ly) (s_j225 : St) (d_j225 e_j225 : Nat) (x1j225 : Int32) (x2j225 : Int32) (x3j225 : Int32) (x4j225 : Int32) (x5j225 : Int32) (x6j225 : Int32) (H : Heap) (locs : List Loc), wja_Mo_putMethod_225 mc ms Post K_175 a0 y_j225 s_j225 d_j225 e_j225 x1j225 x2j225 x3j225 x4j225 x5j225 x6j225 → va_P D CL (ws g ad y_j225 s_j225) H → va_D A (ws g ad y_j225 s_j225) → va_S A s.heap H locs → ∀ ls, lv_has ls 8 [(0, .ref (ad a0)), (1, .int x1j225), (2, .int x2j225), (3, .int x3j225), (4, .int x4j225), (5, .int x5j225), (6, .int x6j225)] → W p l e (ra_Mo_putMethod mc ms) s m args below meth c H locs d_j225 e_j225 Q (F0 m 225 ls []) := by
                  intro y_j225 s_j225 d_j225 e_j225 x1j225 x2j225 x3j225 x4j225 x5j225 x6j225 H locs h hP hD hS ls hl
                  unfold wja_Mo_putMethod_225 at h
                  obtain ⟨hd, h⟩ := h
                  refine lv_iconst (v := 0) G.1 G.2.1 d_Mo_putMethod_225 (by decide) ?_
                  refine lv_istore (lv' := [(7, .int 0), (0, .ref (ad a0)), (1, .int x1j225), (2, .int x2j225), (3, .int x3j225), (4, .int x4j225), (5, .int x5j225), (6, .int x6j225)]) G.1 G.2.1 d_Mo_putMethod_226 hl (by decide) rfl (fun ls hl => ?_)
                  unfold wla_Mo_putMethod_228 at h
                  obtain ⟨I_228, μ_228, hI_228, hB_228⟩ := h
                  have L_228 : ∀ (n_228 : Nat) (y_h228 : Ly) (s_h228 : St) (d_h228 e_h228 : Nat) (x1h228 : Int32) (x2h228 : Int32) (x3h228 : Int32) (x4h228 : Int32) (x5h228 : Int32) (x6h228 : Int32) (x7h228 : Int32), μ_228 y_h228 s_h228 d_h228 e_h228 x1h228 x2h228 x3h228 x4h228 x5h228 x6h228 x7h228 < n_228 → I_228 y_h228 s_h228 d_h228 e_h228 x1h228 x2h228 x3h228 x4h228 x5h228 x6h228 x7h228 → ∀ (H : Heap) (locs : List Loc), va_P D CL (ws g ad y_h228 s_h228) H → va_D A (ws g ad y_h228 s_h228) → va_S A s.heap H locs → ∀ ls, lv_has ls 8 [(0, .ref (ad a0)), (1, .int x1h228), (2, .int x2h228), (3, .int x3h228), (4, .int x4h228), (5, .int x5h228), (6, .int x6h228), (7, .int x7h228)] → W p l e (ra_Mo_putMethod mc ms) s m args below meth c H locs d_h228 e_h228 Q (F0 m 228 ls []) := by
                    intro n_228
                    induction n_228 with
                    | zero => intro y_h228 s_h228 d_h228 e_h228 x1h228 x2h228 x3h228 x4h228 x5h228 x6h228 x7h228 hμ; exact absurd hμ (Nat.not_lt_zero _)
                    | succ n_228 ih_228 =>
                      intro y_h228 s_h228 d_h228 e_h228 x1h228 x2h228 x3h228 x4h228 x5h228 x6h228 x7h228 hμ_228 hJ H locs hP hD hS ls hl
                      obtain ⟨K_228, hK_228, h⟩ : ∃ K : Ly → St → Nat → Nat → Int32 → Int32 → Int32 → Int32 → Int32 → Int32 → Int32 → Prop, (∀ z1 z2 z3 z4 (t0 : Int32) (t1 : Int32) (t2 : Int32) (t3 : Int32) (t4 : Int32) (t5 : Int32) (t6 : Int32), K z1 z2 z3 z4 t0 t1 t2 t3 t4 t5 t6 → I_228 z1 z2 z3 z4 t0 t1 t2 t3 t4 t5 t6 ∧ μ_228 z1 z2 z3 z4 t0 t1 t2 t3 t4 t5 t6 < μ_228 y_h228 s_h228 d_h228 e_h228 x1h228 x2h228 x3h228 x4h228 x5h228 x6h228 x7h228) ∧ wba_Mo_putMethod_228 mc ms Post K_175 K a0 y_h228 s_h228 d_h228 e_h228 x1h228 x2h228 x3h228 x4h228 x5h228 x6h228 x7h228 := ⟨_, fun _ _ _ _ _ _ _ _ _ _ _ h => h, hB_228 y_h228 s_h228 d_h228 e_h228 x1h228 x2h228 x3h228 x4h228 x5h228 x6h228 x7h228 hJ⟩
                      unfold wba_Mo_putMethod_228 at h
                      obtain ⟨hd, h⟩ := h
                      refine lv_iload G.1 G.2.1 d_Mo_putMethod_228 (lv_at hl 6 rfl) ?_
                      refine lv_bipush (v := 40) G.1 G.2.1 d_Mo_putMethod_230 (by decide) ?_
                      have J_283 : ∀ (y_j283 : Ly) (s_j283 : St) (d_j283 e_j283 : Nat) (x1j283 : Int32) (x2j283 : Int32) (x3j283 : Int32) (x4j283 : Int32) (x5j283 : Int32) (H : Heap) (locs : List Loc), wja_Mo_putMethod_283 mc ms Post K_175 a0 y_j283 s_j283 d_j283 e_j283 x1j283 x2j283 x3j283 x4j283 x5j283 → va_P D CL (ws g ad y_j283 s_j283) H → va_D A (ws g ad y_j283 s_j283) → va_S A s.heap H locs → ∀ ls, lv_has ls 8 [(0, .ref (ad a0)), (1, .int x1j283), (2, .int x2j283), (3, .int x3j283), (4, .int x4j283), (5, .int x5j283)] → W p l e (ra_Mo_putMethod mc ms) s m args below meth c H locs d_j283 e_j283 Q (F0 m 283 ls []) := by
                        intro y_j283 s_j283 d_j283 e_j283 x1j283 x2j283 x3j283 x4j283 x5j283 H locs h hP hD hS ls hl
                        unfold wja_Mo_putMethod_283 at h
                        obtain ⟨hd, h⟩ := h
                        refine lv_iinc (v := x5j283 + 1) (lv' := [(5, .int (x5j283 + 1)), (0, .ref (ad a0)), (1, .int x1j283), (2, .int x2j283), (3, .int x3j283), (4, .int x4j283)]) G.1 G.2.1 d_Mo_putMethod_283 hl (k := 5) rfl rfl (by decide) rfl (fun ls hl => ?_)
                        refine lv_goto (tgt := 175) G.1 G.2.1 d_Mo_putMethod_286 (by decide) ?_
                        have h := hK_175 y_j283 s_j283 d_j283 e_j283 x1j283 x2j283 x3j283 x4j283 (x5j283 + 1) h
                        exact ih_175 y_j283 s_j283 d_j283 e_j283 x1j283 x2j283 x3j283 x4j283 (x5j283 + 1) (Nat.lt_of_lt_of_le h.2 (Nat.le_of_lt_succ hμ_175)) h.1 H locs hP hD hS ls (lv_sub hl [1, 2, 3, 4, 5, 0] rfl)
                      refine lv_icmp_ne (tgt := 283) G.1 G.2.1 d_Mo_putMethod_232 (by decide) (fun c232 => ?_) (fun c232 => ?_)
                      · skip
                        have h := h.1 c232
                        exact J_283 y_h228 s_h228 d_h228 e_h228 x1h228 x2h228 x3h228 x4h228 x5h228 H locs h hP hD hS ls (lv_sub hl [0, 1, 2, 3, 4, 5] rfl)
                      · skip
                        have h := h.2 c232
                        refine lv_iload G.1 G.2.1 d_Mo_putMethod_235 (lv_at hl 7 rfl) ?_
                        refine lv_aload_n G.1 G.2.1 d_Mo_putMethod_237 rfl (lv_at hl 0 rfl) ?_
                        obtain ⟨b_260, e_261, c_262, h⟩ := h
                        refine ugf (v := .ref (ad b_260)) G hP h_a0 iMo rfl 45 (by decide) rfl q3109 rfl (by show va_rf ((sO s_h228 a0 45).map ad) = _; rw [e_261]; rfl) d_Mo_putMethod_238 ?_
                        refine ugfN (v := .ref (yP y_h228 b_260 33)) G hP c_262 iMw rfl 33 (by decide) rfl q2770 rfl rfl d_Mo_putMethod_241 ?_
                        refine lv_iload G.1 G.2.1 d_Mo_putMethod_244 (lv_at hl 5 rfl) ?_
                        refine uiald G hP (kdp c_262 rfl) (typ c_262 rfl) h d_Mo_putMethod_246 (fun x_263 h => ?_)
                        refine lv_icmp_ge (tgt := 283) G.1 G.2.1 d_Mo_putMethod_247 (by decide) (fun c247 => ?_) (fun c247 => ?_)
                        · skip
                          have h := h.1 c247
                          exact J_283 y_h228 s_h228 d_h228 e_h228 x1h228 x2h228 x3h228 x4h228 x5h228 H locs h hP hD hS ls (lv_sub hl [0, 1, 2, 3, 4, 5] rfl)
                        · skip
                          have h := h.2 c247
                          refine lv_aload_n G.1 G.2.1 d_Mo_putMethod_250 rfl (lv_at hl 0 rfl) ?_
                          refine W.eq (g2 := F0 m 251 ls [.ref (ad a0)]) rfl ?_
                          refine ugf (v := .ref (yP y_h228 a0 96)) G hP h_a0 iMo rfl 96 (by decide) rfl q3160 rfl rfl d_Mo_putMethod_251 ?_
                          refine lv_aload_n G.1 G.2.1 d_Mo_putMethod_254 rfl (lv_at hl 0 rfl) ?_
                          refine ugf (v := .ref (ad b_260)) G hP h_a0 iMo rfl 45 (by decide) rfl q3109 rfl (by show va_rf ((sO s_h228 a0 45).map ad) = _; rw [e_261]; rfl) d_Mo_putMethod_255 ?_
                          refine ugfN (v := .ref (yP y_h228 b_260 36)) G hP c_262 iMw rfl 36 (by decide) rfl q2775 rfl rfl d_Mo_putMethod_258 ?_
                          refine lv_aload_n G.1 G.2.1 d_Mo_putMethod_261 rfl (lv_at hl 0 rfl) ?_
                          refine ugf (v := .ref (ad b_260)) G hP h_a0 iMo rfl 45 (by decide) rfl q3109 rfl (by show va_rf ((sO s_h228 a0 45).map ad) = _; rw [e_261]; rfl) d_Mo_putMethod_262 ?_
                          refine ugfN (v := .ref (yP y_h228 b_260 32)) G hP c_262 iMw rfl 32 (by decide) rfl q2768 rfl rfl d_Mo_putMethod_265 ?_
                          refine lv_iload G.1 G.2.1 d_Mo_putMethod_268 (lv_at hl 5 rfl) ?_
                          refine uiald G hP (kdp c_262 rfl) (typ c_262 rfl) h d_Mo_putMethod_270 (fun x_264 h => ?_)
                          refine lv_iload G.1 G.2.1 d_Mo_putMethod_271 (lv_at hl 7 rfl) ?_
                          refine lv_iadd G.1 G.2.1 d_Mo_putMethod_273 ?_
                          refine uiald G hP (kdp c_262 rfl) (typ c_262 rfl) h d_Mo_putMethod_274 (fun x_265 h => ?_)
                          refine W.eq (g2 := F0 m 275 ls [.int x_265, .ref (yP y_h228 a0 96)]) rfl ?_
                          refine lv_iconst (v := 1) G.1 G.2.1 d_Mo_putMethod_275 (by decide) ?_
                          refine uzast G hP hD hS (kdp h_a0 rfl) (typ h_a0 rfl) h d_Mo_putMethod_276 (fun s_266 H locs h hP hD hS => ?_)
                          refine lv_iinc (v := x7h228 + 1) (lv' := [(7, .int (x7h228 + 1)), (0, .ref (ad a0)), (1, .int x1h228), (2, .int x2h228), (3, .int x3h228), (4, .int x4h228), (5, .int x5h228), (6, .int x6h228)]) G.1 G.2.1 d_Mo_putMethod_277 hl (k := 7) rfl rfl (by decide) rfl (fun ls hl => ?_)
                          refine lv_goto (tgt := 228) G.1 G.2.1 d_Mo_putMethod_280 (by decide) ?_
                          have h := hK_228 y_h228 s_266 d_h228 e_h228 x1h228 x2h228 x3h228 x4h228 x5h228 x6h228 (x7h228 + 1) h
                          exact ih_228 y_h228 s_266 d_h228 e_h228 x1h228 x2h228 x3h228 x4h228 x5h228 x6h228 (x7h228 + 1) (Nat.lt_of_lt_of_le h.2 (Nat.le_of_lt_succ hμ_228)) h.1 H locs hP hD hS ls (lv_sub hl [1, 2, 3, 4, 5, 6, 7, 0] rfl)
                  exact L_228 _ y_j225 s_j225 d_j225 e_j225 x1j225 x2j225 x3j225 x4j225 x5j225 x6j225 0 (Nat.lt_succ_self _) hI_228 H locs hP hD hS ls (lv_sub hl [1, 2, 3, 4, 5, 6, 7, 0] rfl)
                refine lv_icmp_lt (tgt := 225) G.1 G.2.1 d_Mo_putMethod_199 (by decide) (fun c199 => ?_) (fun c199 => ?_)
                · skip
                  have h := h.1 c199
                  exact J_225 y_h175 s_h175 d_h175 e_h175 x1h175 x2h175 x3h175 x4h175 x5h175 x_259 H locs h hP hD hS ls (lv_sub hl [1, 2, 3, 4, 5, 6, 0] rfl)
                · skip
                  have h := h.2 c199
                  refine lv_iload G.1 G.2.1 d_Mo_putMethod_202 (lv_at hl 0 rfl) ?_
                  refine lv_bipush (v := 39) G.1 G.2.1 d_Mo_putMethod_204 (by decide) ?_
                  refine lv_icmp_gt (tgt := 225) G.1 G.2.1 d_Mo_putMethod_206 (by decide) (fun c206 => ?_) (fun c206 => ?_)
                  · skip
                    have h := h.1 c206
                    exact J_225 y_h175 s_h175 d_h175 e_h175 x1h175 x2h175 x3h175 x4h175 x5h175 x_259 H locs h hP hD hS ls (lv_sub hl [1, 2, 3, 4, 5, 6, 0] rfl)
                  · skip
                    have h := h.2 c206
                    refine lv_aload_n G.1 G.2.1 d_Mo_putMethod_209 rfl (lv_at hl 1 rfl) ?_
                    refine ugf (v := .ref (yP y_h175 a0 96)) G hP h_a0 iMo rfl 96 (by decide) rfl q3160 rfl rfl d_Mo_putMethod_210 ?_
                    refine lv_aload_n G.1 G.2.1 d_Mo_putMethod_213 rfl (lv_at hl 1 rfl) ?_
                    refine ugf (v := .ref (ad b_256)) G hP h_a0 iMo rfl 45 (by decide) rfl q3109 rfl (by show va_rf ((sO s_h175 a0 45).map ad) = _; rw [e_257]; rfl) d_Mo_putMethod_214 ?_
                    refine ugfN (v := .ref (yP y_h175 b_256 31)) G hP c_258 iMw rfl 31 (by decide) rfl q2766 rfl rfl d_Mo_putMethod_217 ?_
                    refine lv_iload G.1 G.2.1 d_Mo_putMethod_220 (lv_at hl 6 rfl) ?_
                    refine W.eq (g2 := F0 m 222 ls [.int x5h175, .ref (yP y_h175 b_256 31), .ref (yP y_h175 a0 96)]) rfl ?_
                    refine uiald G hP (kdp c_258 rfl) (typ c_258 rfl) h d_Mo_putMethod_222 (fun x_267 h => ?_)
                    refine lv_iconst (v := 1) G.1 G.2.1 d_Mo_putMethod_223 (by decide) ?_
                    refine uzast G hP hD hS (kdp h_a0 rfl) (typ h_a0 rfl) h d_Mo_putMethod_224 (fun s_268 H locs h hP hD hS => ?_)
                    exact J_225 y_h175 s_268 d_h175 e_h175 x1h175 x2h175 x3h175 x4h175 x5h175 x_259 H locs h hP hD hS ls (lv_sub hl [1, 2, 3, 4, 5, 6, 0] rfl)
          exact L_175 _ y_h152 s_h152 d_h152 e_h152 x1h152 x2h152 x3h152 x4h152 x2h152 (Nat.lt_succ_self _) hI_175 H locs hP hD hS ls (lv_sub hl [1, 2, 3, 4, 5, 0] rfl)
        · skip
          have h := h.2 c155
          refine lv_aload_n G.1 G.2.1 d_Mo_putMethod_158 rfl (lv_at hl 0 rfl) ?_
          refine ugf (v := .ref (yP y_h152 a0 96)) G hP h_a0 iMo rfl 96 (by decide) rfl q3160 rfl rfl d_Mo_putMethod_159 ?_
          refine lv_iload G.1 G.2.1 d_Mo_putMethod_162 (lv_at hl 5 rfl) ?_
          refine lv_iconst (v := 0) G.1 G.2.1 d_Mo_putMethod_164 (by decide) ?_
          refine uzast G hP hD hS (kdp h_a0 rfl) (typ h_a0 rfl) h d_Mo_putMethod_165 (fun s_269 H locs h hP hD hS => ?_)
          refine lv_iinc (v := x5h152 + 1) (lv' := [(5, .int (x5h152 + 1)), (0, .ref (ad a0)), (1, .int x1h152), (2, .int x2h152), (3, .int x3h152), (4, .int x4h152)]) G.1 G.2.1 d_Mo_putMethod_166 hl (k := 5) rfl rfl (by decide) rfl (fun ls hl => ?_)
          refine lv_goto (tgt := 152) G.1 G.2.1 d_Mo_putMethod_169 (by decide) ?_
          have h := hK_152 y_h152 s_269 d_h152 e_h152 x1h152 x2h152 x3h152 x4h152 (x5h152 + 1) h
          exact ih_152 y_h152 s_269 d_h152 e_h152 x1h152 x2h152 x3h152 x4h152 (x5h152 + 1) (Nat.lt_of_lt_of_le h.2 (Nat.le_of_lt_succ hμ_152)) h.1 H locs hP hD hS ls (lv_sub hl [1, 2, 3, 4, 5, 0] rfl)
    exact L_152 _ y_99 s_98 (0 + d_4 + d_16 + d_28 + d_40 + d_48 + d_60 + d_72 + d_80 + d_92 + d_100) (0 + e_5 + e_17 + e_29 + e_41 + e_49 + e_61 + e_73 + e_81 + e_93 + e_101) v1 x_108 x_109 ((8 * v1) + x_110) 0 (Nat.lt_succ_self _) hI_152 H locs hP hD hS ls (lv_sub hl [4, 5, 3, 2, 1, 0] rfl)
  · skip
    have h := h.2 c64
    refine W.eq (g2 := F0 m 67 ls []) rfl ?_
    exact hret (y_47, s_46, 0 + d_4 + d_16 + d_28 + d_40 + d_48, 0 + e_5 + e_17 + e_29 + e_41 + e_49) _ _ _ _ _ ls h hP hD hS (Nat.le_refl _) (Nat.le_refl _) hd.1 hd.2 d_Mo_putMethod_67
