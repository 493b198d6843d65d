theorem q3624 : Cond.methodLink "ClassWorksModel" 707 y_Mo_kindWords ∈ lw_ok := lw_okmem (List.mem_of_getElem? (i := 3624) (by decide +kernel)) rfl
theorem q3627 : Cond.code y_Mo_kindWords b_Mo_kindWords 4 (some .int) ∈ lw_ok := lw_okmem (List.mem_of_getElem? (i := 3627) (by decide +kernel)) rfl
theorem q3626 : Cond.instanceMethod y_Mo_kindWords ∈ lw_ok := lw_okmem (List.mem_of_getElem? (i := 3626) (by decide +kernel)) rfl
theorem q209 : Cond.selects y_Mo_kindWords.cls y_Mo_kindWords y_Mo_kindWords ∈ lw_ok := lw_okmem (List.mem_of_getElem? (i := 209) (by decide +kernel)) rfl
theorem w9_Mo_kindWords : CWv y_Mo_kindWords b_Mo_kindWords 4 (some .int) 1 ∧ Cond.instanceMethod y_Mo_kindWords ∈ lw_ok ∧ Cond.selects y_Mo_kindWords.cls y_Mo_kindWords y_Mo_kindWords ∈ lw_ok := ⟨⟨q3627, q348, by decide +kernel, by decide +kernel, by decide +kernel⟩, q3626, q209⟩
theorem q3632 : Cond.methodLink "ClassWorksModel" 656 y_Mo_addNine ∈ lw_ok := lw_okmem (List.mem_of_getElem? (i := 3632) (by decide +kernel)) rfl
theorem q3635 : Cond.code y_Mo_addNine b_Mo_addNine 4 (none) ∈ lw_ok := lw_okmem (List.mem_of_getElem? (i := 3635) (by decide +kernel)) rfl
theorem q3634 : Cond.instanceMethod y_Mo_addNine ∈ lw_ok := lw_okmem (List.mem_of_getElem? (i := 3634) (by decide +kernel)) rfl
theorem q211 : Cond.selects y_Mo_addNine.cls y_Mo_addNine y_Mo_addNine ∈ lw_ok := lw_okmem (List.mem_of_getElem? (i := 211) (by decide +kernel)) rfl
theorem w9_Mo_addNine : CWv y_Mo_addNine b_Mo_addNine 4 (none) 2 ∧ Cond.instanceMethod y_Mo_addNine ∈ lw_ok ∧ Cond.selects y_Mo_addNine.cls y_Mo_addNine y_Mo_addNine ∈ lw_ok := ⟨⟨q3635, q348, by decide +kernel, by decide +kernel, by decide +kernel⟩, q3634, q211⟩
def y_Mo_frameLine : MethodName := ⟨"ClassWorksModel", "frameLine", "()V"⟩
abbrev b_Mo_frameLine : ByteArray := prog_14_method_47_code
theorem d_Mo_frameLine_0 : decode b_Mo_frameLine 0 = .ok (.aload_n 0, 1) := by decide +kernel
theorem d_Mo_frameLine_1 : decode b_Mo_frameLine 1 = .ok (.getfield 650, 3) := by decide +kernel
theorem d_Mo_frameLine_4 : decode b_Mo_frameLine 4 = .ok (.ifCond .le 12, 3) := by decide +kernel
theorem d_Mo_frameLine_7 : decode b_Mo_frameLine 7 = .ok (.aload_n 0, 1) := by decide +kernel
theorem d_Mo_frameLine_8 : decode b_Mo_frameLine 8 = .ok (.iconst 0, 1) := by decide +kernel
theorem d_Mo_frameLine_9 : decode b_Mo_frameLine 9 = .ok (.putfield 104, 3) := by decide +kernel
theorem d_Mo_frameLine_12 : decode b_Mo_frameLine 12 = .ok (.aload_n 0, 1) := by decide +kernel
theorem d_Mo_frameLine_13 : decode b_Mo_frameLine 13 = .ok (.invokevirtual 535, 3) := by decide +kernel
theorem d_Mo_frameLine_16 : decode b_Mo_frameLine 16 = .ok (.aload_n 0, 1) := by decide +kernel
theorem d_Mo_frameLine_17 : decode b_Mo_frameLine 17 = .ok (.getfield 522, 3) := by decide +kernel
theorem d_Mo_frameLine_20 : decode b_Mo_frameLine 20 = .ok (.getfield 477, 3) := by decide +kernel
theorem d_Mo_frameLine_23 : decode b_Mo_frameLine 23 = .ok (.istore_n 1, 1) := by decide +kernel
theorem d_Mo_frameLine_24 : decode b_Mo_frameLine 24 = .ok (.aload_n 0, 1) := by decide +kernel
theorem d_Mo_frameLine_25 : decode b_Mo_frameLine 25 = .ok (.getfield 522, 3) := by decide +kernel
theorem d_Mo_frameLine_28 : decode b_Mo_frameLine 28 = .ok (.aload_n 0, 1) := by decide +kernel
theorem d_Mo_frameLine_29 : decode b_Mo_frameLine 29 = .ok (.getfield 522, 3) := by decide +kernel
theorem d_Mo_frameLine_32 : decode b_Mo_frameLine 32 = .ok (.getfield 698, 3) := by decide +kernel
theorem d_Mo_frameLine_35 : decode b_Mo_frameLine 35 = .ok (.iload_n 1, 1) := by decide +kernel
theorem d_Mo_frameLine_36 : decode b_Mo_frameLine 36 = .ok (.iconst 1, 1) := by decide +kernel
theorem d_Mo_frameLine_37 : decode b_Mo_frameLine 37 = .ok (.iadd, 1) := by decide +kernel
theorem d_Mo_frameLine_38 : decode b_Mo_frameLine 38 = .ok (.invokestatic 43, 3) := by decide +kernel
theorem d_Mo_frameLine_41 : decode b_Mo_frameLine 41 = .ok (.putfield 698, 3) := by decide +kernel
theorem d_Mo_frameLine_44 : decode b_Mo_frameLine 44 = .ok (.aload_n 0, 1) := by decide +kernel
theorem d_Mo_frameLine_45 : decode b_Mo_frameLine 45 = .ok (.getfield 522, 3) := by decide +kernel
theorem d_Mo_frameLine_48 : decode b_Mo_frameLine 48 = .ok (.aload_n 0, 1) := by decide +kernel
theorem d_Mo_frameLine_49 : decode b_Mo_frameLine 49 = .ok (.getfield 522, 3) := by decide +kernel
theorem d_Mo_frameLine_52 : decode b_Mo_frameLine 52 = .ok (.getfield 701, 3) := by decide +kernel
theorem d_Mo_frameLine_55 : decode b_Mo_frameLine 55 = .ok (.iload_n 1, 1) := by decide +kernel
theorem d_Mo_frameLine_56 : decode b_Mo_frameLine 56 = .ok (.iconst 1, 1) := by decide +kernel
theorem d_Mo_frameLine_57 : decode b_Mo_frameLine 57 = .ok (.iadd, 1) := by decide +kernel
theorem d_Mo_frameLine_58 : decode b_Mo_frameLine 58 = .ok (.invokestatic 43, 3) := by decide +kernel
theorem d_Mo_frameLine_61 : decode b_Mo_frameLine 61 = .ok (.putfield 701, 3) := by decide +kernel
theorem d_Mo_frameLine_64 : decode b_Mo_frameLine 64 = .ok (.aload_n 0, 1) := by decide +kernel
theorem d_Mo_frameLine_65 : decode b_Mo_frameLine 65 = .ok (.getfield 522, 3) := by decide +kernel
theorem d_Mo_frameLine_68 : decode b_Mo_frameLine 68 = .ok (.aload_n 0, 1) := by decide +kernel
theorem d_Mo_frameLine_69 : decode b_Mo_frameLine 69 = .ok (.getfield 522, 3) := by decide +kernel
theorem d_Mo_frameLine_72 : decode b_Mo_frameLine 72 = .ok (.getfield 704, 3) := by decide +kernel
theorem d_Mo_frameLine_75 : decode b_Mo_frameLine 75 = .ok (.iload_n 1, 1) := by decide +kernel
theorem d_Mo_frameLine_76 : decode b_Mo_frameLine 76 = .ok (.iconst 1, 1) := by decide +kernel
theorem d_Mo_frameLine_77 : decode b_Mo_frameLine 77 = .ok (.iadd, 1) := by decide +kernel
theorem d_Mo_frameLine_78 : decode b_Mo_frameLine 78 = .ok (.invokestatic 43, 3) := by decide +kernel
theorem d_Mo_frameLine_81 : decode b_Mo_frameLine 81 = .ok (.putfield 704, 3) := by decide +kernel
theorem d_Mo_frameLine_84 : decode b_Mo_frameLine 84 = .ok (.aload_n 0, 1) := by decide +kernel
theorem d_Mo_frameLine_85 : decode b_Mo_frameLine 85 = .ok (.getfield 522, 3) := by decide +kernel
theorem d_Mo_frameLine_88 : decode b_Mo_frameLine 88 = .ok (.getfield 698, 3) := by decide +kernel
theorem d_Mo_frameLine_91 : decode b_Mo_frameLine 91 = .ok (.iload_n 1, 1) := by decide +kernel
theorem d_Mo_frameLine_92 : decode b_Mo_frameLine 92 = .ok (.aload_n 0, 1) := by decide +kernel
theorem d_Mo_frameLine_93 : decode b_Mo_frameLine 93 = .ok (.getfield 522, 3) := by decide +kernel
theorem d_Mo_frameLine_96 : decode b_Mo_frameLine 96 = .ok (.getfield 480, 3) := by decide +kernel
theorem d_Mo_frameLine_99 : decode b_Mo_frameLine 99 = .ok (.iastore, 1) := by decide +kernel
theorem d_Mo_frameLine_100 : decode b_Mo_frameLine 100 = .ok (.aload_n 0, 1) := by decide +kernel
theorem d_Mo_frameLine_101 : decode b_Mo_frameLine 101 = .ok (.getfield 522, 3) := by decide +kernel
theorem d_Mo_frameLine_104 : decode b_Mo_frameLine 104 = .ok (.getfield 701, 3) := by decide +kernel
theorem d_Mo_frameLine_107 : decode b_Mo_frameLine 107 = .ok (.iload_n 1, 1) := by decide +kernel
theorem d_Mo_frameLine_108 : decode b_Mo_frameLine 108 = .ok (.aload_n 0, 1) := by decide +kernel
theorem d_Mo_frameLine_109 : decode b_Mo_frameLine 109 = .ok (.bipush 59, 2) := by decide +kernel
theorem d_Mo_frameLine_111 : decode b_Mo_frameLine 111 = .ok (.invokevirtual 707, 3) := by decide +kernel
theorem d_Mo_frameLine_114 : decode b_Mo_frameLine 114 = .ok (.iastore, 1) := by decide +kernel
theorem d_Mo_frameLine_115 : decode b_Mo_frameLine 115 = .ok (.aload_n 0, 1) := by decide +kernel
theorem d_Mo_frameLine_116 : decode b_Mo_frameLine 116 = .ok (.getfield 522, 3) := by decide +kernel
theorem d_Mo_frameLine_119 : decode b_Mo_frameLine 119 = .ok (.getfield 704, 3) := by decide +kernel
theorem d_Mo_frameLine_122 : decode b_Mo_frameLine 122 = .ok (.iload_n 1, 1) := by decide +kernel
theorem d_Mo_frameLine_123 : decode b_Mo_frameLine 123 = .ok (.aload_n 0, 1) := by decide +kernel
theorem d_Mo_frameLine_124 : decode b_Mo_frameLine 124 = .ok (.iconst 0, 1) := by decide +kernel
theorem d_Mo_frameLine_125 : decode b_Mo_frameLine 125 = .ok (.invokevirtual 707, 3) := by decide +kernel
theorem d_Mo_frameLine_128 : decode b_Mo_frameLine 128 = .ok (.iastore, 1) := by decide +kernel
theorem d_Mo_frameLine_129 : decode b_Mo_frameLine 129 = .ok (.aload_n 0, 1) := by decide +kernel
theorem d_Mo_frameLine_130 : decode b_Mo_frameLine 130 = .ok (.iconst (-1), 1) := by decide +kernel
theorem d_Mo_frameLine_131 : decode b_Mo_frameLine 131 = .ok (.aload_n 0, 1) := by decide +kernel
theorem d_Mo_frameLine_132 : decode b_Mo_frameLine 132 = .ok (.getfield 522, 3) := by decide +kernel
theorem d_Mo_frameLine_135 : decode b_Mo_frameLine 135 = .ok (.getfield 465, 3) := by decide +kernel
theorem d_Mo_frameLine_138 : decode b_Mo_frameLine 138 = .ok (.aload_n 0, 1) := by decide +kernel
theorem d_Mo_frameLine_139 : decode b_Mo_frameLine 139 = .ok (.getfield 642, 3) := by decide +kernel
theorem d_Mo_frameLine_142 : decode b_Mo_frameLine 142 = .ok (.iaload, 1) := by decide +kernel
theorem d_Mo_frameLine_143 : decode b_Mo_frameLine 143 = .ok (.isub, 1) := by decide +kernel
theorem d_Mo_frameLine_144 : decode b_Mo_frameLine 144 = .ok (.iconst 0, 1) := by decide +kernel
theorem d_Mo_frameLine_145 : decode b_Mo_frameLine 145 = .ok (.invokevirtual 656, 3) := by decide +kernel
theorem d_Mo_frameLine_148 : decode b_Mo_frameLine 148 = .ok (.aload_n 0, 1) := by decide +kernel
theorem d_Mo_frameLine_149 : decode b_Mo_frameLine 149 = .ok (.getfield 522, 3) := by decide +kernel
theorem d_Mo_frameLine_152 : decode b_Mo_frameLine 152 = .ok (.dup, 1) := by decide +kernel
theorem d_Mo_frameLine_153 : decode b_Mo_frameLine 153 = .ok (.getfield 477, 3) := by decide +kernel
theorem d_Mo_frameLine_156 : decode b_Mo_frameLine 156 = .ok (.iconst 1, 1) := by decide +kernel
theorem d_Mo_frameLine_157 : decode b_Mo_frameLine 157 = .ok (.iadd, 1) := by decide +kernel
theorem d_Mo_frameLine_158 : decode b_Mo_frameLine 158 = .ok (.putfield 477, 3) := by decide +kernel
theorem d_Mo_frameLine_161 : decode b_Mo_frameLine 161 = .ok (.aload_n 0, 1) := by decide +kernel
theorem d_Mo_frameLine_162 : decode b_Mo_frameLine 162 = .ok (.aload_n 0, 1) := by decide +kernel
theorem d_Mo_frameLine_163 : decode b_Mo_frameLine 163 = .ok (.getfield 522, 3) := by decide +kernel
theorem d_Mo_frameLine_166 : decode b_Mo_frameLine 166 = .ok (.getfield 477, 3) := by decide +kernel
theorem d_Mo_frameLine_169 : decode b_Mo_frameLine 169 = .ok (.putfield 650, 3) := by decide +kernel
theorem d_Mo_frameLine_172 : decode b_Mo_frameLine 172 = .ok (.return_, 1) := by decide +kernel
abbrev ra_Mo_frameLine (mc ms : Nat) : Room := { frames := 6, cells := mc, slots := ms, locals := 173 }
def wja_Mo_frameLine_16 (mc ms : Nat) (Post : Ly → St → Nat → Nat → Prop) (PX : Ly → St → Nat → Nat → Prop) (a0 : Nat) (y_j16 : Ly) (s_j16 : St) (d_j16 e_j16 : Nat) : Prop := (d_j16 ≤ mc ∧ e_j16 ≤ ms) ∧ ∃ b_1 : Nat, sO s_j16 a0 45 = some b_1 ∧ cl b_1 = 13 ∧ xR mc ms d_j16 e_j16 .int y_j16 s_j16 b_1 40 ((sV s_j16 b_1 41) + 1) (fun (y_4 : Ly) (s_5 : St) (d_6 e_7 : Nat) => (d_6 ≤ mc ∧ e_7 ≤ ms) ∧ ∃ b_8 : Nat, sO s_5 a0 45 = some b_8 ∧ cl b_8 = 13 ∧ xR mc ms d_6 e_7 .int y_4 s_5 b_8 38 ((sV s_j16 b_1 41) + 1) (fun (y_11 : Ly) (s_12 : St) (d_13 e_14 : Nat) => (d_13 ≤ mc ∧ e_14 ≤ ms) ∧ ∃ b_15 : Nat, sO s_12 a0 45 = some b_15 ∧ cl b_15 = 13 ∧ xR mc ms d_13 e_14 .int y_11 s_12 b_15 39 ((sV s_j16 b_1 41) + 1) (fun (y_18 : Ly) (s_19 : St) (d_20 e_21 : Nat) => (d_20 ≤ mc ∧ e_21 ≤ ms) ∧ ∃ b_22 : Nat, sO s_19 a0 45 = some b_22 ∧ cl b_22 = 13 ∧ xS y_18 s_19 b_22 40 (sV s_j16 b_1 41) (sV s_19 b_22 43) (fun s_25 : St => ∃ b_26 : Nat, sO s_25 a0 45 = some b_26 ∧ cl b_26 = 13 ∧ ∃ mc_34 ms_35 : Nat, (d_20 + mc_34 ≤ mc ∧ e_21 + ms_35 ≤ ms) ∧ wx_Mo_kindWords mc_34 ms_35 y_18 (fun (y_31 : Ly) (s_30 : St) (r_29 : Int32) (d_32 e_33 : Nat) => (d_20 + d_32 ≤ mc ∧ e_21 + e_33 ≤ ms) ∧ yP y_18 b_26 38 = yP y_31 b_26 38 ∧ xS y_31 s_30 b_26 38 (sV s_j16 b_1 41) r_29 (fun s_38 : St => ∃ b_39 : Nat, sO s_38 a0 45 = some b_39 ∧ cl b_39 = 13 ∧ ∃ mc_47 ms_48 : Nat, (d_20 + d_32 + mc_47 ≤ mc ∧ e_21 + e_33 + ms_48 ≤ ms) ∧ wx_Mo_kindWords mc_47 ms_48 y_31 (fun (y_44 : Ly) (s_43 : St) (r_42 : Int32) (d_45 e_46 : Nat) => (d_20 + d_32 + d_45 ≤ mc ∧ e_21 + e_33 + e_46 ≤ ms) ∧ yP y_31 b_39 39 = yP y_44 b_39 39 ∧ xS y_44 s_43 b_39 39 (sV s_j16 b_1 41) r_42 (fun s_51 : St => ∃ b_52 : Nat, sO s_51 a0 45 = some b_52 ∧ cl b_52 = 13 ∧ xA y_44 s_51 b_52 24 (sV s_51 a0 54) (fun x_55 : Int32 => ∃ mc_61 ms_62 : Nat, (d_20 + d_32 + d_45 + mc_61 ≤ mc ∧ e_21 + e_33 + e_46 + ms_62 ≤ ms) ∧ wa_Mo_addNine mc_61 ms_62 y_44 (fun (y_58 : Ly) (s_57 : St) (d_59 e_60 : Nat) => (d_20 + d_32 + d_45 + d_59 ≤ mc ∧ e_21 + e_33 + e_46 + e_60 ≤ ms) ∧ ∃ b_64 : Nat, sO s_57 a0 45 = some b_64 ∧ cl b_64 = 13 ∧ xP (uV s_57 b_64 41 ((sV s_57 b_64 41) + 1)) (fun s_67 : St => ∃ b_68 : Nat, sO s_67 a0 45 = some b_68 ∧ cl b_68 = 13 ∧ xP (uV s_67 a0 65 (sV s_67 b_68 41)) (fun s_71 : St => Post y_58 s_71 (d_20 + d_32 + d_45 + d_59) (e_21 + e_33 + e_46 + e_60)))) s_51 a0 ((-1) - x_55) 0))) (fun (y_44 : Ly) (s_43 : St) (d_45 e_46 : Nat) => ((d_20 + d_32 + d_45 ≤ mc ∧ e_21 + e_33 + e_46 ≤ ms) ∧ PX y_44 s_43 (d_20 + d_32 + d_45) (e_21 + e_33 + e_46))) s_38 a0 0)) (fun (y_31 : Ly) (s_30 : St) (d_32 e_33 : Nat) => ((d_20 + d_32 ≤ mc ∧ e_21 + e_33 ≤ ms) ∧ PX y_31 s_30 (d_20 + d_32) (e_21 + e_33))) s_25 a0 59))))
def wx_Mo_frameLine (mc ms : Nat) (y : Ly) (Post : Ly → St → Nat → Nat → Prop) (PX : Ly → St → Nat → Nat → Prop) (σ : St) (a0 : Nat) : Prop := (((sV σ a0 65) ≤ 0 → wja_Mo_frameLine_16 mc ms Post PX a0 y σ 0 0) ∧ (¬ ((sV σ a0 65) ≤ 0) → xP (uV σ a0 43 0) (fun s_72 : St => ∃ mc_78 ms_79 : Nat, (0 + mc_78 ≤ mc ∧ 0 + ms_79 ≤ ms) ∧ wx_Mo_wrong mc_78 ms_79 y (fun (y_75 : Ly) (s_74 : St) (d_76 e_77 : Nat) => (0 + d_76 ≤ mc ∧ 0 + e_77 ≤ ms) ∧ wja_Mo_frameLine_16 mc ms Post PX a0 y_75 s_74 (0 + d_76) (0 + e_77)) (fun (y_75 : Ly) (s_74 : St) (d_76 e_77 : Nat) => ((0 + d_76 ≤ mc ∧ 0 + e_77 ≤ ms) ∧ PX y_75 s_74 (0 + d_76) (0 + e_77))) s_72 a0)))
set_option maxHeartbeats 4000000 in
set_option maxRecDepth 100000 in
theorem cx_Mo_frameLine (l : Launch) (D : va_G) (g : Nat → ClassId) (ad : Nat → Nat) (mc ms : Nat) (y : Ly) (Post : Ly → St → Nat → Nat → Prop) (PX : Ly → St → Nat → Nat → Prop) (σ : St) (a0 : Nat) (sz uz : Nat) (h_a0 : cl a0 = 14) (h : wx_Mo_frameLine mc ms y Post PX σ a0) : vx_Met l y_Mo_frameLine (mw y_Mo_frameLine b_Mo_frameLine 2 (none)) (ra_Mo_frameLine mc ms) (PCu g D [] [.ref (ad a0)] sz uz (ws g ad y σ)) (va_Qv (fun (u : Ly × St × Nat × Nat) => Post u.1 u.2.1 u.2.2.1 u.2.2.2) (QU D (va_A (ws g ad y σ) sz) (fun u => ws g ad u.1 u.2.1) sz uz (fun u => u.2.2.1) (fun u => u.2.2.2)) (va_A (ws g ad y σ) sz)) (XQ D g ad (va_A (ws g ad y σ) sz) sz uz PX) mc ms (va_A (ws g ad y σ) sz) := by
  refine ofVx (by decide +kernel) (Nat.le_of_ble_eq_true rfl) ?_
  intro p e s m args below meth c A Q ls H locs G hsz hP hD hS hl hret hretX
  subst hsz
  have hl : lv_has ls 2 [(0, .ref (ad a0))] := hl
  have hd : 0 ≤ mc ∧ 0 ≤ ms := ⟨Nat.zero_le _, Nat.zero_le _⟩
  unfold wx_Mo_frameLine at h
  refine lv_aload_n G.1 G.2.1 d_Mo_frameLine_0 rfl (lv_at hl 0 rfl) ?_
  refine ugf (v := .int (sV σ a0 65)) G hP h_a0 iMo rfl 65 (by decide) rfl q3129 rfl rfl d_Mo_frameLine_1 ?_
  have J_16 : ∀ (y_j16 : Ly) (s_j16 : St) (d_j16 e_j16 : Nat) (H : Heap) (locs : List Loc), wja_Mo_frameLine_16 mc ms Post PX a0 y_j16 s_j16 d_j16 e_j16 → va_P D CL (ws g ad y_j16 s_j16) H → va_D A (ws g ad y_j16 s_j16) → va_S A s.heap H locs → ∀ ls, lv_has ls 2 [(0, .ref (ad a0))] → W p l e (ra_Mo_frameLine mc ms) s m args below meth c H locs d_j16 e_j16 Q (F0 m 16 ls []) := by
    intro y_j16 s_j16 d_j16 e_j16 H locs h hP hD hS ls hl
    unfold wja_Mo_frameLine_16 at h
    obtain ⟨hd, h⟩ := h
    refine lv_aload_n G.1 G.2.1 d_Mo_frameLine_16 rfl (lv_at hl 0 rfl) ?_
    obtain ⟨b_1, e_2, c_3, h⟩ := h
    refine ugf (v := .ref (ad b_1)) G hP h_a0 iMo rfl 45 (by decide) rfl q3109 rfl (by show va_rf ((sO s_j16 a0 45).map ad) = _; rw [e_2]; rfl) d_Mo_frameLine_17 ?_
    refine ugfN (v := .int (sV s_j16 b_1 41)) G hP c_3 iMw rfl 41 (by decide) rfl q2783 rfl rfl d_Mo_frameLine_20 ?_
    refine lv_istore_n (lv' := [(1, .int (sV s_j16 b_1 41)), (0, .ref (ad a0))]) G.1 G.2.1 d_Mo_frameLine_23 rfl hl (by decide) rfl (fun ls hl => ?_)
    refine lv_aload_n G.1 G.2.1 d_Mo_frameLine_24 rfl (lv_at hl 1 rfl) ?_
    refine ugf (v := .ref (ad b_1)) G hP h_a0 iMo rfl 45 (by decide) rfl q3109 rfl (by show va_rf ((sO s_j16 a0 45).map ad) = _; rw [e_2]; rfl) d_Mo_frameLine_25 ?_
    refine lv_aload_n G.1 G.2.1 d_Mo_frameLine_28 rfl (lv_at hl 1 rfl) ?_
    refine ugf (v := .ref (ad b_1)) G hP h_a0 iMo rfl 45 (by decide) rfl q3109 rfl (by show va_rf ((sO s_j16 a0 45).map ad) = _; rw [e_2]; rfl) d_Mo_frameLine_29 ?_
    refine ugfN (v := .ref (yP y_j16 b_1 40)) G hP c_3 iMw rfl 40 (by decide) rfl q2782 rfl rfl d_Mo_frameLine_32 ?_
    refine lv_iload_n G.1 G.2.1 d_Mo_frameLine_35 rfl (lv_at hl 0 rfl) ?_
    refine lv_iconst (v := 1) G.1 G.2.1 d_Mo_frameLine_36 (by decide) ?_
    refine W.eq (g2 := F0 m 37 ls [.int 1, .int (sV s_j16 b_1 41), .ref (yP y_j16 b_1 40), .ref (ad b_1)]) rfl ?_
    refine lv_iadd G.1 G.2.1 d_Mo_frameLine_37 ?_
    refine uroomN (C := RMw) (T := TMw) (N := 72) G hP hD hS (fun ws0 q1 q t n f sz he ht hn => c_Mo_room_k l D g ws0 q1 q t n f sz he ht hn) (fun ws0 q1 q t n f sz he hn ht hf => c_Mo_room_g l D g ws0 q1 q t n f sz he hn ht hf) w9_Mo_room q2596 ⟨Nat.le_of_ble_eq_true rfl, Nat.le_of_ble_eq_true rfl⟩ (Nat.le_refl _) (Nat.le_refl _) hd (by decide) c_3 rfl rfl iMw tMw tMw_ok nMw rfl (by decide) q2782 rfl rfl (fun _ => rfl) (fun _ => rfl) hl.1 (Nat.le_of_ble_eq_true rfl) h d_Mo_frameLine_38 d_Mo_frameLine_41 (fun y_4 s_5 d_6 e_7 H locs h hP hD hS => ?_)
    obtain ⟨hd, h⟩ := h
    refine lv_aload_n G.1 G.2.1 d_Mo_frameLine_44 rfl (lv_at hl 1 rfl) ?_
    obtain ⟨b_8, e_9, c_10, h⟩ := h
    refine ugf (v := .ref (ad b_8)) G hP h_a0 iMo rfl 45 (by decide) rfl q3109 rfl (by show va_rf ((sO s_5 a0 45).map ad) = _; rw [e_9]; rfl) d_Mo_frameLine_45 ?_
    refine lv_aload_n G.1 G.2.1 d_Mo_frameLine_48 rfl (lv_at hl 1 rfl) ?_
    refine ugf (v := .ref (ad b_8)) G hP h_a0 iMo rfl 45 (by decide) rfl q3109 rfl (by show va_rf ((sO s_5 a0 45).map ad) = _; rw [e_9]; rfl) d_Mo_frameLine_49 ?_
    refine ugfN (v := .ref (yP y_4 b_8 38)) G hP c_10 iMw rfl 38 (by decide) rfl q2778 rfl rfl d_Mo_frameLine_52 ?_
    refine lv_iload_n G.1 G.2.1 d_Mo_frameLine_55 rfl (lv_at hl 0 rfl) ?_
    refine lv_iconst (v := 1) G.1 G.2.1 d_Mo_frameLine_56 (by decide) ?_
    refine lv_iadd G.1 G.2.1 d_Mo_frameLine_57 ?_
    refine uroomN (C := RMw) (T := TMw) (N := 72) G hP hD hS (fun ws0 q1 q t n f sz he ht hn => c_Mo_room_k l D g ws0 q1 q t n f sz he ht hn) (fun ws0 q1 q t n f sz he hn ht hf => c_Mo_room_g l D g ws0 q1 q t n f sz he hn ht hf) w9_Mo_room q2596 ⟨Nat.le_of_ble_eq_true rfl, Nat.le_of_ble_eq_true rfl⟩ (Nat.le_refl _) (Nat.le_refl _) hd (by decide) c_10 rfl rfl iMw tMw tMw_ok nMw rfl (by decide) q2778 rfl rfl (fun _ => rfl) (fun _ => rfl) hl.1 (Nat.le_of_ble_eq_true rfl) h d_Mo_frameLine_58 d_Mo_frameLine_61 (fun y_11 s_12 d_13 e_14 H locs h hP hD hS => ?_)
    obtain ⟨hd, h⟩ := h
    refine lv_aload_n G.1 G.2.1 d_Mo_frameLine_64 rfl (lv_at hl 1 rfl) ?_
    refine W.eq (g2 := F0 m 65 ls [.ref (ad a0)]) rfl ?_
    obtain ⟨b_15, e_16, c_17, h⟩ := h
    refine ugf (v := .ref (ad b_15)) G hP h_a0 iMo rfl 45 (by decide) rfl q3109 rfl (by show va_rf ((sO s_12 a0 45).map ad) = _; rw [e_16]; rfl) d_Mo_frameLine_65 ?_
    refine lv_aload_n G.1 G.2.1 d_Mo_frameLine_68 rfl (lv_at hl 1 rfl) ?_
    refine ugf (v := .ref (ad b_15)) G hP h_a0 iMo rfl 45 (by decide) rfl q3109 rfl (by show va_rf ((sO s_12 a0 45).map ad) = _; rw [e_16]; rfl) d_Mo_frameLine_69 ?_
    refine ugfN (v := .ref (yP y_11 b_15 39)) G hP c_17 iMw rfl 39 (by decide) rfl q2780 rfl rfl d_Mo_frameLine_72 ?_
    refine lv_iload_n G.1 G.2.1 d_Mo_frameLine_75 rfl (lv_at hl 0 rfl) ?_
    refine lv_iconst (v := 1) G.1 G.2.1 d_Mo_frameLine_76 (by decide) ?_
    refine lv_iadd G.1 G.2.1 d_Mo_frameLine_77 ?_
    refine uroomN (C := RMw) (T := TMw) (N := 72) G hP hD hS (fun ws0 q1 q t n f sz he ht hn => c_Mo_room_k l D g ws0 q1 q t n f sz he ht hn) (fun ws0 q1 q t n f sz he hn ht hf => c_Mo_room_g l D g ws0 q1 q t n f sz he hn ht hf) w9_Mo_room q2596 ⟨Nat.le_of_ble_eq_true rfl, Nat.le_of_ble_eq_true rfl⟩ (Nat.le_refl _) (Nat.le_refl _) hd (by decide) c_17 rfl rfl iMw tMw tMw_ok nMw rfl (by decide) q2780 rfl rfl (fun _ => rfl) (fun _ => rfl) hl.1 (Nat.le_of_ble_eq_true rfl) h d_Mo_frameLine_78 d_Mo_frameLine_81 (fun y_18 s_19 d_20 e_21 H locs h hP hD hS => ?_)
    obtain ⟨hd, h⟩ := h
    refine lv_aload_n G.1 G.2.1 d_Mo_frameLine_84 rfl (lv_at hl 1 rfl) ?_
    obtain ⟨b_22, e_23, c_24, h⟩ := h
    refine ugf (v := .ref (ad b_22)) G hP h_a0 iMo rfl 45 (by decide) rfl q3109 rfl (by show va_rf ((sO s_19 a0 45).map ad) = _; rw [e_23]; rfl) d_Mo_frameLine_85 ?_
    refine ugfN (v := .ref (yP y_18 b_22 40)) G hP c_24 iMw rfl 40 (by decide) rfl q2782 rfl rfl d_Mo_frameLine_88 ?_
    refine lv_iload_n G.1 G.2.1 d_Mo_frameLine_91 rfl (lv_at hl 0 rfl) ?_
    refine W.eq (g2 := F0 m 92 ls [.int (sV s_j16 b_1 41), .ref (yP y_18 b_22 40)]) rfl ?_
    refine lv_aload_n G.1 G.2.1 d_Mo_frameLine_92 rfl (lv_at hl 1 rfl) ?_
    refine ugf (v := .ref (ad b_22)) G hP h_a0 iMo rfl 45 (by decide) rfl q3109 rfl (by show va_rf ((sO s_19 a0 45).map ad) = _; rw [e_23]; rfl) d_Mo_frameLine_93 ?_
    refine ugfN (v := .int (sV s_19 b_22 43)) G hP c_24 iMw rfl 43 (by decide) rfl q2786 rfl rfl d_Mo_frameLine_96 ?_
    refine uiast G hP hD hS (kdp c_24 rfl) (typ c_24 rfl) h d_Mo_frameLine_99 (fun s_25 H locs h hP hD hS => ?_)
    refine lv_aload_n G.1 G.2.1 d_Mo_frameLine_100 rfl (lv_at hl 1 rfl) ?_
    obtain ⟨b_26, e_27, c_28, h⟩ := h
    refine ugf (v := .ref (ad b_26)) G hP h_a0 iMo rfl 45 (by decide) rfl q3109 rfl (by show va_rf ((sO s_25 a0 45).map ad) = _; rw [e_27]; rfl) d_Mo_frameLine_101 ?_
    refine ugfN (v := .ref (yP y_18 b_26 38)) G hP c_28 iMw rfl 38 (by decide) rfl q2778 rfl rfl d_Mo_frameLine_104 ?_
    refine lv_iload_n G.1 G.2.1 d_Mo_frameLine_107 rfl (lv_at hl 0 rfl) ?_
    refine lv_aload_n G.1 G.2.1 d_Mo_frameLine_108 rfl (lv_at hl 1 rfl) ?_
    refine lv_bipush (v := 59) G.1 G.2.1 d_Mo_frameLine_109 (by decide) ?_
    obtain ⟨mc_34, ms_35, hr_36, h⟩ := h
    refine uxVi (As := [.int 59]) (rest := [.int (sV s_j16 b_1 41), .ref (yP y_18 b_26 38)]) G hP hD hS (cx_Mo_kindWords l D g ad mc_34 ms_35 y_18 _ _ s_25 a0 59 H.size (us H) h_a0 h) (fun _ h => absurd h List.not_mem_nil) w9_Mo_kindWords q3624 ⟨Nat.le_of_ble_eq_true rfl, Nat.le_of_ble_eq_true rfl⟩ rfl rfl h_a0 (q := (RMo, TMo, 131)) rfl rfl hl.1 rfl (Nat.le_of_ble_eq_true rfl) rfl hr_36 d_Mo_frameLine_111 (fun y_31 s_30 d_32 e_33 H locs q9 ce h hP hD hS hce hcv hcl => ?_) (fun r_29 y_31 s_30 d_32 e_33 H locs h hP hD hS => ?_)
    · skip
      obtain ⟨hd, h⟩ := h
      exact hretX h hP hD hS hd.1 hd.2 hce hcv hcl
    obtain ⟨hd, h⟩ := h
    obtain ⟨n_37, h⟩ := h
    rw [n_37]
    refine uiast G hP hD hS (kdp c_28 rfl) (typ c_28 rfl) h d_Mo_frameLine_114 (fun s_38 H locs h hP hD hS => ?_)
    refine W.eq (g2 := F0 m 115 ls []) rfl ?_
    refine lv_aload_n G.1 G.2.1 d_Mo_frameLine_115 rfl (lv_at hl 1 rfl) ?_
    obtain ⟨b_39, e_40, c_41, h⟩ := h
    refine ugf (v := .ref (ad b_39)) G hP h_a0 iMo rfl 45 (by decide) rfl q3109 rfl (by show va_rf ((sO s_38 a0 45).map ad) = _; rw [e_40]; rfl) d_Mo_frameLine_116 ?_
    refine ugfN (v := .ref (yP y_31 b_39 39)) G hP c_41 iMw rfl 39 (by decide) rfl q2780 rfl rfl d_Mo_frameLine_119 ?_
    refine lv_iload_n G.1 G.2.1 d_Mo_frameLine_122 rfl (lv_at hl 0 rfl) ?_
    refine lv_aload_n G.1 G.2.1 d_Mo_frameLine_123 rfl (lv_at hl 1 rfl) ?_
    refine lv_iconst (v := 0) G.1 G.2.1 d_Mo_frameLine_124 (by decide) ?_
    obtain ⟨mc_47, ms_48, hr_49, h⟩ := h
    refine uxVi (As := [.int 0]) (rest := [.int (sV s_j16 b_1 41), .ref (yP y_31 b_39 39)]) G hP hD hS (cx_Mo_kindWords l D g ad mc_47 ms_48 y_31 _ _ s_38 a0 0 H.size (us H) h_a0 h) (fun _ h => absurd h List.not_mem_nil) w9_Mo_kindWords q3624 ⟨Nat.le_of_ble_eq_true rfl, Nat.le_of_ble_eq_true rfl⟩ rfl rfl h_a0 (q := (RMo, TMo, 131)) rfl rfl hl.1 rfl (Nat.le_of_ble_eq_true rfl) rfl hr_49 d_Mo_frameLine_125 (fun y_44 s_43 d_45 e_46 H locs q9 ce h hP hD hS hce hcv hcl => ?_) (fun r_42 y_44 s_43 d_45 e_46 H locs h hP hD hS => ?_)
    · skip
      obtain ⟨hd, h⟩ := h
      exact hretX h hP hD hS hd.1 hd.2 hce hcv hcl
    have hl := lv_sub (l' := [(0, .ref (ad a0))]) hl [1] rfl
    obtain ⟨hd, h⟩ := h
    obtain ⟨n_50, h⟩ := h
    rw [n_50]
    refine uiast G hP hD hS (kdp c_41 rfl) (typ c_41 rfl) h d_Mo_frameLine_128 (fun s_51 H locs h hP hD hS => ?_)
    refine lv_aload_n G.1 G.2.1 d_Mo_frameLine_129 rfl (lv_at hl 0 rfl) ?_
    refine lv_iconst (v := (-1)) G.1 G.2.1 d_Mo_frameLine_130 (by decide) ?_
    refine lv_aload_n G.1 G.2.1 d_Mo_frameLine_131 rfl (lv_at hl 0 rfl) ?_
    obtain ⟨b_52, e_53, c_54, h⟩ := h
    refine ugf (v := .ref (ad b_52)) G hP h_a0 iMo rfl 45 (by decide) rfl q3109 rfl (by show va_rf ((sO s_51 a0 45).map ad) = _; rw [e_53]; rfl) d_Mo_frameLine_132 ?_
    refine W.eq (g2 := F0 m 135 ls [.ref (ad b_52), .int (-1), .ref (ad a0)]) rfl ?_
    refine ugfN (v := .ref (yP y_44 b_52 24)) G hP c_54 iMw rfl 24 (by decide) rfl q2752 rfl rfl d_Mo_frameLine_135 ?_
    refine lv_aload_n G.1 G.2.1 d_Mo_frameLine_138 rfl (lv_at hl 0 rfl) ?_
    refine ugf (v := .int (sV s_51 a0 54)) G hP h_a0 iMo rfl 54 (by decide) rfl q3118 rfl rfl d_Mo_frameLine_139 ?_
    refine uiald G hP (kdp c_54 rfl) (typ c_54 rfl) h d_Mo_frameLine_142 (fun x_55 h => ?_)
    refine lv_isub G.1 G.2.1 d_Mo_frameLine_143 ?_
    refine lv_iconst (v := 0) G.1 G.2.1 d_Mo_frameLine_144 (by decide) ?_
    obtain ⟨mc_61, ms_62, hr_63, h⟩ := h
    refine uaVv (As := [.int ((-1) - x_55), .int 0]) (rest := []) G hP hD hS (ca_Mo_addNine l D g ad mc_61 ms_62 y_44 _ s_51 a0 ((-1) - x_55) 0 H.size (us H) h_a0 h) w9_Mo_addNine q3632 ⟨Nat.le_of_ble_eq_true rfl, Nat.le_of_ble_eq_true rfl⟩ rfl rfl h_a0 (q := (RMo, TMo, 131)) rfl rfl hl.1 rfl (Nat.le_of_ble_eq_true rfl) rfl hr_63 d_Mo_frameLine_145 (fun y_58 s_57 d_59 e_60 H locs h hP hD hS => ?_)
    obtain ⟨hd, h⟩ := h
    refine lv_aload_n G.1 G.2.1 d_Mo_frameLine_148 rfl (lv_at hl 0 rfl) ?_
    obtain ⟨b_64, e_65, c_66, h⟩ := h
    refine ugf (v := .ref (ad b_64)) G hP h_a0 iMo rfl 45 (by decide) rfl q3109 rfl (by show va_rf ((sO s_57 a0 45).map ad) = _; rw [e_65]; rfl) d_Mo_frameLine_149 ?_
    refine lv_dup G.1 G.2.1 d_Mo_frameLine_152 rfl ?_
    refine ugfN (v := .int (sV s_57 b_64 41)) G hP c_66 iMw rfl 41 (by decide) rfl q2783 rfl rfl d_Mo_frameLine_153 ?_
    refine lv_iconst (v := 1) G.1 G.2.1 d_Mo_frameLine_156 (by decide) ?_
    refine W.eq (g2 := F0 m 157 ls [.int 1, .int (sV s_57 b_64 41), .ref (ad b_64)]) rfl ?_
    refine lv_iadd G.1 G.2.1 d_Mo_frameLine_157 ?_
    refine upfN G hP hD hS h 41 putV c_66 iMw tMw tMw_ok nMw rfl (by decide) rfl q2783 rfl rfl fV rfl rfl d_Mo_frameLine_158 (fun s_67 H locs h hP hD hS => ?_)
    refine lv_aload_n G.1 G.2.1 d_Mo_frameLine_161 rfl (lv_at hl 0 rfl) ?_
    refine lv_aload_n G.1 G.2.1 d_Mo_frameLine_162 rfl (lv_at hl 0 rfl) ?_
    obtain ⟨b_68, e_69, c_70, h⟩ := h
    refine ugf (v := .ref (ad b_68)) G hP h_a0 iMo rfl 45 (by decide) rfl q3109 rfl (by show va_rf ((sO s_67 a0 45).map ad) = _; rw [e_69]; rfl) d_Mo_frameLine_163 ?_
    refine ugfN (v := .int (sV s_67 b_68 41)) G hP c_70 iMw rfl 41 (by decide) rfl q2783 rfl rfl d_Mo_frameLine_166 ?_
    refine upf G hP hD hS h 65 putV h_a0 iMo tMo tMo_ok nMo rfl (by decide) rfl q3129 rfl rfl fV rfl rfl d_Mo_frameLine_169 (fun s_71 H locs h hP hD hS => ?_)
    exact hret (y_58, s_71, d_20 + d_32 + d_45 + d_59, e_21 + e_33 + e_46 + e_60) _ _ _ _ _ ls h hP hD hS (Nat.le_refl _) (Nat.le_refl _) hd.1 hd.2 d_Mo_frameLine_172
  refine lv_if_le (tgt := 16) G.1 G.2.1 d_Mo_frameLine_4 (by decide) (fun c4 => ?_) (fun c4 => ?_)
  · skip
    have h := h.1 c4
    exact J_16 y σ 0 0 H locs h hP hD hS ls (lv_sub hl [0] rfl)
  · skip
    have h := h.2 c4
    refine lv_aload_n G.1 G.2.1 d_Mo_frameLine_7 rfl (lv_at hl 0 rfl) ?_
    refine lv_iconst (v := 0) G.1 G.2.1 d_Mo_frameLine_8 (by decide) ?_
    refine upf G hP hD hS h 43 putV h_a0 iMo tMo tMo_ok nMo rfl (by decide) rfl q3107 rfl rfl fV rfl rfl d_Mo_frameLine_9 (fun s_72 H locs h hP hD hS => ?_)
    refine lv_aload_n G.1 G.2.1 d_Mo_frameLine_12 rfl (lv_at hl 0 rfl) ?_
    obtain ⟨mc_78, ms_79, hr_80, h⟩ := h
    refine uxVv (As := []) (rest := []) G hP hD hS (cx_Mo_wrong l D g ad mc_78 ms_79 y _ _ s_72 a0 H.size (us H) h_a0 h) (fun _ h => absurd h List.not_mem_nil) w9_Mo_wrong q3551 ⟨Nat.le_of_ble_eq_true rfl, Nat.le_of_ble_eq_true rfl⟩ rfl rfl h_a0 (q := (RMo, TMo, 131)) rfl rfl hl.1 rfl (Nat.le_of_ble_eq_true rfl) rfl hr_80 d_Mo_frameLine_13 (fun y_75 s_74 d_76 e_77 H locs q9 ce h hP hD hS hce hcv hcl => ?_) (fun y_75 s_74 d_76 e_77 H locs h hP hD hS => ?_)
    · skip
      obtain ⟨hd, h⟩ := h
      exact hretX h hP hD hS hd.1 hd.2 hce hcv hcl
    obtain ⟨hd, h⟩ := h
    exact J_16 y_75 s_74 (0 + d_76) (0 + e_77) H locs h hP hD hS ls (lv_sub hl [0] rfl)
def y_Mo_usedLabel : MethodName := ⟨"ClassWorksModel", "usedLabel", "()I"⟩
abbrev b_Mo_usedLabel : ByteArray := prog_14_method_42_code
theorem d_Mo_usedLabel_0 : decode b_Mo_usedLabel 0 = .ok (.aload_n 0, 1) := by decide +kernel
theorem d_Mo_usedLabel_1 : decode b_Mo_usedLabel 1 = .ok (.invokevirtual 551, 3) := by decide +kernel
theorem d_Mo_usedLabel_4 : decode b_Mo_usedLabel 4 = .ok (.istore_n 1, 1) := by decide +kernel
theorem d_Mo_usedLabel_5 : decode b_Mo_usedLabel 5 = .ok (.aload_n 0, 1) := by decide +kernel
theorem d_Mo_usedLabel_6 : decode b_Mo_usedLabel 6 = .ok (.iload_n 1, 1) := by decide +kernel
theorem d_Mo_usedLabel_7 : decode b_Mo_usedLabel 7 = .ok (.iconst 0, 1) := by decide +kernel
theorem d_Mo_usedLabel_8 : decode b_Mo_usedLabel 8 = .ok (.invokevirtual 656, 3) := by decide +kernel
theorem d_Mo_usedLabel_11 : decode b_Mo_usedLabel 11 = .ok (.iload_n 1, 1) := by decide +kernel
theorem d_Mo_usedLabel_12 : decode b_Mo_usedLabel 12 = .ok (.ireturn, 1) := by decide +kernel
abbrev ra_Mo_usedLabel (mc ms : Nat) : Room := { frames := 3, cells := mc, slots := ms, locals := 173 }
def wx_Mo_usedLabel (mc ms : Nat) (y : Ly) (Post : Ly → St → Int32 → Nat → Nat → Prop) (PX : Ly → St → Nat → Nat → Prop) (σ : St) (a0 : Nat) : Prop := ∃ mc_6 ms_7 : Nat, (0 + mc_6 ≤ mc ∧ 0 + ms_7 ≤ ms) ∧ wx_Mo_plainName mc_6 ms_7 y (fun (y_3 : Ly) (s_2 : St) (r_1 : Int32) (d_4 e_5 : Nat) => (0 + d_4 ≤ mc ∧ 0 + e_5 ≤ ms) ∧ ∃ mc_14 ms_15 : Nat, (0 + d_4 + mc_14 ≤ mc ∧ 0 + e_5 + ms_15 ≤ ms) ∧ wa_Mo_addNine mc_14 ms_15 y_3 (fun (y_11 : Ly) (s_10 : St) (d_12 e_13 : Nat) => (0 + d_4 + d_12 ≤ mc ∧ 0 + e_5 + e_13 ≤ ms) ∧ Post y_11 s_10 r_1 (0 + d_4 + d_12) (0 + e_5 + e_13)) s_2 a0 r_1 0) (fun (y_3 : Ly) (s_2 : St) (d_4 e_5 : Nat) => ((0 + d_4 ≤ mc ∧ 0 + e_5 ≤ ms) ∧ PX y_3 s_2 (0 + d_4) (0 + e_5))) σ a0
set_option maxHeartbeats 4000000 in
set_option maxRecDepth 100000 in
theorem cx_Mo_usedLabel (l : Launch) (D : va_G) (g : Nat → ClassId) (ad : Nat → Nat) (mc ms : Nat) (y : Ly) (Post : Ly → St → Int32 → Nat → Nat → Prop) (PX : Ly → St → Nat → Nat → Prop) (σ : St) (a0 : Nat) (sz uz : Nat) (h_a0 : cl a0 = 14) (h : wx_Mo_usedLabel mc ms y Post PX σ a0) : vx_Met l y_Mo_usedLabel (mw y_Mo_usedLabel b_Mo_usedLabel 2 (some .int)) (ra_Mo_usedLabel mc ms) (PCu g D [] [.ref (ad a0)] sz uz (ws g ad y σ)) (va_Qi (fun (r : Int32) (u : Ly × St × Nat × Nat) => Post u.1 u.2.1 r u.2.2.1 u.2.2.2) (QU D (va_A (ws g ad y σ) sz) (fun u => ws g ad u.1 u.2.1) sz uz (fun u => u.2.2.1) (fun u => u.2.2.2)) (va_A (ws g ad y σ) sz)) (XQ D g ad (va_A (ws g ad y σ) sz) sz uz PX) mc ms (va_A (ws g ad y σ) sz) := by
  refine ofIx (by decide +kernel) (Nat.le_of_ble_eq_true rfl) ?_
  intro p e s m args below meth c A Q ls H locs G hsz hP hD hS hl hret hretX
  subst hsz
  have hl : lv_has ls 2 [(0, .ref (ad a0))] := hl
  have hd : 0 ≤ mc ∧ 0 ≤ ms := ⟨Nat.zero_le _, Nat.zero_le _⟩
  unfold wx_Mo_usedLabel at h
  refine lv_aload_n G.1 G.2.1 d_Mo_usedLabel_0 rfl (lv_at hl 0 rfl) ?_
  obtain ⟨mc_6, ms_7, hr_8, h⟩ := h
  refine uxVi (As := []) (rest := []) G hP hD hS (cx_Mo_plainName l D g ad mc_6 ms_7 y _ _ σ a0 H.size (us H) h_a0 h) (fun _ h => absurd h List.not_mem_nil) w9_Mo_plainName q3563 ⟨Nat.le_of_ble_eq_true rfl, Nat.le_of_ble_eq_true rfl⟩ rfl rfl h_a0 (q := (RMo, TMo, 131)) rfl rfl hl.1 rfl (Nat.le_of_ble_eq_true rfl) rfl hr_8 d_Mo_usedLabel_1 (fun y_3 s_2 d_4 e_5 H locs q9 ce h hP hD hS hce hcv hcl => ?_) (fun r_1 y_3 s_2 d_4 e_5 H locs h hP hD hS => ?_)
  · skip
    obtain ⟨hd, h⟩ := h
    exact hretX h hP hD hS hd.1 hd.2 hce hcv hcl
  obtain ⟨hd, h⟩ := h
  refine lv_istore_n (lv' := [(1, .int r_1), (0, .ref (ad a0))]) G.1 G.2.1 d_Mo_usedLabel_4 rfl hl (by decide) rfl (fun ls hl => ?_)
  refine lv_aload_n G.1 G.2.1 d_Mo_usedLabel_5 rfl (lv_at hl 1 rfl) ?_
  refine lv_iload_n G.1 G.2.1 d_Mo_usedLabel_6 rfl (lv_at hl 0 rfl) ?_
  refine lv_iconst (v := 0) G.1 G.2.1 d_Mo_usedLabel_7 (by decide) ?_
  obtain ⟨mc_14, ms_15, hr_16, h⟩ := h
  refine uaVv (As := [.int r_1, .int 0]) (rest := []) G hP hD hS (ca_Mo_addNine l D g ad mc_14 ms_15 y_3 _ s_2 a0 r_1 0 H.size (us H) h_a0 h) w9_Mo_addNine q3632 ⟨Nat.le_of_ble_eq_true rfl, Nat.le_of_ble_eq_true rfl⟩ rfl rfl h_a0 (q := (RMo, TMo, 131)) rfl rfl hl.1 rfl (Nat.le_of_ble_eq_true rfl) rfl hr_16 d_Mo_usedLabel_8 (fun y_11 s_10 d_12 e_13 H locs h hP hD hS => ?_)
  have hl := lv_sub (l' := [(1, .int r_1)]) hl [0] rfl
  obtain ⟨hd, h⟩ := h
  refine lv_iload_n G.1 G.2.1 d_Mo_usedLabel_11 rfl (lv_at hl 0 rfl) ?_
  exact hret _ (y_11, s_10, 0 + d_4 + d_12, 0 + e_5 + e_13) _ _ _ _ _ ls h hP hD hS (Nat.le_refl _) (Nat.le_refl _) hd.1 hd.2 d_Mo_usedLabel_12
theorem q3641 : Cond.methodLink "ClassWorksModel" 668 y_Mo_usedLabel ∈ lw_ok := lw_okmem (List.mem_of_getElem? (i := 3641) (by decide +kernel)) rfl
theorem q3644 : Cond.code y_Mo_usedLabel b_Mo_usedLabel 2 (some .int) ∈ lw_ok := lw_okmem (List.mem_of_getElem? (i := 3644) (by decide +kernel)) rfl
theorem q3643 : Cond.instanceMethod y_Mo_usedLabel ∈ lw_ok := lw_okmem (List.mem_of_getElem? (i := 3643) (by decide +kernel)) rfl
theorem q213 : Cond.selects y_Mo_usedLabel.cls y_Mo_usedLabel y_Mo_usedLabel ∈ lw_ok := lw_okmem (List.mem_of_getElem? (i := 213) (by decide +kernel)) rfl
theorem w9_Mo_usedLabel : CWv y_Mo_usedLabel b_Mo_usedLabel 2 (some .int) 0 ∧ Cond.instanceMethod y_Mo_usedLabel ∈ lw_ok ∧ Cond.selects y_Mo_usedLabel.cls y_Mo_usedLabel y_Mo_usedLabel ∈ lw_ok := ⟨⟨q3644, q348, by decide +kernel, by decide +kernel, by decide +kernel⟩, q3643, q213⟩
def y_Mo_handlerLine : MethodName := ⟨"ClassWorksModel", "handlerLine", "()V"⟩
abbrev b_Mo_handlerLine : ByteArray := prog_14_method_48_code
theorem d_Mo_handlerLine_0 : decode b_Mo_handlerLine 0 = .ok (.aload_n 0, 1) := by decide +kernel
theorem d_Mo_handlerLine_1 : decode b_Mo_handlerLine 1 = .ok (.getfield 522, 3) := by decide +kernel
theorem d_Mo_handlerLine_4 : decode b_Mo_handlerLine 4 = .ok (.getfield 468, 3) := by decide +kernel
theorem d_Mo_handlerLine_7 : decode b_Mo_handlerLine 7 = .ok (.aload_n 0, 1) := by decide +kernel
theorem d_Mo_handlerLine_8 : decode b_Mo_handlerLine 8 = .ok (.getfield 642, 3) := by decide +kernel
theorem d_Mo_handlerLine_11 : decode b_Mo_handlerLine 11 = .ok (.iaload, 1) := by decide +kernel
theorem d_Mo_handlerLine_12 : decode b_Mo_handlerLine 12 = .ok (.istore_n 1, 1) := by decide +kernel
theorem d_Mo_handlerLine_13 : decode b_Mo_handlerLine 13 = .ok (.bipush 8, 2) := by decide +kernel
theorem d_Mo_handlerLine_15 : decode b_Mo_handlerLine 15 = .ok (.aload_n 0, 1) := by decide +kernel
theorem d_Mo_handlerLine_16 : decode b_Mo_handlerLine 16 = .ok (.getfield 642, 3) := by decide +kernel
theorem d_Mo_handlerLine_19 : decode b_Mo_handlerLine 19 = .ok (.imul, 1) := by decide +kernel
theorem d_Mo_handlerLine_20 : decode b_Mo_handlerLine 20 = .ok (.iload_n 1, 1) := by decide +kernel
theorem d_Mo_handlerLine_21 : decode b_Mo_handlerLine 21 = .ok (.bipush 7, 2) := by decide +kernel
theorem d_Mo_handlerLine_23 : decode b_Mo_handlerLine 23 = .ok (.invokestatic 710, 3) := by decide +kernel
theorem d_Mo_handlerLine_26 : decode b_Mo_handlerLine 26 = .ok (.iadd, 1) := by decide +kernel
theorem d_Mo_handlerLine_27 : decode b_Mo_handlerLine 27 = .ok (.istore_n 2, 1) := by decide +kernel
theorem d_Mo_handlerLine_28 : decode b_Mo_handlerLine 28 = .ok (.aload_n 0, 1) := by decide +kernel
theorem d_Mo_handlerLine_29 : decode b_Mo_handlerLine 29 = .ok (.invokevirtual 668, 3) := by decide +kernel
theorem d_Mo_handlerLine_32 : decode b_Mo_handlerLine 32 = .ok (.istore_n 3, 1) := by decide +kernel
theorem d_Mo_handlerLine_33 : decode b_Mo_handlerLine 33 = .ok (.aload_n 0, 1) := by decide +kernel
theorem d_Mo_handlerLine_34 : decode b_Mo_handlerLine 34 = .ok (.invokevirtual 551, 3) := by decide +kernel
theorem d_Mo_handlerLine_37 : decode b_Mo_handlerLine 37 = .ok (.istore 4, 2) := by decide +kernel
theorem d_Mo_handlerLine_39 : decode b_Mo_handlerLine 39 = .ok (.aload_n 0, 1) := by decide +kernel
theorem d_Mo_handlerLine_40 : decode b_Mo_handlerLine 40 = .ok (.iload 4, 2) := by decide +kernel
theorem d_Mo_handlerLine_42 : decode b_Mo_handlerLine 42 = .ok (.iconst 1, 1) := by decide +kernel
theorem d_Mo_handlerLine_43 : decode b_Mo_handlerLine 43 = .ok (.invokevirtual 656, 3) := by decide +kernel
theorem d_Mo_handlerLine_46 : decode b_Mo_handlerLine 46 = .ok (.aload_n 0, 1) := by decide +kernel
theorem d_Mo_handlerLine_47 : decode b_Mo_handlerLine 47 = .ok (.invokevirtual 668, 3) := by decide +kernel
theorem d_Mo_handlerLine_50 : decode b_Mo_handlerLine 50 = .ok (.istore 5, 2) := by decide +kernel
theorem d_Mo_handlerLine_52 : decode b_Mo_handlerLine 52 = .ok (.aload_n 0, 1) := by decide +kernel
theorem d_Mo_handlerLine_53 : decode b_Mo_handlerLine 53 = .ok (.aload_n 0, 1) := by decide +kernel
theorem d_Mo_handlerLine_54 : decode b_Mo_handlerLine 54 = .ok (.getfield 232, 3) := by decide +kernel
theorem d_Mo_handlerLine_57 : decode b_Mo_handlerLine 57 = .ok (.invokevirtual 541, 3) := by decide +kernel
theorem d_Mo_handlerLine_60 : decode b_Mo_handlerLine 60 = .ok (.ifCond .eq 7, 3) := by decide +kernel
theorem d_Mo_handlerLine_63 : decode b_Mo_handlerLine 63 = .ok (.iconst (-1), 1) := by decide +kernel
theorem d_Mo_handlerLine_64 : decode b_Mo_handlerLine 64 = .ok (.goto 7, 3) := by decide +kernel
theorem d_Mo_handlerLine_67 : decode b_Mo_handlerLine 67 = .ok (.aload_n 0, 1) := by decide +kernel
theorem d_Mo_handlerLine_68 : decode b_Mo_handlerLine 68 = .ok (.invokevirtual 554, 3) := by decide +kernel
theorem d_Mo_handlerLine_71 : decode b_Mo_handlerLine 71 = .ok (.istore 6, 2) := by decide +kernel
theorem d_Mo_handlerLine_73 : decode b_Mo_handlerLine 73 = .ok (.aload_n 0, 1) := by decide +kernel
theorem d_Mo_handlerLine_74 : decode b_Mo_handlerLine 74 = .ok (.iconst 0, 1) := by decide +kernel
theorem d_Mo_handlerLine_75 : decode b_Mo_handlerLine 75 = .ok (.invokevirtual 544, 3) := by decide +kernel
theorem d_Mo_handlerLine_78 : decode b_Mo_handlerLine 78 = .ok (.aload_n 0, 1) := by decide +kernel
theorem d_Mo_handlerLine_79 : decode b_Mo_handlerLine 79 = .ok (.bipush 12, 2) := by decide +kernel
theorem d_Mo_handlerLine_81 : decode b_Mo_handlerLine 81 = .ok (.iload_n 1, 1) := by decide +kernel
theorem d_Mo_handlerLine_82 : decode b_Mo_handlerLine 82 = .ok (.bipush 8, 2) := by decide +kernel
theorem d_Mo_handlerLine_84 : decode b_Mo_handlerLine 84 = .ok (.if_icmp .ne 7, 3) := by decide +kernel
theorem d_Mo_handlerLine_87 : decode b_Mo_handlerLine 87 = .ok (.iconst 1, 1) := by decide +kernel
theorem d_Mo_handlerLine_88 : decode b_Mo_handlerLine 88 = .ok (.goto 4, 3) := by decide +kernel
theorem d_Mo_handlerLine_91 : decode b_Mo_handlerLine 91 = .ok (.iconst 0, 1) := by decide +kernel
theorem d_Mo_handlerLine_92 : decode b_Mo_handlerLine 92 = .ok (.invokevirtual 605, 3) := by decide +kernel
theorem d_Mo_handlerLine_95 : decode b_Mo_handlerLine 95 = .ok (.aload_n 0, 1) := by decide +kernel
theorem d_Mo_handlerLine_96 : decode b_Mo_handlerLine 96 = .ok (.getfield 532, 3) := by decide +kernel
theorem d_Mo_handlerLine_99 : decode b_Mo_handlerLine 99 = .ok (.bipush 99, 2) := by decide +kernel
theorem d_Mo_handlerLine_101 : decode b_Mo_handlerLine 101 = .ok (.if_icmp .ge 4, 3) := by decide +kernel
theorem d_Mo_handlerLine_104 : decode b_Mo_handlerLine 104 = .ok (.return_, 1) := by decide +kernel
theorem d_Mo_handlerLine_105 : decode b_Mo_handlerLine 105 = .ok (.aload_n 0, 1) := by decide +kernel
theorem d_Mo_handlerLine_106 : decode b_Mo_handlerLine 106 = .ok (.getfield 522, 3) := by decide +kernel
theorem d_Mo_handlerLine_109 : decode b_Mo_handlerLine 109 = .ok (.getfield 713, 3) := by decide +kernel
theorem d_Mo_handlerLine_112 : decode b_Mo_handlerLine 112 = .ok (.iload_n 2, 1) := by decide +kernel
theorem d_Mo_handlerLine_113 : decode b_Mo_handlerLine 113 = .ok (.iload_n 3, 1) := by decide +kernel
theorem d_Mo_handlerLine_114 : decode b_Mo_handlerLine 114 = .ok (.iastore, 1) := by decide +kernel
theorem d_Mo_handlerLine_115 : decode b_Mo_handlerLine 115 = .ok (.aload_n 0, 1) := by decide +kernel
theorem d_Mo_handlerLine_116 : decode b_Mo_handlerLine 116 = .ok (.getfield 522, 3) := by decide +kernel
theorem d_Mo_handlerLine_119 : decode b_Mo_handlerLine 119 = .ok (.getfield 716, 3) := by decide +kernel
theorem d_Mo_handlerLine_122 : decode b_Mo_handlerLine 122 = .ok (.iload_n 2, 1) := by decide +kernel
theorem d_Mo_handlerLine_123 : decode b_Mo_handlerLine 123 = .ok (.iload 4, 2) := by decide +kernel
theorem d_Mo_handlerLine_125 : decode b_Mo_handlerLine 125 = .ok (.iastore, 1) := by decide +kernel
theorem d_Mo_handlerLine_126 : decode b_Mo_handlerLine 126 = .ok (.aload_n 0, 1) := by decide +kernel
theorem d_Mo_handlerLine_127 : decode b_Mo_handlerLine 127 = .ok (.getfield 522, 3) := by decide +kernel
theorem d_Mo_handlerLine_130 : decode b_Mo_handlerLine 130 = .ok (.getfield 719, 3) := by decide +kernel
theorem d_Mo_handlerLine_133 : decode b_Mo_handlerLine 133 = .ok (.iload_n 2, 1) := by decide +kernel
theorem d_Mo_handlerLine_134 : decode b_Mo_handlerLine 134 = .ok (.iload 5, 2) := by decide +kernel
theorem d_Mo_handlerLine_136 : decode b_Mo_handlerLine 136 = .ok (.iastore, 1) := by decide +kernel
theorem d_Mo_handlerLine_137 : decode b_Mo_handlerLine 137 = .ok (.aload_n 0, 1) := by decide +kernel
theorem d_Mo_handlerLine_138 : decode b_Mo_handlerLine 138 = .ok (.getfield 522, 3) := by decide +kernel
theorem d_Mo_handlerLine_141 : decode b_Mo_handlerLine 141 = .ok (.getfield 722, 3) := by decide +kernel
theorem d_Mo_handlerLine_144 : decode b_Mo_handlerLine 144 = .ok (.iload_n 2, 1) := by decide +kernel
theorem d_Mo_handlerLine_145 : decode b_Mo_handlerLine 145 = .ok (.iload 6, 2) := by decide +kernel
theorem d_Mo_handlerLine_147 : decode b_Mo_handlerLine 147 = .ok (.iastore, 1) := by decide +kernel
theorem d_Mo_handlerLine_148 : decode b_Mo_handlerLine 148 = .ok (.aload_n 0, 1) := by decide +kernel
theorem d_Mo_handlerLine_149 : decode b_Mo_handlerLine 149 = .ok (.getfield 299, 3) := by decide +kernel
theorem d_Mo_handlerLine_152 : decode b_Mo_handlerLine 152 = .ok (.iload_n 1, 1) := by decide +kernel
theorem d_Mo_handlerLine_153 : decode b_Mo_handlerLine 153 = .ok (.aload_n 0, 1) := by decide +kernel
theorem d_Mo_handlerLine_154 : decode b_Mo_handlerLine 154 = .ok (.getfield 101, 3) := by decide +kernel
theorem d_Mo_handlerLine_157 : decode b_Mo_handlerLine 157 = .ok (.iconst 0, 1) := by decide +kernel
theorem d_Mo_handlerLine_158 : decode b_Mo_handlerLine 158 = .ok (.iaload, 1) := by decide +kernel
theorem d_Mo_handlerLine_159 : decode b_Mo_handlerLine 159 = .ok (.iastore, 1) := by decide +kernel
theorem d_Mo_handlerLine_160 : decode b_Mo_handlerLine 160 = .ok (.aload_n 0, 1) := by decide +kernel
theorem d_Mo_handlerLine_161 : decode b_Mo_handlerLine 161 = .ok (.getfield 522, 3) := by decide +kernel
theorem d_Mo_handlerLine_164 : decode b_Mo_handlerLine 164 = .ok (.getfield 468, 3) := by decide +kernel
theorem d_Mo_handlerLine_167 : decode b_Mo_handlerLine 167 = .ok (.aload_n 0, 1) := by decide +kernel
theorem d_Mo_handlerLine_168 : decode b_Mo_handlerLine 168 = .ok (.getfield 642, 3) := by decide +kernel
theorem d_Mo_handlerLine_171 : decode b_Mo_handlerLine 171 = .ok (.dup2, 1) := by decide +kernel
theorem d_Mo_handlerLine_172 : decode b_Mo_handlerLine 172 = .ok (.iaload, 1) := by decide +kernel
theorem d_Mo_handlerLine_173 : decode b_Mo_handlerLine 173 = .ok (.iconst 1, 1) := by decide +kernel
theorem d_Mo_handlerLine_174 : decode b_Mo_handlerLine 174 = .ok (.iadd, 1) := by decide +kernel
theorem d_Mo_handlerLine_175 : decode b_Mo_handlerLine 175 = .ok (.iastore, 1) := by decide +kernel
theorem d_Mo_handlerLine_176 : decode b_Mo_handlerLine 176 = .ok (.return_, 1) := by decide +kernel
abbrev ra_Mo_handlerLine (mc ms : Nat) : Room := { frames := 4, cells := mc, slots := ms, locals := 194 }
def wja_Mo_handlerLine_92 (mc ms : Nat) (Post : Ly → St → Nat → Nat → Prop) (PX : Ly → St → Nat → Nat → Prop) (a0 : Nat) (y_j92 : Ly) (s_j92 : St) (d_j92 e_j92 : Nat) (x1j92 : Int32) (x2j92 : Int32) (x3j92 : Int32) (x4j92 : Int32) (x5j92 : Int32) (x6j92 : Int32) (z1j92 : Int32) (z2j92 : Int32) : Prop := (d_j92 ≤ mc ∧ e_j92 ≤ ms) ∧ wu_Mo_asks y_j92 (fun (s_48 : St) => ((99 ≤ (sV s_48 a0 51) → ∃ b_49 : Nat, sO s_48 a0 45 = some b_49 ∧ cl b_49 = 13 ∧ xS y_j92 s_48 b_49 26 x2j92 x3j92 (fun s_52 : St => ∃ b_53 : Nat, sO s_52 a0 45 = some b_53 ∧ cl b_53 = 13 ∧ xS y_j92 s_52 b_53 27 x2j92 x4j92 (fun s_56 : St => ∃ b_57 : Nat, sO s_56 a0 45 = some b_57 ∧ cl b_57 = 13 ∧ xS y_j92 s_56 b_57 28 x2j92 x5j92 (fun s_60 : St => ∃ b_61 : Nat, sO s_60 a0 45 = some b_61 ∧ cl b_61 = 13 ∧ xS y_j92 s_60 b_61 29 x2j92 x6j92 (fun s_64 : St => xA y_j92 s_64 a0 41 0 (fun x_65 : Int32 => xS y_j92 s_64 a0 66 x1j92 x_65 (fun s_66 : St => ∃ b_67 : Nat, sO s_66 a0 45 = some b_67 ∧ cl b_67 = 13 ∧ xA y_j92 s_66 b_67 25 (sV s_66 a0 54) (fun x_70 : Int32 => xS y_j92 s_66 b_67 25 (sV s_66 a0 54) (x_70 + 1) (fun s_71 : St => Post y_j92 s_71 d_j92 e_j92))))))))) ∧ (¬ (99 ≤ (sV s_48 a0 51)) → Post y_j92 s_48 d_j92 e_j92))) s_j92 a0 z1j92 z2j92
def wja_Mo_handlerLine_71 (mc ms : Nat) (Post : Ly → St → Nat → Nat → Prop) (PX : Ly → St → Nat → Nat → Prop) (a0 : Nat) (y_j71 : Ly) (s_j71 : St) (d_j71 e_j71 : Nat) (x1j71 : Int32) (x2j71 : Int32) (x3j71 : Int32) (x4j71 : Int32) (x5j71 : Int32) (z0j71 : Int32) : Prop := (d_j71 ≤ mc ∧ e_j71 ≤ ms) ∧ ∃ mc_44 ms_45 : Nat, (d_j71 + mc_44 ≤ mc ∧ e_j71 + ms_45 ≤ ms) ∧ wx_Mo_need mc_44 ms_45 y_j71 (fun (y_41 : Ly) (s_40 : St) (d_42 e_43 : Nat) => (d_j71 + d_42 ≤ mc ∧ e_j71 + e_43 ≤ ms) ∧ ((¬ x1j71 = 8 → wja_Mo_handlerLine_92 mc ms Post PX a0 y_41 s_40 (d_j71 + d_42) (e_j71 + e_43) x1j71 x2j71 x3j71 x4j71 x5j71 z0j71 12 0) ∧ (x1j71 = 8 → wja_Mo_handlerLine_92 mc ms Post PX a0 y_41 s_40 (d_j71 + d_42) (e_j71 + e_43) x1j71 x2j71 x3j71 x4j71 x5j71 z0j71 12 1))) (fun (y_41 : Ly) (s_40 : St) (d_42 e_43 : Nat) => ((d_j71 + d_42 ≤ mc ∧ e_j71 + e_43 ≤ ms) ∧ PX y_41 s_40 (d_j71 + d_42) (e_j71 + e_43))) s_j71 a0 0
def wx_Mo_handlerLine (mc ms : Nat) (y : Ly) (Post : Ly → St → Nat → Nat → Prop) (PX : Ly → St → Nat → Nat → Prop) (σ : St) (a0 : Nat) : Prop := ∃ b_1 : Nat, sO σ a0 45 = some b_1 ∧ cl b_1 = 13 ∧ xA y σ b_1 25 (sV σ a0 54) (fun x_4 : Int32 => ∃ mc_10 ms_11 : Nat, (0 + mc_10 ≤ mc ∧ 0 + ms_11 ≤ ms) ∧ wx_Mo_usedLabel mc_10 ms_11 y (fun (y_7 : Ly) (s_6 : St) (r_5 : Int32) (d_8 e_9 : Nat) => (0 + d_8 ≤ mc ∧ 0 + e_9 ≤ ms) ∧ ∃ mc_18 ms_19 : Nat, (0 + d_8 + mc_18 ≤ mc ∧ 0 + e_9 + ms_19 ≤ ms) ∧ wx_Mo_plainName mc_18 ms_19 y_7 (fun (y_15 : Ly) (s_14 : St) (r_13 : Int32) (d_16 e_17 : Nat) => (0 + d_8 + d_16 ≤ mc ∧ 0 + e_9 + e_17 ≤ ms) ∧ ∃ mc_26 ms_27 : Nat, (0 + d_8 + d_16 + mc_26 ≤ mc ∧ 0 + e_9 + e_17 + ms_27 ≤ ms) ∧ wa_Mo_addNine mc_26 ms_27 y_15 (fun (y_23 : Ly) (s_22 : St) (d_24 e_25 : Nat) => (0 + d_8 + d_16 + d_24 ≤ mc ∧ 0 + e_9 + e_17 + e_25 ≤ ms) ∧ ∃ mc_34 ms_35 : Nat, (0 + d_8 + d_16 + d_24 + mc_34 ≤ mc ∧ 0 + e_9 + e_17 + e_25 + ms_35 ≤ ms) ∧ wx_Mo_usedLabel mc_34 ms_35 y_23 (fun (y_31 : Ly) (s_30 : St) (r_29 : Int32) (d_32 e_33 : Nat) => (0 + d_8 + d_16 + d_24 + d_32 ≤ mc ∧ 0 + e_9 + e_17 + e_25 + e_33 ≤ ms) ∧ wu_Mo_takes y_31 (fun (s_38 : St) (r_37 : Int32) => ((r_37 = 0 → ∃ mc_77 ms_78 : Nat, (0 + d_8 + d_16 + d_24 + d_32 + mc_77 ≤ mc ∧ 0 + e_9 + e_17 + e_25 + e_33 + ms_78 ≤ ms) ∧ wx_Mo_className mc_77 ms_78 y_31 (fun (y_74 : Ly) (s_73 : St) (r_72 : Int32) (d_75 e_76 : Nat) => (0 + d_8 + d_16 + d_24 + d_32 + d_75 ≤ mc ∧ 0 + e_9 + e_17 + e_25 + e_33 + e_76 ≤ ms) ∧ wja_Mo_handlerLine_71 mc ms Post PX a0 y_74 s_73 (0 + d_8 + d_16 + d_24 + d_32 + d_75) (0 + e_9 + e_17 + e_25 + e_33 + e_76) x_4 ((8 * (sV σ a0 54)) + (if 7 < x_4 then 7 else x_4)) r_5 r_13 r_29 r_72) (fun (y_74 : Ly) (s_73 : St) (d_75 e_76 : Nat) => ((0 + d_8 + d_16 + d_24 + d_32 + d_75 ≤ mc ∧ 0 + e_9 + e_17 + e_25 + e_33 + e_76 ≤ ms) ∧ PX y_74 s_73 (0 + d_8 + d_16 + d_24 + d_32 + d_75) (0 + e_9 + e_17 + e_25 + e_33 + e_76))) s_38 a0) ∧ (¬ (r_37 = 0) → wja_Mo_handlerLine_71 mc ms Post PX a0 y_31 s_38 (0 + d_8 + d_16 + d_24 + d_32) (0 + e_9 + e_17 + e_25 + e_33) x_4 ((8 * (sV σ a0 54)) + (if 7 < x_4 then 7 else x_4)) r_5 r_13 r_29 (-1)))) s_30 a0 (sV s_30 a0 24)) (fun (y_31 : Ly) (s_30 : St) (d_32 e_33 : Nat) => ((0 + d_8 + d_16 + d_24 + d_32 ≤ mc ∧ 0 + e_9 + e_17 + e_25 + e_33 ≤ ms) ∧ PX y_31 s_30 (0 + d_8 + d_16 + d_24 + d_32) (0 + e_9 + e_17 + e_25 + e_33))) s_22 a0) s_14 a0 r_13 1) (fun (y_15 : Ly) (s_14 : St) (d_16 e_17 : Nat) => ((0 + d_8 + d_16 ≤ mc ∧ 0 + e_9 + e_17 ≤ ms) ∧ PX y_15 s_14 (0 + d_8 + d_16) (0 + e_9 + e_17))) s_6 a0) (fun (y_7 : Ly) (s_6 : St) (d_8 e_9 : Nat) => ((0 + d_8 ≤ mc ∧ 0 + e_9 ≤ ms) ∧ PX y_7 s_6 (0 + d_8) (0 + e_9))) σ a0)
set_option maxHeartbeats 4000000 in
set_option maxRecDepth 100000 in
theorem cx_Mo_handlerLine (l : Launch) (D : va_G) (g : Nat → ClassId) (ad : Nat → Nat) (mc ms : Nat) (y : Ly) (Post : Ly → St → Nat → Nat → Prop) (PX : Ly → St → Nat → Nat → Prop) (σ : St) (a0 : Nat) (sz uz : Nat) (h_a0 : cl a0 = 14) (h : wx_Mo_handlerLine mc ms y Post PX σ a0) : vx_Met l y_Mo_handlerLine (mw y_Mo_handlerLine b_Mo_handlerLine 7 (none)) (ra_Mo_handlerLine mc ms) (PCu g D [] [.ref (ad a0)] sz uz (ws g ad y σ)) (va_Qv (fun (u : Ly × St × Nat × Nat) => Post u.1 u.2.1 u.2.2.1 u.2.2.2) (QU D (va_A (ws g ad y σ) sz) (fun u => ws g ad u.1 u.2.1) sz uz (fun u => u.2.2.1) (fun u => u.2.2.2)) (va_A (ws g ad y σ) sz)) (XQ D g ad (va_A (ws g ad y σ) sz) sz uz PX) mc ms (va_A (ws g ad y σ) sz) := by
  refine ofVx (by decide +kernel) (Nat.le_of_ble_eq_true rfl) ?_
  intro p e s m args below meth c A Q ls H locs G hsz hP hD hS hl hret hretX
  subst hsz
  have hl : lv_has ls 7 [(0, .ref (ad a0))] := hl
  have hd : 0 ≤ mc ∧ 0 ≤ ms := ⟨Nat.zero_le _, Nat.zero_le _⟩
  unfold wx_Mo_handlerLine at h
  refine lv_aload_n G.1 G.2.1 d_Mo_handlerLine_0 rfl (lv_at hl 0 rfl) ?_
  obtain ⟨b_1, e_2, c_3, h⟩ := h
  refine ugf (v := .ref (ad b_1)) G hP h_a0 iMo rfl 45 (by decide) rfl q3109 rfl (by show va_rf ((sO σ a0 45).map ad) = _; rw [e_2]; rfl) d_Mo_handlerLine_1 ?_
  refine ugfN (v := .ref (yP y b_1 25)) G hP c_3 iMw rfl 25 (by decide) rfl q2754 rfl rfl d_Mo_handlerLine_4 ?_
  refine lv_aload_n G.1 G.2.1 d_Mo_handlerLine_7 rfl (lv_at hl 0 rfl) ?_
  refine ugf (v := .int (sV σ a0 54)) G hP h_a0 iMo rfl 54 (by decide) rfl q3118 rfl rfl d_Mo_handlerLine_8 ?_
  refine uiald G hP (kdp c_3 rfl) (typ c_3 rfl) h d_Mo_handlerLine_11 (fun x_4 h => ?_)
  refine lv_istore_n (lv' := [(1, .int x_4), (0, .ref (ad a0))]) G.1 G.2.1 d_Mo_handlerLine_12 rfl hl (by decide) rfl (fun ls hl => ?_)
  refine lv_bipush (v := 8) G.1 G.2.1 d_Mo_handlerLine_13 (by decide) ?_
  refine lv_aload_n G.1 G.2.1 d_Mo_handlerLine_15 rfl (lv_at hl 1 rfl) ?_
  refine ugf (v := .int (sV σ a0 54)) G hP h_a0 iMo rfl 54 (by decide) rfl q3118 rfl rfl d_Mo_handlerLine_16 ?_
  refine lv_imul G.1 G.2.1 d_Mo_handlerLine_19 ?_
  refine W.eq (g2 := F0 m 20 ls [.int (8 * (sV σ a0 54))]) rfl ?_
  refine lv_iload_n G.1 G.2.1 d_Mo_handlerLine_20 rfl (lv_at hl 0 rfl) ?_
  refine lv_bipush (v := 7) G.1 G.2.1 d_Mo_handlerLine_21 (by decide) ?_
  refine va_mmin G.1 G.2.1 (G.2.2.1.trans hl.1.symm) G.2.2.2.2.2.2.1 (G.2.2.2.2.2.1 _ q3640) (G.2.2.2.2.2.1 _ q484) (G.2.2.2.2.2.1 _ q337) (G.2.2.2.2.2.1 _ q485) (Nat.le_of_ble_eq_true rfl) (Nat.le_of_ble_eq_true rfl) hd.1 hd.2 d_Mo_handlerLine_23 ?_
  refine lv_iadd G.1 G.2.1 d_Mo_handlerLine_26 ?_
  refine lv_istore_n (lv' := [(2, .int ((8 * (sV σ a0 54)) + (if 7 < x_4 then 7 else x_4))), (1, .int x_4), (0, .ref (ad a0))]) G.1 G.2.1 d_Mo_handlerLine_27 rfl hl (by decide) rfl (fun ls hl => ?_)
  refine lv_aload_n G.1 G.2.1 d_Mo_handlerLine_28 rfl (lv_at hl 2 rfl) ?_
  obtain ⟨mc_10, ms_11, hr_12, h⟩ := h
  refine uxVi (As := []) (rest := []) G hP hD hS (cx_Mo_usedLabel l D g ad mc_10 ms_11 y _ _ σ a0 H.size (us H) h_a0 h) (fun _ h => absurd h List.not_mem_nil) w9_Mo_usedLabel q3641 ⟨Nat.le_of_ble_eq_true rfl, Nat.le_of_ble_eq_true rfl⟩ rfl rfl h_a0 (q := (RMo, TMo, 131)) rfl rfl hl.1 rfl (Nat.le_of_ble_eq_true rfl) rfl hr_12 d_Mo_handlerLine_29 (fun y_7 s_6 d_8 e_9 H locs q9 ce h hP hD hS hce hcv hcl => ?_) (fun r_5 y_7 s_6 d_8 e_9 H locs h hP hD hS => ?_)
  · skip
    obtain ⟨hd, h⟩ := h
    exact hretX h hP hD hS hd.1 hd.2 hce hcv hcl
  obtain ⟨hd, h⟩ := h
  refine lv_istore_n (lv' := [(3, .int r_5), (2, .int ((8 * (sV σ a0 54)) + (if 7 < x_4 then 7 else x_4))), (1, .int x_4), (0, .ref (ad a0))]) G.1 G.2.1 d_Mo_handlerLine_32 rfl hl (by decide) rfl (fun ls hl => ?_)
  refine lv_aload_n G.1 G.2.1 d_Mo_handlerLine_33 rfl (lv_at hl 3 rfl) ?_
  obtain ⟨mc_18, ms_19, hr_20, h⟩ := h
  refine uxVi (As := []) (rest := []) G hP hD hS (cx_Mo_plainName l D g ad mc_18 ms_19 y_7 _ _ s_6 a0 H.size (us H) h_a0 h) (fun _ h => absurd h List.not_mem_nil) w9_Mo_plainName q3563 ⟨Nat.le_of_ble_eq_true rfl, Nat.le_of_ble_eq_true rfl⟩ rfl rfl h_a0 (q := (RMo, TMo, 131)) rfl rfl hl.1 rfl (Nat.le_of_ble_eq_true rfl) rfl hr_20 d_Mo_handlerLine_34 (fun y_15 s_14 d_16 e_17 H locs q9 ce h hP hD hS hce hcv hcl => ?_) (fun r_13 y_15 s_14 d_16 e_17 H locs h hP hD hS => ?_)
  · skip
    obtain ⟨hd, h⟩ := h
    exact hretX h hP hD hS hd.1 hd.2 hce hcv hcl
  obtain ⟨hd, h⟩ := h
  refine lv_istore (lv' := [(4, .int r_13), (3, .int r_5), (2, .int ((8 * (sV σ a0 54)) + (if 7 < x_4 then 7 else x_4))), (1, .int x_4), (0, .ref (ad a0))]) G.1 G.2.1 d_Mo_handlerLine_37 hl (by decide) rfl (fun ls hl => ?_)
  refine lv_aload_n G.1 G.2.1 d_Mo_handlerLine_39 rfl (lv_at hl 4 rfl) ?_
  refine W.eq (g2 := F0 m 40 ls [.ref (ad a0)]) rfl ?_
  refine lv_iload G.1 G.2.1 d_Mo_handlerLine_40 (lv_at hl 0 rfl) ?_
  refine lv_iconst (v := 1) G.1 G.2.1 d_Mo_handlerLine_42 (by decide) ?_
  obtain ⟨mc_26, ms_27, hr_28, h⟩ := h
  refine uaVv (As := [.int r_13, .int 1]) (rest := []) G hP hD hS (ca_Mo_addNine l D g ad mc_26 ms_27 y_15 _ s_14 a0 r_13 1 H.size (us H) h_a0 h) w9_Mo_addNine q3632 ⟨Nat.le_of_ble_eq_true rfl, Nat.le_of_ble_eq_true rfl⟩ rfl rfl h_a0 (q := (RMo, TMo, 131)) rfl rfl hl.1 rfl (Nat.le_of_ble_eq_true rfl) rfl hr_28 d_Mo_handlerLine_43 (fun y_23 s_22 d_24 e_25 H locs h hP hD hS => ?_)
  obtain ⟨hd, h⟩ := h
  refine lv_aload_n G.1 G.2.1 d_Mo_handlerLine_46 rfl (lv_at hl 4 rfl) ?_
  obtain ⟨mc_34, ms_35, hr_36, h⟩ := h
  refine uxVi (As := []) (rest := []) G hP hD hS (cx_Mo_usedLabel l D g ad mc_34 ms_35 y_23 _ _ s_22 a0 H.size (us H) h_a0 h) (fun _ h => absurd h List.not_mem_nil) w9_Mo_usedLabel q3641 ⟨Nat.le_of_ble_eq_true rfl, Nat.le_of_ble_eq_true rfl⟩ rfl rfl h_a0 (q := (RMo, TMo, 131)) rfl rfl hl.1 rfl (Nat.le_of_ble_eq_true rfl) rfl hr_36 d_Mo_handlerLine_47 (fun y_31 s_30 d_32 e_33 H locs q9 ce h hP hD hS hce hcv hcl => ?_) (fun r_29 y_31 s_30 d_32 e_33 H locs h hP hD hS => ?_)
  · skip
    obtain ⟨hd, h⟩ := h
    exact hretX h hP hD hS hd.1 hd.2 hce hcv hcl
  obtain ⟨hd, h⟩ := h
  refine lv_istore (lv' := [(5, .int r_29), (4, .int r_13), (3, .int r_5), (2, .int ((8 * (sV σ a0 54)) + (if 7 < x_4 then 7 else x_4))), (1, .int x_4), (0, .ref (ad a0))]) G.1 G.2.1 d_Mo_handlerLine_50 hl (by decide) rfl (fun ls hl => ?_)
  refine lv_aload_n G.1 G.2.1 d_Mo_handlerLine_52 rfl (lv_at hl 5 rfl) ?_
  refine lv_aload_n G.1 G.2.1 d_Mo_handlerLine_53 rfl (lv_at hl 5 rfl) ?_
  refine ugf (v := .int (sV s_30 a0 24)) G hP h_a0 iMo rfl 24 (by decide) rfl q3088 rfl rfl d_Mo_handlerLine_54 ?_
  refine ucVi (As := [.int (sV s_30 a0 24)]) (rest := []) G hP hD hS (cu_Mo_takes l D g ad y_31 _ s_30 a0 (sV s_30 a0 24) H.size h_a0 h) w9_Mo_takes q3547 ⟨Nat.le_of_ble_eq_true rfl, Nat.le_of_ble_eq_true rfl⟩ rfl rfl h_a0 (q := (RMo, TMo, 131)) rfl rfl hl.1 rfl (Nat.le_of_ble_eq_true rfl) rfl hd d_Mo_handlerLine_57 (fun r_37 s_38 H locs h hP hD hS => ?_)
  have J_71 : ∀ (y_j71 : Ly) (s_j71 : St) (d_j71 e_j71 : Nat) (x1j71 : Int32) (x2j71 : Int32) (x3j71 : Int32) (x4j71 : Int32) (x5j71 : Int32) (z0j71 : Int32) (H : Heap) (locs : List Loc), wja_Mo_handlerLine_71 mc ms Post PX a0 y_j71 s_j71 d_j71 e_j71 x1j71 x2j71 x3j71 x4j71 x5j71 z0j71 → va_P D CL (ws g ad y_j71 s_j71) H → va_D A (ws g ad y_j71 s_j71) → va_S A s.heap H locs → ∀ ls, lv_has ls 7 [(0, .ref (ad a0)), (1, .int x1j71), (2, .int x2j71), (3, .int x3j71), (4, .int x4j71), (5, .int x5j71)] → W p l e (ra_Mo_handlerLine mc ms) s m args below meth c H locs d_j71 e_j71 Q (F0 m 71 ls [.int z0j71]) := by
    intro y_j71 s_j71 d_j71 e_j71 x1j71 x2j71 x3j71 x4j71 x5j71 z0j71 H locs h hP hD hS ls hl
    unfold wja_Mo_handlerLine_71 at h
    obtain ⟨hd, h⟩ := h
    refine lv_istore (lv' := [(6, .int z0j71), (0, .ref (ad a0)), (1, .int x1j71), (2, .int x2j71), (3, .int x3j71), (4, .int x4j71), (5, .int x5j71)]) G.1 G.2.1 d_Mo_handlerLine_71 hl (by decide) rfl (fun ls hl => ?_)
    refine lv_aload_n G.1 G.2.1 d_Mo_handlerLine_73 rfl (lv_at hl 1 rfl) ?_
    refine lv_iconst (v := 0) G.1 G.2.1 d_Mo_handlerLine_74 (by decide) ?_
    obtain ⟨mc_44, ms_45, hr_46, h⟩ := h
    refine uxVv (As := [.int 0]) (rest := []) G hP hD hS (cx_Mo_need l D g ad mc_44 ms_45 y_j71 _ _ s_j71 a0 0 H.size (us H) h_a0 h) (fun _ h => absurd h List.not_mem_nil) w9_Mo_need q3567 ⟨Nat.le_of_ble_eq_true rfl, Nat.le_of_ble_eq_true rfl⟩ rfl rfl h_a0 (q := (RMo, TMo, 131)) rfl rfl hl.1 rfl (Nat.le_of_ble_eq_true rfl) rfl hr_46 d_Mo_handlerLine_75 (fun y_41 s_40 d_42 e_43 H locs q9 ce h hP hD hS hce hcv hcl => ?_) (fun y_41 s_40 d_42 e_43 H locs h hP hD hS => ?_)
    · skip
      obtain ⟨hd, h⟩ := h
      exact hretX h hP hD hS hd.1 hd.2 hce hcv hcl
    obtain ⟨hd, h⟩ := h
    refine lv_aload_n G.1 G.2.1 d_Mo_handlerLine_78 rfl (lv_at hl 1 rfl) ?_
    refine lv_bipush (v := 12) G.1 G.2.1 d_Mo_handlerLine_79 (by decide) ?_
    refine lv_iload_n G.1 G.2.1 d_Mo_handlerLine_81 rfl (lv_at hl 2 rfl) ?_
    refine lv_bipush (v := 8) G.1 G.2.1 d_Mo_handlerLine_82 (by decide) ?_
    have J_92 : ∀ (y_j92 : Ly) (s_j92 : St) (d_j92 e_j92 : Nat) (x1j92 : Int32) (x2j92 : Int32) (x3j92 : Int32) (x4j92 : Int32) (x5j92 : Int32) (x6j92 : Int32) (z1j92 : Int32) (z2j92 : Int32) (H : Heap) (locs : List Loc), wja_Mo_handlerLine_92 mc ms Post PX a0 y_j92 s_j92 d_j92 e_j92 x1j92 x2j92 x3j92 x4j92 x5j92 x6j92 z1j92 z2j92 → va_P D CL (ws g ad y_j92 s_j92) H → va_D A (ws g ad y_j92 s_j92) → va_S A s.heap H locs → ∀ ls, lv_has ls 7 [(0, .ref (ad a0)), (1, .int x1j92), (2, .int x2j92), (3, .int x3j92), (4, .int x4j92), (5, .int x5j92), (6, .int x6j92)] → W p l e (ra_Mo_handlerLine mc ms) s m args below meth c H locs d_j92 e_j92 Q (F0 m 92 ls [.int z2j92, .int z1j92, .ref (ad a0)]) := by
      intro y_j92 s_j92 d_j92 e_j92 x1j92 x2j92 x3j92 x4j92 x5j92 x6j92 z1j92 z2j92 H locs h hP hD hS ls hl
      unfold wja_Mo_handlerLine_92 at h
      obtain ⟨hd, h⟩ := h
      refine ucVv (As := [.int z1j92, .int z2j92]) (rest := []) G hP hD hS (cu_Mo_asks l D g ad y_j92 _ s_j92 a0 z1j92 z2j92 H.size h_a0 h) w9_Mo_asks q3575 ⟨Nat.le_of_ble_eq_true rfl, Nat.le_of_ble_eq_true rfl⟩ rfl rfl h_a0 (q := (RMo, TMo, 131)) rfl rfl hl.1 rfl (Nat.le_of_ble_eq_true rfl) rfl hd d_Mo_handlerLine_92 (fun s_48 H locs h hP hD hS => ?_)
      refine lv_aload_n G.1 G.2.1 d_Mo_handlerLine_95 rfl (lv_at hl 0 rfl) ?_
      refine ugf (v := .int (sV s_48 a0 51)) G hP h_a0 iMo rfl 51 (by decide) rfl q3115 rfl rfl d_Mo_handlerLine_96 ?_
      refine lv_bipush (v := 99) G.1 G.2.1 d_Mo_handlerLine_99 (by decide) ?_
      refine lv_icmp_ge (tgt := 105) G.1 G.2.1 d_Mo_handlerLine_101 (by decide) (fun c101 => ?_) (fun c101 => ?_)
      · skip
        have h := h.1 c101
        refine lv_aload_n G.1 G.2.1 d_Mo_handlerLine_105 rfl (lv_at hl 0 rfl) ?_
        obtain ⟨b_49, e_50, c_51, h⟩ := h
        refine ugf (v := .ref (ad b_49)) G hP h_a0 iMo rfl 45 (by decide) rfl q3109 rfl (by show va_rf ((sO s_48 a0 45).map ad) = _; rw [e_50]; rfl) d_Mo_handlerLine_106 ?_
        refine ugfN (v := .ref (yP y_j92 b_49 26)) G hP c_51 iMw rfl 26 (by decide) rfl q2756 rfl rfl d_Mo_handlerLine_109 ?_
        refine lv_iload_n G.1 G.2.1 d_Mo_handlerLine_112 rfl (lv_at hl 2 rfl) ?_
        refine lv_iload_n G.1 G.2.1 d_Mo_handlerLine_113 rfl (lv_at hl 3 rfl) ?_
        refine uiast G hP hD hS (kdp c_51 rfl) (typ c_51 rfl) h d_Mo_handlerLine_114 (fun s_52 H locs h hP hD hS => ?_)
        refine W.eq (g2 := F0 m 115 ls []) rfl ?_
        refine lv_aload_n G.1 G.2.1 d_Mo_handlerLine_115 rfl (lv_at hl 0 rfl) ?_
        obtain ⟨b_53, e_54, c_55, h⟩ := h
        refine ugf (v := .ref (ad b_53)) G hP h_a0 iMo rfl 45 (by decide) rfl q3109 rfl (by show va_rf ((sO s_52 a0 45).map ad) = _; rw [e_54]; rfl) d_Mo_handlerLine_116 ?_
        refine ugfN (v := .ref (yP y_j92 b_53 27)) G hP c_55 iMw rfl 27 (by decide) rfl q2758 rfl rfl d_Mo_handlerLine_119 ?_
        refine lv_iload_n G.1 G.2.1 d_Mo_handlerLine_122 rfl (lv_at hl 2 rfl) ?_
        refine lv_iload G.1 G.2.1 d_Mo_handlerLine_123 (lv_at hl 4 rfl) ?_
        refine uiast G hP hD hS (kdp c_55 rfl) (typ c_55 rfl) h d_Mo_handlerLine_125 (fun s_56 H locs h hP hD hS => ?_)
        refine lv_aload_n G.1 G.2.1 d_Mo_handlerLine_126 rfl (lv_at hl 0 rfl) ?_
        obtain ⟨b_57, e_58, c_59, h⟩ := h
        refine ugf (v := .ref (ad b_57)) G hP h_a0 iMo rfl 45 (by decide) rfl q3109 rfl (by show va_rf ((sO s_56 a0 45).map ad) = _; rw [e_58]; rfl) d_Mo_handlerLine_127 ?_
        refine ugfN (v := .ref (yP y_j92 b_57 28)) G hP c_59 iMw rfl 28 (by decide) rfl q2760 rfl rfl d_Mo_handlerLine_130 ?_
        refine lv_iload_n G.1 G.2.1 d_Mo_handlerLine_133 rfl (lv_at hl 2 rfl) ?_
        refine lv_iload G.1 G.2.1 d_Mo_handlerLine_134 (lv_at hl 5 rfl) ?_
        refine uiast G hP hD hS (kdp c_59 rfl) (typ c_59 rfl) h d_Mo_handlerLine_136 (fun s_60 H locs h hP hD hS => ?_)
        refine W.eq (g2 := F0 m 137 ls []) rfl ?_
        refine lv_aload_n G.1 G.2.1 d_Mo_handlerLine_137 rfl (lv_at hl 0 rfl) ?_
        obtain ⟨b_61, e_62, c_63, h⟩ := h
        refine ugf (v := .ref (ad b_61)) G hP h_a0 iMo rfl 45 (by decide) rfl q3109 rfl (by show va_rf ((sO s_60 a0 45).map ad) = _; rw [e_62]; rfl) d_Mo_handlerLine_138 ?_
        refine ugfN (v := .ref (yP y_j92 b_61 29)) G hP c_63 iMw rfl 29 (by decide) rfl q2762 rfl rfl d_Mo_handlerLine_141 ?_
        refine lv_iload_n G.1 G.2.1 d_Mo_handlerLine_144 rfl (lv_at hl 2 rfl) ?_
        refine lv_iload G.1 G.2.1 d_Mo_handlerLine_145 (lv_at hl 6 rfl) ?_
        refine uiast G hP hD hS (kdp c_63 rfl) (typ c_63 rfl) h d_Mo_handlerLine_147 (fun s_64 H locs h hP hD hS => ?_)
        refine lv_aload_n G.1 G.2.1 d_Mo_handlerLine_148 rfl (lv_at hl 0 rfl) ?_
        refine ugf (v := .ref (yP y_j92 a0 66)) G hP h_a0 iMo rfl 66 (by decide) rfl q3130 rfl rfl d_Mo_handlerLine_149 ?_
        refine lv_iload_n G.1 G.2.1 d_Mo_handlerLine_152 rfl (lv_at hl 1 rfl) ?_
        refine lv_aload_n G.1 G.2.1 d_Mo_handlerLine_153 rfl (lv_at hl 0 rfl) ?_
        refine ugf (v := .ref (yP y_j92 a0 41)) G hP h_a0 iMo rfl 41 (by decide) rfl q3105 rfl rfl d_Mo_handlerLine_154 ?_
        refine lv_iconst (v := 0) G.1 G.2.1 d_Mo_handlerLine_157 (by decide) ?_
        refine W.eq (g2 := F0 m 158 ls [.int 0, .ref (yP y_j92 a0 41), .int x1j92, .ref (yP y_j92 a0 66)]) rfl ?_
        refine uiald G hP (kdp h_a0 rfl) (typ h_a0 rfl) h d_Mo_handlerLine_158 (fun x_65 h => ?_)
        refine uiast G hP hD hS (kdp h_a0 rfl) (typ h_a0 rfl) h d_Mo_handlerLine_159 (fun s_66 H locs h hP hD hS => ?_)
        refine lv_aload_n G.1 G.2.1 d_Mo_handlerLine_160 rfl (lv_at hl 0 rfl) ?_
        obtain ⟨b_67, e_68, c_69, h⟩ := h
        refine ugf (v := .ref (ad b_67)) G hP h_a0 iMo rfl 45 (by decide) rfl q3109 rfl (by show va_rf ((sO s_66 a0 45).map ad) = _; rw [e_68]; rfl) d_Mo_handlerLine_161 ?_
        refine ugfN (v := .ref (yP y_j92 b_67 25)) G hP c_69 iMw rfl 25 (by decide) rfl q2754 rfl rfl d_Mo_handlerLine_164 ?_
        refine lv_aload_n G.1 G.2.1 d_Mo_handlerLine_167 rfl (lv_at hl 0 rfl) ?_
        refine ugf (v := .int (sV s_66 a0 54)) G hP h_a0 iMo rfl 54 (by decide) rfl q3118 rfl rfl d_Mo_handlerLine_168 ?_
        refine lv_dup2_11 G.1 G.2.1 d_Mo_handlerLine_171 rfl rfl ?_
        refine uiald G hP (kdp c_69 rfl) (typ c_69 rfl) h d_Mo_handlerLine_172 (fun x_70 h => ?_)
        refine lv_iconst (v := 1) G.1 G.2.1 d_Mo_handlerLine_173 (by decide) ?_
        refine lv_iadd G.1 G.2.1 d_Mo_handlerLine_174 ?_
        refine uiast G hP hD hS (kdp c_69 rfl) (typ c_69 rfl) h d_Mo_handlerLine_175 (fun s_71 H locs h hP hD hS => ?_)
        refine W.eq (g2 := F0 m 176 ls []) rfl ?_
        exact hret (y_j92, s_71, d_j92, e_j92) _ _ _ _ _ ls h hP hD hS (Nat.le_refl _) (Nat.le_refl _) hd.1 hd.2 d_Mo_handlerLine_176
      · skip
        have h := h.2 c101
        exact hret (y_j92, s_48, d_j92, e_j92) _ _ _ _ _ ls h hP hD hS (Nat.le_refl _) (Nat.le_refl _) hd.1 hd.2 d_Mo_handlerLine_104
    refine lv_icmp_ne (tgt := 91) G.1 G.2.1 d_Mo_handlerLine_84 (by decide) (fun c84 => ?_) (fun c84 => ?_)
    · skip
      have h := h.1 c84
      refine lv_iconst (v := 0) G.1 G.2.1 d_Mo_handlerLine_91 (by decide) ?_
      exact J_92 y_41 s_40 (d_j71 + d_42) (e_j71 + e_43) x1j71 x2j71 x3j71 x4j71 x5j71 z0j71 12 0 H locs h hP hD hS ls (lv_sub hl [1, 2, 3, 4, 5, 6, 0] rfl)
    · skip
      have h := h.2 c84
      refine lv_iconst (v := 1) G.1 G.2.1 d_Mo_handlerLine_87 (by decide) ?_
      refine lv_goto (tgt := 92) G.1 G.2.1 d_Mo_handlerLine_88 (by decide) ?_
      exact J_92 y_41 s_40 (d_j71 + d_42) (e_j71 + e_43) x1j71 x2j71 x3j71 x4j71 x5j71 z0j71 12 1 H locs h hP hD hS ls (lv_sub hl [1, 2, 3, 4, 5, 6, 0] rfl)
  refine lv_if_eq (tgt := 67) G.1 G.2.1 d_Mo_handlerLine_60 (by decide) (fun c60 => ?_) (fun c60 => ?_)
  · skip
    have h := h.1 c60
    refine lv_aload_n G.1 G.2.1 d_Mo_handlerLine_67 rfl (lv_at hl 5 rfl) ?_
    refine W.eq (g2 := F0 m 68 ls [.ref (ad a0)]) rfl ?_
    obtain ⟨mc_77, ms_78, hr_79, h⟩ := h
    refine uxVi (As := []) (rest := []) G hP hD hS (cx_Mo_className l D g ad mc_77 ms_78 y_31 _ _ s_38 a0 H.size (us H) h_a0 h) (fun _ h => absurd h List.not_mem_nil) w9_Mo_className q3555 ⟨Nat.le_of_ble_eq_true rfl, Nat.le_of_ble_eq_true rfl⟩ rfl rfl h_a0 (q := (RMo, TMo, 131)) rfl rfl hl.1 rfl (Nat.le_of_ble_eq_true rfl) rfl hr_79 d_Mo_handlerLine_68 (fun y_74 s_73 d_75 e_76 H locs q9 ce h hP hD hS hce hcv hcl => ?_) (fun r_72 y_74 s_73 d_75 e_76 H locs h hP hD hS => ?_)
    · skip
      obtain ⟨hd, h⟩ := h
      exact hretX h hP hD hS hd.1 hd.2 hce hcv hcl
    obtain ⟨hd, h⟩ := h
    exact J_71 y_74 s_73 (0 + d_8 + d_16 + d_24 + d_32 + d_75) (0 + e_9 + e_17 + e_25 + e_33 + e_76) x_4 ((8 * (sV σ a0 54)) + (if 7 < x_4 then 7 else x_4)) r_5 r_13 r_29 r_72 H locs h hP hD hS ls (lv_sub hl [5, 4, 3, 2, 1, 0] rfl)
  · skip
    have h := h.2 c60
    refine lv_iconst (v := (-1)) G.1 G.2.1 d_Mo_handlerLine_63 (by decide) ?_
    refine W.eq (g2 := F0 m 64 ls [.int (-1)]) rfl ?_
    refine lv_goto (tgt := 71) G.1 G.2.1 d_Mo_handlerLine_64 (by decide) ?_
    exact J_71 y_31 s_38 (0 + d_8 + d_16 + d_24 + d_32) (0 + e_9 + e_17 + e_25 + e_33) x_4 ((8 * (sV σ a0 54)) + (if 7 < x_4 then 7 else x_4)) r_5 r_13 r_29 (-1) H locs h hP hD hS ls (lv_sub hl [5, 4, 3, 2, 1, 0] rfl)
def y_Mo_addList : MethodName := ⟨"ClassWorksModel", "addList", "(I)V"⟩
abbrev b_Mo_addList : ByteArray := prog_14_method_44_code
theorem d_Mo_addList_0 : decode b_Mo_addList 0 = .ok (.aload_n 0, 1) := by decide +kernel
theorem d_Mo_addList_1 : decode b_Mo_addList 1 = .ok (.getfield 522, 3) := by decide +kernel
theorem d_Mo_addList_4 : decode b_Mo_addList 4 = .ok (.aload_n 0, 1) := by decide +kernel
theorem d_Mo_addList_5 : decode b_Mo_addList 5 = .ok (.getfield 522, 3) := by decide +kernel
theorem d_Mo_addList_8 : decode b_Mo_addList 8 = .ok (.getfield 689, 3) := by decide +kernel
theorem d_Mo_addList_11 : decode b_Mo_addList 11 = .ok (.aload_n 0, 1) := by decide +kernel
theorem d_Mo_addList_12 : decode b_Mo_addList 12 = .ok (.getfield 522, 3) := by decide +kernel
theorem d_Mo_addList_15 : decode b_Mo_addList 15 = .ok (.getfield 474, 3) := by decide +kernel
theorem d_Mo_addList_18 : decode b_Mo_addList 18 = .ok (.iconst 1, 1) := by decide +kernel
theorem d_Mo_addList_19 : decode b_Mo_addList 19 = .ok (.iadd, 1) := by decide +kernel
theorem d_Mo_addList_20 : decode b_Mo_addList 20 = .ok (.invokestatic 43, 3) := by decide +kernel
theorem d_Mo_addList_23 : decode b_Mo_addList 23 = .ok (.putfield 689, 3) := by decide +kernel
theorem d_Mo_addList_26 : decode b_Mo_addList 26 = .ok (.aload_n 0, 1) := by decide +kernel
theorem d_Mo_addList_27 : decode b_Mo_addList 27 = .ok (.getfield 522, 3) := by decide +kernel
theorem d_Mo_addList_30 : decode b_Mo_addList 30 = .ok (.getfield 689, 3) := by decide +kernel
theorem d_Mo_addList_33 : decode b_Mo_addList 33 = .ok (.aload_n 0, 1) := by decide +kernel
theorem d_Mo_addList_34 : decode b_Mo_addList 34 = .ok (.getfield 522, 3) := by decide +kernel
theorem d_Mo_addList_37 : decode b_Mo_addList 37 = .ok (.getfield 474, 3) := by decide +kernel
theorem d_Mo_addList_40 : decode b_Mo_addList 40 = .ok (.iload_n 1, 1) := by decide +kernel
theorem d_Mo_addList_41 : decode b_Mo_addList 41 = .ok (.iastore, 1) := by decide +kernel
theorem d_Mo_addList_42 : decode b_Mo_addList 42 = .ok (.aload_n 0, 1) := by decide +kernel
theorem d_Mo_addList_43 : decode b_Mo_addList 43 = .ok (.getfield 522, 3) := by decide +kernel
theorem d_Mo_addList_46 : decode b_Mo_addList 46 = .ok (.dup, 1) := by decide +kernel
theorem d_Mo_addList_47 : decode b_Mo_addList 47 = .ok (.getfield 474, 3) := by decide +kernel
theorem d_Mo_addList_50 : decode b_Mo_addList 50 = .ok (.iconst 1, 1) := by decide +kernel
theorem d_Mo_addList_51 : decode b_Mo_addList 51 = .ok (.iadd, 1) := by decide +kernel
theorem d_Mo_addList_52 : decode b_Mo_addList 52 = .ok (.putfield 474, 3) := by decide +kernel
theorem d_Mo_addList_55 : decode b_Mo_addList 55 = .ok (.return_, 1) := by decide +kernel
abbrev ra_Mo_addList (mc ms : Nat) : Room := { frames := 2, cells := mc, slots := ms, locals := 150 }
def wa_Mo_addList (mc ms : Nat) (y : Ly) (Post : Ly → St → Nat → Nat → Prop) (σ : St) (a0 : Nat) (v1 : Int32) : Prop := ∃ b_1 : Nat, sO σ a0 45 = some b_1 ∧ cl b_1 = 13 ∧ xR mc ms 0 0 .int y σ b_1 36 ((sV σ b_1 37) + 1) (fun (y_4 : Ly) (s_5 : St) (d_6 e_7 : Nat) => (d_6 ≤ mc ∧ e_7 ≤ ms) ∧ ∃ b_8 : Nat, sO s_5 a0 45 = some b_8 ∧ cl b_8 = 13 ∧ xS y_4 s_5 b_8 36 (sV s_5 b_8 37) v1 (fun s_11 : St => ∃ b_12 : Nat, sO s_11 a0 45 = some b_12 ∧ cl b_12 = 13 ∧ xP (uV s_11 b_12 37 ((sV s_11 b_12 37) + 1)) (fun s_15 : St => Post y_4 s_15 d_6 e_7)))
set_option maxHeartbeats 4000000 in
set_option maxRecDepth 100000 in
theorem ca_Mo_addList (l : Launch) (D : va_G) (g : Nat → ClassId) (ad : Nat → Nat) (mc ms : Nat) (y : Ly) (Post : Ly → St → Nat → Nat → Prop) (σ : St) (a0 : Nat) (v1 : Int32) (sz uz : Nat) (h_a0 : cl a0 = 14) (h : wa_Mo_addList mc ms y Post σ a0 v1) : Met l y_Mo_addList (mw y_Mo_addList b_Mo_addList 2 (none)) (ra_Mo_addList mc ms) (PCu g D [] [.ref (ad a0), .int v1] sz uz (ws g ad y σ)) (va_Qv (fun (u : Ly × St × Nat × Nat) => Post u.1 u.2.1 u.2.2.1 u.2.2.2) (QU D (va_A (ws g ad y σ) sz) (fun u => ws g ad u.1 u.2.1) sz uz (fun u => u.2.2.1) (fun u => u.2.2.2)) (va_A (ws g ad y σ) sz)) mc ms (va_A (ws g ad y σ) sz) := by
  refine ofVu (by decide +kernel) (Nat.le_of_ble_eq_true rfl) ?_
  intro p e s m args below meth c A Q ls H locs G hsz hP hD hS hl hret
  subst hsz
  have hl : lv_has ls 2 [(0, .ref (ad a0)), (1, .int v1)] := hl
  have hd : 0 ≤ mc ∧ 0 ≤ ms := ⟨Nat.zero_le _, Nat.zero_le _⟩
  unfold wa_Mo_addList at h
  refine lv_aload_n G.1 G.2.1 d_Mo_addList_0 rfl (lv_at hl 0 rfl) ?_
  obtain ⟨b_1, e_2, c_3, h⟩ := h
  refine ugf (v := .ref (ad b_1)) G hP h_a0 iMo rfl 45 (by decide) rfl q3109 rfl (by show va_rf ((sO σ a0 45).map ad) = _; rw [e_2]; rfl) d_Mo_addList_1 ?_
  refine lv_aload_n G.1 G.2.1 d_Mo_addList_4 rfl (lv_at hl 0 rfl) ?_
  refine ugf (v := .ref (ad b_1)) G hP h_a0 iMo rfl 45 (by decide) rfl q3109 rfl (by show va_rf ((sO σ a0 45).map ad) = _; rw [e_2]; rfl) d_Mo_addList_5 ?_
  refine ugfN (v := .ref (yP y b_1 36)) G hP c_3 iMw rfl 36 (by decide) rfl q2775 rfl rfl d_Mo_addList_8 ?_
  refine lv_aload_n G.1 G.2.1 d_Mo_addList_11 rfl (lv_at hl 0 rfl) ?_
  refine ugf (v := .ref (ad b_1)) G hP h_a0 iMo rfl 45 (by decide) rfl q3109 rfl (by show va_rf ((sO σ a0 45).map ad) = _; rw [e_2]; rfl) d_Mo_addList_12 ?_
  refine ugfN (v := .int (sV σ b_1 37)) G hP c_3 iMw rfl 37 (by decide) rfl q2776 rfl rfl d_Mo_addList_15 ?_
  refine lv_iconst (v := 1) G.1 G.2.1 d_Mo_addList_18 (by decide) ?_
  refine lv_iadd G.1 G.2.1 d_Mo_addList_19 ?_
  refine uroomN (C := RMw) (T := TMw) (N := 72) G hP hD hS (fun ws0 q1 q t n f sz he ht hn => c_Mo_room_k l D g ws0 q1 q t n f sz he ht hn) (fun ws0 q1 q t n f sz he hn ht hf => c_Mo_room_g l D g ws0 q1 q t n f sz he hn ht hf) w9_Mo_room q2596 ⟨Nat.le_of_ble_eq_true rfl, Nat.le_of_ble_eq_true rfl⟩ (Nat.le_refl _) (Nat.le_refl _) hd (by decide) c_3 rfl rfl iMw tMw tMw_ok nMw rfl (by decide) q2775 rfl rfl (fun _ => rfl) (fun _ => rfl) hl.1 (Nat.le_of_ble_eq_true rfl) h d_Mo_addList_20 d_Mo_addList_23 (fun y_4 s_5 d_6 e_7 H locs h hP hD hS => ?_)
  obtain ⟨hd, h⟩ := h
  refine W.eq (g2 := F0 m 26 ls []) rfl ?_
  refine lv_aload_n G.1 G.2.1 d_Mo_addList_26 rfl (lv_at hl 0 rfl) ?_
  obtain ⟨b_8, e_9, c_10, h⟩ := h
  refine ugf (v := .ref (ad b_8)) G hP h_a0 iMo rfl 45 (by decide) rfl q3109 rfl (by show va_rf ((sO s_5 a0 45).map ad) = _; rw [e_9]; rfl) d_Mo_addList_27 ?_
  refine ugfN (v := .ref (yP y_4 b_8 36)) G hP c_10 iMw rfl 36 (by decide) rfl q2775 rfl rfl d_Mo_addList_30 ?_
  refine lv_aload_n G.1 G.2.1 d_Mo_addList_33 rfl (lv_at hl 0 rfl) ?_
  refine ugf (v := .ref (ad b_8)) G hP h_a0 iMo rfl 45 (by decide) rfl q3109 rfl (by show va_rf ((sO s_5 a0 45).map ad) = _; rw [e_9]; rfl) d_Mo_addList_34 ?_
  refine ugfN (v := .int (sV s_5 b_8 37)) G hP c_10 iMw rfl 37 (by decide) rfl q2776 rfl rfl d_Mo_addList_37 ?_
  refine lv_iload_n G.1 G.2.1 d_Mo_addList_40 rfl (lv_at hl 1 rfl) ?_
  refine uiast G hP hD hS (kdp c_10 rfl) (typ c_10 rfl) h d_Mo_addList_41 (fun s_11 H locs h hP hD hS => ?_)
  refine lv_aload_n G.1 G.2.1 d_Mo_addList_42 rfl (lv_at hl 0 rfl) ?_
  obtain ⟨b_12, e_13, c_14, h⟩ := h
  refine ugf (v := .ref (ad b_12)) G hP h_a0 iMo rfl 45 (by decide) rfl q3109 rfl (by show va_rf ((sO s_11 a0 45).map ad) = _; rw [e_13]; rfl) d_Mo_addList_43 ?_
  refine lv_dup G.1 G.2.1 d_Mo_addList_46 rfl ?_
  refine ugfN (v := .int (sV s_11 b_12 37)) G hP c_14 iMw rfl 37 (by decide) rfl q2776 rfl rfl d_Mo_addList_47 ?_
  refine W.eq (g2 := F0 m 50 ls [.int (sV s_11 b_12 37), .ref (ad b_12)]) rfl ?_
  refine lv_iconst (v := 1) G.1 G.2.1 d_Mo_addList_50 (by decide) ?_
  refine lv_iadd G.1 G.2.1 d_Mo_addList_51 ?_
  refine upfN G hP hD hS h 37 putV c_14 iMw tMw tMw_ok nMw rfl (by decide) rfl q2776 rfl rfl fV rfl rfl d_Mo_addList_52 (fun s_15 H locs h hP hD hS => ?_)
  exact hret (y_4, s_15, d_6, e_7) _ _ _ _ _ ls h hP hD hS (Nat.le_refl _) (Nat.le_refl _) hd.1 hd.2 d_Mo_addList_55
theorem q3645 : Cond.methodLink "ClassWorksModel" 671 y_Mo_addList ∈ lw_ok := lw_okmem (List.mem_of_getElem? (i := 3645) (by decide +kernel)) rfl
theorem q3648 : Cond.code y_Mo_addList b_Mo_addList 2 (none) ∈ lw_ok := lw_okmem (List.mem_of_getElem? (i := 3648) (by decide +kernel)) rfl
theorem q3647 : Cond.instanceMethod y_Mo_addList ∈ lw_ok := lw_okmem (List.mem_of_getElem? (i := 3647) (by decide +kernel)) rfl
theorem q214 : Cond.selects y_Mo_addList.cls y_Mo_addList y_Mo_addList ∈ lw_ok := lw_okmem (List.mem_of_getElem? (i := 214) (by decide +kernel)) rfl
theorem w9_Mo_addList : CWv y_Mo_addList b_Mo_addList 2 (none) 1 ∧ Cond.instanceMethod y_Mo_addList ∈ lw_ok ∧ Cond.selects y_Mo_addList.cls y_Mo_addList y_Mo_addList ∈ lw_ok := ⟨⟨q3648, q348, by decide +kernel, by decide +kernel, by decide +kernel⟩, q3647, q214⟩
theorem q3090 : Cond.fieldLink "ClassWorksModel" 242 "ClassWorksModel" "kNop" "I" ∈ lw_ok := lw_okmem (List.mem_of_getElem? (i := 3090) (by decide +kernel)) rfl
theorem q3082 : Cond.fieldLink "ClassWorksModel" 202 "ClassWorksModel" "kHandler" "I" ∈ lw_ok := lw_okmem (List.mem_of_getElem? (i := 3082) (by decide +kernel)) rfl
theorem q3636 : Cond.methodLink "ClassWorksModel" 662 y_Mo_handlerLine ∈ lw_ok := lw_okmem (List.mem_of_getElem? (i := 3636) (by decide +kernel)) rfl
theorem q3639 : Cond.code y_Mo_handlerLine b_Mo_handlerLine 7 (none) ∈ lw_ok := lw_okmem (List.mem_of_getElem? (i := 3639) (by decide +kernel)) rfl
theorem q3638 : Cond.instanceMethod y_Mo_handlerLine ∈ lw_ok := lw_okmem (List.mem_of_getElem? (i := 3638) (by decide +kernel)) rfl
theorem q212 : Cond.selects y_Mo_handlerLine.cls y_Mo_handlerLine y_Mo_handlerLine ∈ lw_ok := lw_okmem (List.mem_of_getElem? (i := 212) (by decide +kernel)) rfl
theorem w9_Mo_handlerLine : CWv y_Mo_handlerLine b_Mo_handlerLine 7 (none) 0 ∧ Cond.instanceMethod y_Mo_handlerLine ∈ lw_ok ∧ Cond.selects y_Mo_handlerLine.cls y_Mo_handlerLine y_Mo_handlerLine ∈ lw_ok := ⟨⟨q3639, q348, by decide +kernel, by decide +kernel, by decide +kernel⟩, q3638, q212⟩
theorem q3081 : Cond.fieldLink "ClassWorksModel" 197 "ClassWorksModel" "kFrame" "I" ∈ lw_ok := lw_okmem (List.mem_of_getElem? (i := 3081) (by decide +kernel)) rfl
theorem q3620 : Cond.methodLink "ClassWorksModel" 659 y_Mo_frameLine ∈ lw_ok := lw_okmem (List.mem_of_getElem? (i := 3620) (by decide +kernel)) rfl
theorem q3623 : Cond.code y_Mo_frameLine b_Mo_frameLine 2 (none) ∈ lw_ok := lw_okmem (List.mem_of_getElem? (i := 3623) (by decide +kernel)) rfl
theorem q3622 : Cond.instanceMethod y_Mo_frameLine ∈ lw_ok := lw_okmem (List.mem_of_getElem? (i := 3622) (by decide +kernel)) rfl
theorem q208 : Cond.selects y_Mo_frameLine.cls y_Mo_frameLine y_Mo_frameLine ∈ lw_ok := lw_okmem (List.mem_of_getElem? (i := 208) (by decide +kernel)) rfl
theorem w9_Mo_frameLine : CWv y_Mo_frameLine b_Mo_frameLine 2 (none) 0 ∧ Cond.instanceMethod y_Mo_frameLine ∈ lw_ok ∧ Cond.selects y_Mo_frameLine.cls y_Mo_frameLine y_Mo_frameLine ∈ lw_ok := ⟨⟨q3623, q348, by decide +kernel, by decide +kernel, by decide +kernel⟩, q3622, q208⟩
def y_Mo_codeLine : MethodName := ⟨"ClassWorksModel", "codeLine", "()V"⟩
abbrev b_Mo_codeLine : ByteArray := prog_14_method_43_code
theorem d_Mo_codeLine_0 : decode b_Mo_codeLine 0 = .ok (.aload_n 0, 1) := by decide +kernel
theorem d_Mo_codeLine_1 : decode b_Mo_codeLine 1 = .ok (.getfield 92, 3) := by decide +kernel
theorem d_Mo_codeLine_4 : decode b_Mo_codeLine 4 = .ok (.iconst 1, 1) := by decide +kernel
theorem d_Mo_codeLine_5 : decode b_Mo_codeLine 5 = .ok (.baload, 1) := by decide +kernel
theorem d_Mo_codeLine_6 : decode b_Mo_codeLine 6 = .ok (.bipush 58, 2) := by decide +kernel
theorem d_Mo_codeLine_8 : decode b_Mo_codeLine 8 = .ok (.if_icmp .eq 19, 3) := by decide +kernel
theorem d_Mo_codeLine_11 : decode b_Mo_codeLine 11 = .ok (.aload_n 0, 1) := by decide +kernel
theorem d_Mo_codeLine_12 : decode b_Mo_codeLine 12 = .ok (.aload_n 0, 1) := by decide +kernel
theorem d_Mo_codeLine_13 : decode b_Mo_codeLine 13 = .ok (.getfield 197, 3) := by decide +kernel
theorem d_Mo_codeLine_16 : decode b_Mo_codeLine 16 = .ok (.invokevirtual 541, 3) := by decide +kernel
theorem d_Mo_codeLine_19 : decode b_Mo_codeLine 19 = .ok (.ifCond .eq 8, 3) := by decide +kernel
theorem d_Mo_codeLine_22 : decode b_Mo_codeLine 22 = .ok (.aload_n 0, 1) := by decide +kernel
theorem d_Mo_codeLine_23 : decode b_Mo_codeLine 23 = .ok (.invokevirtual 659, 3) := by decide +kernel
theorem d_Mo_codeLine_26 : decode b_Mo_codeLine 26 = .ok (.return_, 1) := by decide +kernel
theorem d_Mo_codeLine_27 : decode b_Mo_codeLine 27 = .ok (.aload_n 0, 1) := by decide +kernel
theorem d_Mo_codeLine_28 : decode b_Mo_codeLine 28 = .ok (.getfield 92, 3) := by decide +kernel
theorem d_Mo_codeLine_31 : decode b_Mo_codeLine 31 = .ok (.iconst 1, 1) := by decide +kernel
theorem d_Mo_codeLine_32 : decode b_Mo_codeLine 32 = .ok (.baload, 1) := by decide +kernel
theorem d_Mo_codeLine_33 : decode b_Mo_codeLine 33 = .ok (.bipush 58, 2) := by decide +kernel
theorem d_Mo_codeLine_35 : decode b_Mo_codeLine 35 = .ok (.if_icmp .eq 19, 3) := by decide +kernel
theorem d_Mo_codeLine_38 : decode b_Mo_codeLine 38 = .ok (.aload_n 0, 1) := by decide +kernel
theorem d_Mo_codeLine_39 : decode b_Mo_codeLine 39 = .ok (.aload_n 0, 1) := by decide +kernel
theorem d_Mo_codeLine_40 : decode b_Mo_codeLine 40 = .ok (.getfield 202, 3) := by decide +kernel
theorem d_Mo_codeLine_43 : decode b_Mo_codeLine 43 = .ok (.invokevirtual 541, 3) := by decide +kernel
theorem d_Mo_codeLine_46 : decode b_Mo_codeLine 46 = .ok (.ifCond .eq 8, 3) := by decide +kernel
theorem d_Mo_codeLine_49 : decode b_Mo_codeLine 49 = .ok (.aload_n 0, 1) := by decide +kernel
theorem d_Mo_codeLine_50 : decode b_Mo_codeLine 50 = .ok (.invokevirtual 662, 3) := by decide +kernel
theorem d_Mo_codeLine_53 : decode b_Mo_codeLine 53 = .ok (.return_, 1) := by decide +kernel
theorem d_Mo_codeLine_54 : decode b_Mo_codeLine 54 = .ok (.aload_n 0, 1) := by decide +kernel
theorem d_Mo_codeLine_55 : decode b_Mo_codeLine 55 = .ok (.getfield 522, 3) := by decide +kernel
theorem d_Mo_codeLine_58 : decode b_Mo_codeLine 58 = .ok (.getfield 465, 3) := by decide +kernel
theorem d_Mo_codeLine_61 : decode b_Mo_codeLine 61 = .ok (.aload_n 0, 1) := by decide +kernel
theorem d_Mo_codeLine_62 : decode b_Mo_codeLine 62 = .ok (.getfield 642, 3) := by decide +kernel
theorem d_Mo_codeLine_65 : decode b_Mo_codeLine 65 = .ok (.iaload, 1) := by decide +kernel
theorem d_Mo_codeLine_66 : decode b_Mo_codeLine 66 = .ok (.istore_n 1, 1) := by decide +kernel
theorem d_Mo_codeLine_67 : decode b_Mo_codeLine 67 = .ok (.aload_n 0, 1) := by decide +kernel
theorem d_Mo_codeLine_68 : decode b_Mo_codeLine 68 = .ok (.getfield 92, 3) := by decide +kernel
theorem d_Mo_codeLine_71 : decode b_Mo_codeLine 71 = .ok (.aload_n 0, 1) := by decide +kernel
theorem d_Mo_codeLine_72 : decode b_Mo_codeLine 72 = .ok (.getfield 104, 3) := by decide +kernel
theorem d_Mo_codeLine_75 : decode b_Mo_codeLine 75 = .ok (.baload, 1) := by decide +kernel
theorem d_Mo_codeLine_76 : decode b_Mo_codeLine 76 = .ok (.iconst 2, 1) := by decide +kernel
theorem d_Mo_codeLine_77 : decode b_Mo_codeLine 77 = .ok (.if_icmp .ne 128, 3) := by decide +kernel
theorem d_Mo_codeLine_80 : decode b_Mo_codeLine 80 = .ok (.aload_n 0, 1) := by decide +kernel
theorem d_Mo_codeLine_81 : decode b_Mo_codeLine 81 = .ok (.getfield 92, 3) := by decide +kernel
theorem d_Mo_codeLine_84 : decode b_Mo_codeLine 84 = .ok (.aload_n 0, 1) := by decide +kernel
theorem d_Mo_codeLine_85 : decode b_Mo_codeLine 85 = .ok (.getfield 104, 3) := by decide +kernel
theorem d_Mo_codeLine_88 : decode b_Mo_codeLine 88 = .ok (.iconst 1, 1) := by decide +kernel
theorem d_Mo_codeLine_89 : decode b_Mo_codeLine 89 = .ok (.iadd, 1) := by decide +kernel
theorem d_Mo_codeLine_90 : decode b_Mo_codeLine 90 = .ok (.baload, 1) := by decide +kernel
theorem d_Mo_codeLine_91 : decode b_Mo_codeLine 91 = .ok (.bipush 58, 2) := by decide +kernel
theorem d_Mo_codeLine_93 : decode b_Mo_codeLine 93 = .ok (.if_icmp .ne 112, 3) := by decide +kernel
theorem d_Mo_codeLine_96 : decode b_Mo_codeLine 96 = .ok (.aload_n 0, 1) := by decide +kernel
theorem d_Mo_codeLine_97 : decode b_Mo_codeLine 97 = .ok (.aload_n 0, 1) := by decide +kernel
theorem d_Mo_codeLine_98 : decode b_Mo_codeLine 98 = .ok (.getfield 98, 3) := by decide +kernel
theorem d_Mo_codeLine_101 : decode b_Mo_codeLine 101 = .ok (.aload_n 0, 1) := by decide +kernel
theorem d_Mo_codeLine_102 : decode b_Mo_codeLine 102 = .ok (.getfield 104, 3) := by decide +kernel
theorem d_Mo_codeLine_105 : decode b_Mo_codeLine 105 = .ok (.iaload, 1) := by decide +kernel
theorem d_Mo_codeLine_106 : decode b_Mo_codeLine 106 = .ok (.invokevirtual 665, 3) := by decide +kernel
theorem d_Mo_codeLine_109 : decode b_Mo_codeLine 109 = .ok (.ifCond .lt 11, 3) := by decide +kernel
theorem d_Mo_codeLine_112 : decode b_Mo_codeLine 112 = .ok (.aload_n 0, 1) := by decide +kernel
theorem d_Mo_codeLine_113 : decode b_Mo_codeLine 113 = .ok (.ldc_w 616, 3) := by decide +kernel
theorem d_Mo_codeLine_116 : decode b_Mo_codeLine 116 = .ok (.iconst 0, 1) := by decide +kernel
theorem d_Mo_codeLine_117 : decode b_Mo_codeLine 117 = .ok (.invokevirtual 656, 3) := by decide +kernel
theorem d_Mo_codeLine_120 : decode b_Mo_codeLine 120 = .ok (.aload_n 0, 1) := by decide +kernel
theorem d_Mo_codeLine_121 : decode b_Mo_codeLine 121 = .ok (.aload_n 0, 1) := by decide +kernel
theorem d_Mo_codeLine_122 : decode b_Mo_codeLine 122 = .ok (.getfield 283, 3) := by decide +kernel
theorem d_Mo_codeLine_125 : decode b_Mo_codeLine 125 = .ok (.aload_n 0, 1) := by decide +kernel
theorem d_Mo_codeLine_126 : decode b_Mo_codeLine 126 = .ok (.getfield 644, 3) := by decide +kernel
theorem d_Mo_codeLine_129 : decode b_Mo_codeLine 129 = .ok (.iconst 1, 1) := by decide +kernel
theorem d_Mo_codeLine_130 : decode b_Mo_codeLine 130 = .ok (.iadd, 1) := by decide +kernel
theorem d_Mo_codeLine_131 : decode b_Mo_codeLine 131 = .ok (.invokestatic 43, 3) := by decide +kernel
theorem d_Mo_codeLine_134 : decode b_Mo_codeLine 134 = .ok (.putfield 283, 3) := by decide +kernel
theorem d_Mo_codeLine_137 : decode b_Mo_codeLine 137 = .ok (.aload_n 0, 1) := by decide +kernel
theorem d_Mo_codeLine_138 : decode b_Mo_codeLine 138 = .ok (.aload_n 0, 1) := by decide +kernel
theorem d_Mo_codeLine_139 : decode b_Mo_codeLine 139 = .ok (.getfield 286, 3) := by decide +kernel
theorem d_Mo_codeLine_142 : decode b_Mo_codeLine 142 = .ok (.aload_n 0, 1) := by decide +kernel
theorem d_Mo_codeLine_143 : decode b_Mo_codeLine 143 = .ok (.getfield 644, 3) := by decide +kernel
theorem d_Mo_codeLine_146 : decode b_Mo_codeLine 146 = .ok (.iconst 1, 1) := by decide +kernel
theorem d_Mo_codeLine_147 : decode b_Mo_codeLine 147 = .ok (.iadd, 1) := by decide +kernel
theorem d_Mo_codeLine_148 : decode b_Mo_codeLine 148 = .ok (.invokestatic 43, 3) := by decide +kernel
theorem d_Mo_codeLine_151 : decode b_Mo_codeLine 151 = .ok (.putfield 286, 3) := by decide +kernel
theorem d_Mo_codeLine_154 : decode b_Mo_codeLine 154 = .ok (.aload_n 0, 1) := by decide +kernel
theorem d_Mo_codeLine_155 : decode b_Mo_codeLine 155 = .ok (.getfield 283, 3) := by decide +kernel
theorem d_Mo_codeLine_158 : decode b_Mo_codeLine 158 = .ok (.aload_n 0, 1) := by decide +kernel
theorem d_Mo_codeLine_159 : decode b_Mo_codeLine 159 = .ok (.getfield 644, 3) := by decide +kernel
theorem d_Mo_codeLine_162 : decode b_Mo_codeLine 162 = .ok (.aload_n 0, 1) := by decide +kernel
theorem d_Mo_codeLine_163 : decode b_Mo_codeLine 163 = .ok (.getfield 98, 3) := by decide +kernel
theorem d_Mo_codeLine_166 : decode b_Mo_codeLine 166 = .ok (.aload_n 0, 1) := by decide +kernel
theorem d_Mo_codeLine_167 : decode b_Mo_codeLine 167 = .ok (.getfield 104, 3) := by decide +kernel
theorem d_Mo_codeLine_170 : decode b_Mo_codeLine 170 = .ok (.iaload, 1) := by decide +kernel
theorem d_Mo_codeLine_171 : decode b_Mo_codeLine 171 = .ok (.iastore, 1) := by decide +kernel
theorem d_Mo_codeLine_172 : decode b_Mo_codeLine 172 = .ok (.aload_n 0, 1) := by decide +kernel
theorem d_Mo_codeLine_173 : decode b_Mo_codeLine 173 = .ok (.getfield 286, 3) := by decide +kernel
theorem d_Mo_codeLine_176 : decode b_Mo_codeLine 176 = .ok (.aload_n 0, 1) := by decide +kernel
theorem d_Mo_codeLine_177 : decode b_Mo_codeLine 177 = .ok (.getfield 644, 3) := by decide +kernel
theorem d_Mo_codeLine_180 : decode b_Mo_codeLine 180 = .ok (.iload_n 1, 1) := by decide +kernel
theorem d_Mo_codeLine_181 : decode b_Mo_codeLine 181 = .ok (.iastore, 1) := by decide +kernel
theorem d_Mo_codeLine_182 : decode b_Mo_codeLine 182 = .ok (.aload_n 0, 1) := by decide +kernel
theorem d_Mo_codeLine_183 : decode b_Mo_codeLine 183 = .ok (.dup, 1) := by decide +kernel
theorem d_Mo_codeLine_184 : decode b_Mo_codeLine 184 = .ok (.getfield 644, 3) := by decide +kernel
theorem d_Mo_codeLine_187 : decode b_Mo_codeLine 187 = .ok (.iconst 1, 1) := by decide +kernel
theorem d_Mo_codeLine_188 : decode b_Mo_codeLine 188 = .ok (.iadd, 1) := by decide +kernel
theorem d_Mo_codeLine_189 : decode b_Mo_codeLine 189 = .ok (.putfield 644, 3) := by decide +kernel
theorem d_Mo_codeLine_192 : decode b_Mo_codeLine 192 = .ok (.aload_n 0, 1) := by decide +kernel
theorem d_Mo_codeLine_193 : decode b_Mo_codeLine 193 = .ok (.dup, 1) := by decide +kernel
theorem d_Mo_codeLine_194 : decode b_Mo_codeLine 194 = .ok (.getfield 104, 3) := by decide +kernel
theorem d_Mo_codeLine_197 : decode b_Mo_codeLine 197 = .ok (.iconst 2, 1) := by decide +kernel
theorem d_Mo_codeLine_198 : decode b_Mo_codeLine 198 = .ok (.iadd, 1) := by decide +kernel
theorem d_Mo_codeLine_199 : decode b_Mo_codeLine 199 = .ok (.putfield 104, 3) := by decide +kernel
theorem d_Mo_codeLine_202 : decode b_Mo_codeLine 202 = .ok (.goto (-135), 3) := by decide +kernel
theorem d_Mo_codeLine_205 : decode b_Mo_codeLine 205 = .ok (.aload_n 0, 1) := by decide +kernel
theorem d_Mo_codeLine_206 : decode b_Mo_codeLine 206 = .ok (.getfield 104, 3) := by decide +kernel
theorem d_Mo_codeLine_209 : decode b_Mo_codeLine 209 = .ok (.ifCond .le 16, 3) := by decide +kernel
theorem d_Mo_codeLine_212 : decode b_Mo_codeLine 212 = .ok (.aload_n 0, 1) := by decide +kernel
theorem d_Mo_codeLine_213 : decode b_Mo_codeLine 213 = .ok (.getfield 92, 3) := by decide +kernel
theorem d_Mo_codeLine_216 : decode b_Mo_codeLine 216 = .ok (.aload_n 0, 1) := by decide +kernel
theorem d_Mo_codeLine_217 : decode b_Mo_codeLine 217 = .ok (.getfield 104, 3) := by decide +kernel
theorem d_Mo_codeLine_220 : decode b_Mo_codeLine 220 = .ok (.baload, 1) := by decide +kernel
theorem d_Mo_codeLine_221 : decode b_Mo_codeLine 221 = .ok (.ifCond .ne 4, 3) := by decide +kernel
theorem d_Mo_codeLine_224 : decode b_Mo_codeLine 224 = .ok (.return_, 1) := by decide +kernel
theorem d_Mo_codeLine_225 : decode b_Mo_codeLine 225 = .ok (.aload_n 0, 1) := by decide +kernel
theorem d_Mo_codeLine_226 : decode b_Mo_codeLine 226 = .ok (.getfield 92, 3) := by decide +kernel
theorem d_Mo_codeLine_229 : decode b_Mo_codeLine 229 = .ok (.aload_n 0, 1) := by decide +kernel
theorem d_Mo_codeLine_230 : decode b_Mo_codeLine 230 = .ok (.getfield 104, 3) := by decide +kernel
theorem d_Mo_codeLine_233 : decode b_Mo_codeLine 233 = .ok (.baload, 1) := by decide +kernel
theorem d_Mo_codeLine_234 : decode b_Mo_codeLine 234 = .ok (.iconst 2, 1) := by decide +kernel
theorem d_Mo_codeLine_235 : decode b_Mo_codeLine 235 = .ok (.if_icmp .ne 20, 3) := by decide +kernel
theorem d_Mo_codeLine_238 : decode b_Mo_codeLine 238 = .ok (.aload_n 0, 1) := by decide +kernel
theorem d_Mo_codeLine_239 : decode b_Mo_codeLine 239 = .ok (.getfield 98, 3) := by decide +kernel
theorem d_Mo_codeLine_242 : decode b_Mo_codeLine 242 = .ok (.aload_n 0, 1) := by decide +kernel
theorem d_Mo_codeLine_243 : decode b_Mo_codeLine 243 = .ok (.getfield 104, 3) := by decide +kernel
theorem d_Mo_codeLine_246 : decode b_Mo_codeLine 246 = .ok (.iaload, 1) := by decide +kernel
theorem d_Mo_codeLine_247 : decode b_Mo_codeLine 247 = .ok (.aload_n 0, 1) := by decide +kernel
theorem d_Mo_codeLine_248 : decode b_Mo_codeLine 248 = .ok (.getfield 242, 3) := by decide +kernel
theorem d_Mo_codeLine_251 : decode b_Mo_codeLine 251 = .ok (.isub, 1) := by decide +kernel
theorem d_Mo_codeLine_252 : decode b_Mo_codeLine 252 = .ok (.goto 5, 3) := by decide +kernel
theorem d_Mo_codeLine_255 : decode b_Mo_codeLine 255 = .ok (.bipush 62, 2) := by decide +kernel
theorem d_Mo_codeLine_257 : decode b_Mo_codeLine 257 = .ok (.istore_n 2, 1) := by decide +kernel
theorem d_Mo_codeLine_258 : decode b_Mo_codeLine 258 = .ok (.iload_n 2, 1) := by decide +kernel
theorem d_Mo_codeLine_259 : decode b_Mo_codeLine 259 = .ok (.ifCond .lt 9, 3) := by decide +kernel
theorem d_Mo_codeLine_262 : decode b_Mo_codeLine 262 = .ok (.iload_n 2, 1) := by decide +kernel
theorem d_Mo_codeLine_263 : decode b_Mo_codeLine 263 = .ok (.bipush 62, 2) := by decide +kernel
theorem d_Mo_codeLine_265 : decode b_Mo_codeLine 265 = .ok (.if_icmp .lt 7, 3) := by decide +kernel
theorem d_Mo_codeLine_268 : decode b_Mo_codeLine 268 = .ok (.aload_n 0, 1) := by decide +kernel
theorem d_Mo_codeLine_269 : decode b_Mo_codeLine 269 = .ok (.invokevirtual 535, 3) := by decide +kernel
theorem d_Mo_codeLine_272 : decode b_Mo_codeLine 272 = .ok (.aload_n 0, 1) := by decide +kernel
theorem d_Mo_codeLine_273 : decode b_Mo_codeLine 273 = .ok (.dup, 1) := by decide +kernel
theorem d_Mo_codeLine_274 : decode b_Mo_codeLine 274 = .ok (.getfield 104, 3) := by decide +kernel
theorem d_Mo_codeLine_277 : decode b_Mo_codeLine 277 = .ok (.iconst 1, 1) := by decide +kernel
theorem d_Mo_codeLine_278 : decode b_Mo_codeLine 278 = .ok (.iadd, 1) := by decide +kernel
theorem d_Mo_codeLine_279 : decode b_Mo_codeLine 279 = .ok (.putfield 104, 3) := by decide +kernel
theorem d_Mo_codeLine_282 : decode b_Mo_codeLine 282 = .ok (.iconst 0, 1) := by decide +kernel
theorem d_Mo_codeLine_283 : decode b_Mo_codeLine 283 = .ok (.istore_n 3, 1) := by decide +kernel
theorem d_Mo_codeLine_284 : decode b_Mo_codeLine 284 = .ok (.iconst 0, 1) := by decide +kernel
theorem d_Mo_codeLine_285 : decode b_Mo_codeLine 285 = .ok (.istore 4, 2) := by decide +kernel
theorem d_Mo_codeLine_287 : decode b_Mo_codeLine 287 = .ok (.iconst 0, 1) := by decide +kernel
theorem d_Mo_codeLine_288 : decode b_Mo_codeLine 288 = .ok (.istore 5, 2) := by decide +kernel
theorem d_Mo_codeLine_290 : decode b_Mo_codeLine 290 = .ok (.iload_n 2, 1) := by decide +kernel
theorem d_Mo_codeLine_291 : decode b_Mo_codeLine 291 = .ok (.tableswitch 498 1 55 #[267, 498, 233, 233, 233, 233, 244, 498, 498, 498, 498, 498, 498, 498, 498, 498, 498, 498, 498, 498, 498, 498, 281, 281, 281, 281, 281, 281, 281, 281, 281, 281, 281, 281, 281, 281, 281, 281, 281, 289, 367, 498, 498, 498, 498, 375, 375, 375, 375, 401, 401, 401, 401, 367, 367], 233) := by decide +kernel
theorem d_Mo_codeLine_524 : decode b_Mo_codeLine 524 = .ok (.aload_n 0, 1) := by decide +kernel
theorem d_Mo_codeLine_525 : decode b_Mo_codeLine 525 = .ok (.iconst 0, 1) := by decide +kernel
theorem d_Mo_codeLine_526 : decode b_Mo_codeLine 526 = .ok (.bipush 19, 2) := by decide +kernel
theorem d_Mo_codeLine_528 : decode b_Mo_codeLine 528 = .ok (.invokevirtual 618, 3) := by decide +kernel
theorem d_Mo_codeLine_531 : decode b_Mo_codeLine 531 = .ok (.istore_n 3, 1) := by decide +kernel
theorem d_Mo_codeLine_532 : decode b_Mo_codeLine 532 = .ok (.goto 257, 3) := by decide +kernel
theorem d_Mo_codeLine_535 : decode b_Mo_codeLine 535 = .ok (.aload_n 0, 1) := by decide +kernel
theorem d_Mo_codeLine_536 : decode b_Mo_codeLine 536 = .ok (.iconst 0, 1) := by decide +kernel
theorem d_Mo_codeLine_537 : decode b_Mo_codeLine 537 = .ok (.bipush 19, 2) := by decide +kernel
theorem d_Mo_codeLine_539 : decode b_Mo_codeLine 539 = .ok (.invokevirtual 618, 3) := by decide +kernel
theorem d_Mo_codeLine_542 : decode b_Mo_codeLine 542 = .ok (.istore_n 3, 1) := by decide +kernel
theorem d_Mo_codeLine_543 : decode b_Mo_codeLine 543 = .ok (.aload_n 0, 1) := by decide +kernel
theorem d_Mo_codeLine_544 : decode b_Mo_codeLine 544 = .ok (.ldc_w 616, 3) := by decide +kernel
theorem d_Mo_codeLine_547 : decode b_Mo_codeLine 547 = .ok (.ldc_w 617, 3) := by decide +kernel
theorem d_Mo_codeLine_550 : decode b_Mo_codeLine 550 = .ok (.invokevirtual 618, 3) := by decide +kernel
theorem d_Mo_codeLine_553 : decode b_Mo_codeLine 553 = .ok (.istore 4, 2) := by decide +kernel
theorem d_Mo_codeLine_555 : decode b_Mo_codeLine 555 = .ok (.goto 234, 3) := by decide +kernel
theorem d_Mo_codeLine_558 : decode b_Mo_codeLine 558 = .ok (.aload_n 0, 1) := by decide +kernel
theorem d_Mo_codeLine_559 : decode b_Mo_codeLine 559 = .ok (.ldc_w 616, 3) := by decide +kernel
theorem d_Mo_codeLine_562 : decode b_Mo_codeLine 562 = .ok (.ldc_w 617, 3) := by decide +kernel
theorem d_Mo_codeLine_565 : decode b_Mo_codeLine 565 = .ok (.invokevirtual 618, 3) := by decide +kernel
theorem d_Mo_codeLine_568 : decode b_Mo_codeLine 568 = .ok (.istore_n 3, 1) := by decide +kernel
theorem d_Mo_codeLine_569 : decode b_Mo_codeLine 569 = .ok (.goto 220, 3) := by decide +kernel
theorem d_Mo_codeLine_572 : decode b_Mo_codeLine 572 = .ok (.aload_n 0, 1) := by decide +kernel
theorem d_Mo_codeLine_573 : decode b_Mo_codeLine 573 = .ok (.invokevirtual 668, 3) := by decide +kernel
theorem d_Mo_codeLine_576 : decode b_Mo_codeLine 576 = .ok (.istore_n 3, 1) := by decide +kernel
theorem d_Mo_codeLine_577 : decode b_Mo_codeLine 577 = .ok (.goto 212, 3) := by decide +kernel
theorem d_Mo_codeLine_580 : decode b_Mo_codeLine 580 = .ok (.aload_n 0, 1) := by decide +kernel
theorem d_Mo_codeLine_581 : decode b_Mo_codeLine 581 = .ok (.ldc_w 616, 3) := by decide +kernel
theorem d_Mo_codeLine_584 : decode b_Mo_codeLine 584 = .ok (.ldc_w 617, 3) := by decide +kernel
theorem d_Mo_codeLine_587 : decode b_Mo_codeLine 587 = .ok (.invokevirtual 618, 3) := by decide +kernel
theorem d_Mo_codeLine_590 : decode b_Mo_codeLine 590 = .ok (.istore_n 3, 1) := by decide +kernel
theorem d_Mo_codeLine_591 : decode b_Mo_codeLine 591 = .ok (.aload_n 0, 1) := by decide +kernel
theorem d_Mo_codeLine_592 : decode b_Mo_codeLine 592 = .ok (.getfield 522, 3) := by decide +kernel
theorem d_Mo_codeLine_595 : decode b_Mo_codeLine 595 = .ok (.getfield 474, 3) := by decide +kernel
theorem d_Mo_codeLine_598 : decode b_Mo_codeLine 598 = .ok (.istore 4, 2) := by decide +kernel
theorem d_Mo_codeLine_600 : decode b_Mo_codeLine 600 = .ok (.aload_n 0, 1) := by decide +kernel
theorem d_Mo_codeLine_601 : decode b_Mo_codeLine 601 = .ok (.aload_n 0, 1) := by decide +kernel
theorem d_Mo_codeLine_602 : decode b_Mo_codeLine 602 = .ok (.invokevirtual 668, 3) := by decide +kernel
theorem d_Mo_codeLine_605 : decode b_Mo_codeLine 605 = .ok (.invokevirtual 671, 3) := by decide +kernel
theorem d_Mo_codeLine_608 : decode b_Mo_codeLine 608 = .ok (.aload_n 0, 1) := by decide +kernel
theorem d_Mo_codeLine_609 : decode b_Mo_codeLine 609 = .ok (.getfield 92, 3) := by decide +kernel
theorem d_Mo_codeLine_612 : decode b_Mo_codeLine 612 = .ok (.aload_n 0, 1) := by decide +kernel
theorem d_Mo_codeLine_613 : decode b_Mo_codeLine 613 = .ok (.getfield 104, 3) := by decide +kernel
theorem d_Mo_codeLine_616 : decode b_Mo_codeLine 616 = .ok (.baload, 1) := by decide +kernel
theorem d_Mo_codeLine_617 : decode b_Mo_codeLine 617 = .ok (.bipush 44, 2) := by decide +kernel
theorem d_Mo_codeLine_619 : decode b_Mo_codeLine 619 = .ok (.if_icmp .ne 24, 3) := by decide +kernel
theorem d_Mo_codeLine_622 : decode b_Mo_codeLine 622 = .ok (.aload_n 0, 1) := by decide +kernel
theorem d_Mo_codeLine_623 : decode b_Mo_codeLine 623 = .ok (.dup, 1) := by decide +kernel
theorem d_Mo_codeLine_624 : decode b_Mo_codeLine 624 = .ok (.getfield 104, 3) := by decide +kernel
theorem d_Mo_codeLine_627 : decode b_Mo_codeLine 627 = .ok (.iconst 1, 1) := by decide +kernel
theorem d_Mo_codeLine_628 : decode b_Mo_codeLine 628 = .ok (.iadd, 1) := by decide +kernel
theorem d_Mo_codeLine_629 : decode b_Mo_codeLine 629 = .ok (.putfield 104, 3) := by decide +kernel
theorem d_Mo_codeLine_632 : decode b_Mo_codeLine 632 = .ok (.aload_n 0, 1) := by decide +kernel
theorem d_Mo_codeLine_633 : decode b_Mo_codeLine 633 = .ok (.aload_n 0, 1) := by decide +kernel
theorem d_Mo_codeLine_634 : decode b_Mo_codeLine 634 = .ok (.invokevirtual 668, 3) := by decide +kernel
theorem d_Mo_codeLine_637 : decode b_Mo_codeLine 637 = .ok (.invokevirtual 671, 3) := by decide +kernel
theorem d_Mo_codeLine_640 : decode b_Mo_codeLine 640 = .ok (.goto (-32), 3) := by decide +kernel
theorem d_Mo_codeLine_643 : decode b_Mo_codeLine 643 = .ok (.aload_n 0, 1) := by decide +kernel
theorem d_Mo_codeLine_644 : decode b_Mo_codeLine 644 = .ok (.getfield 522, 3) := by decide +kernel
theorem d_Mo_codeLine_647 : decode b_Mo_codeLine 647 = .ok (.getfield 474, 3) := by decide +kernel
theorem d_Mo_codeLine_650 : decode b_Mo_codeLine 650 = .ok (.iload 4, 2) := by decide +kernel
theorem d_Mo_codeLine_652 : decode b_Mo_codeLine 652 = .ok (.isub, 1) := by decide +kernel
theorem d_Mo_codeLine_653 : decode b_Mo_codeLine 653 = .ok (.istore 5, 2) := by decide +kernel
theorem d_Mo_codeLine_655 : decode b_Mo_codeLine 655 = .ok (.goto 134, 3) := by decide +kernel
theorem d_Mo_codeLine_658 : decode b_Mo_codeLine 658 = .ok (.aload_n 0, 1) := by decide +kernel
theorem d_Mo_codeLine_659 : decode b_Mo_codeLine 659 = .ok (.invokevirtual 554, 3) := by decide +kernel
theorem d_Mo_codeLine_662 : decode b_Mo_codeLine 662 = .ok (.istore_n 3, 1) := by decide +kernel
theorem d_Mo_codeLine_663 : decode b_Mo_codeLine 663 = .ok (.goto 126, 3) := by decide +kernel
theorem d_Mo_codeLine_666 : decode b_Mo_codeLine 666 = .ok (.aload_n 0, 1) := by decide +kernel
theorem d_Mo_codeLine_667 : decode b_Mo_codeLine 667 = .ok (.invokevirtual 554, 3) := by decide +kernel
theorem d_Mo_codeLine_670 : decode b_Mo_codeLine 670 = .ok (.istore_n 3, 1) := by decide +kernel
theorem d_Mo_codeLine_671 : decode b_Mo_codeLine 671 = .ok (.aload_n 0, 1) := by decide +kernel
theorem d_Mo_codeLine_672 : decode b_Mo_codeLine 672 = .ok (.bipush 46, 2) := by decide +kernel
theorem d_Mo_codeLine_674 : decode b_Mo_codeLine 674 = .ok (.invokevirtual 544, 3) := by decide +kernel
theorem d_Mo_codeLine_677 : decode b_Mo_codeLine 677 = .ok (.aload_n 0, 1) := by decide +kernel
theorem d_Mo_codeLine_678 : decode b_Mo_codeLine 678 = .ok (.invokevirtual 551, 3) := by decide +kernel
theorem d_Mo_codeLine_681 : decode b_Mo_codeLine 681 = .ok (.istore 4, 2) := by decide +kernel
theorem d_Mo_codeLine_683 : decode b_Mo_codeLine 683 = .ok (.aload_n 0, 1) := by decide +kernel
theorem d_Mo_codeLine_684 : decode b_Mo_codeLine 684 = .ok (.invokevirtual 563, 3) := by decide +kernel
theorem d_Mo_codeLine_687 : decode b_Mo_codeLine 687 = .ok (.istore 5, 2) := by decide +kernel
theorem d_Mo_codeLine_689 : decode b_Mo_codeLine 689 = .ok (.goto 100, 3) := by decide +kernel
theorem d_Mo_codeLine_692 : decode b_Mo_codeLine 692 = .ok (.aload_n 0, 1) := by decide +kernel
theorem d_Mo_codeLine_693 : decode b_Mo_codeLine 693 = .ok (.invokevirtual 554, 3) := by decide +kernel
theorem d_Mo_codeLine_696 : decode b_Mo_codeLine 696 = .ok (.istore_n 3, 1) := by decide +kernel
theorem d_Mo_codeLine_697 : decode b_Mo_codeLine 697 = .ok (.aload_n 0, 1) := by decide +kernel
theorem d_Mo_codeLine_698 : decode b_Mo_codeLine 698 = .ok (.bipush 46, 2) := by decide +kernel
theorem d_Mo_codeLine_700 : decode b_Mo_codeLine 700 = .ok (.invokevirtual 544, 3) := by decide +kernel
theorem d_Mo_codeLine_703 : decode b_Mo_codeLine 703 = .ok (.aload_n 0, 1) := by decide +kernel
theorem d_Mo_codeLine_704 : decode b_Mo_codeLine 704 = .ok (.getfield 92, 3) := by decide +kernel
theorem d_Mo_codeLine_707 : decode b_Mo_codeLine 707 = .ok (.aload_n 0, 1) := by decide +kernel
theorem d_Mo_codeLine_708 : decode b_Mo_codeLine 708 = .ok (.getfield 104, 3) := by decide +kernel
theorem d_Mo_codeLine_711 : decode b_Mo_codeLine 711 = .ok (.baload, 1) := by decide +kernel
theorem d_Mo_codeLine_712 : decode b_Mo_codeLine 712 = .ok (.iconst 3, 1) := by decide +kernel
theorem d_Mo_codeLine_713 : decode b_Mo_codeLine 713 = .ok (.if_icmp .ne 38, 3) := by decide +kernel
theorem d_Mo_codeLine_716 : decode b_Mo_codeLine 716 = .ok (.aload_n 0, 1) := by decide +kernel
theorem d_Mo_codeLine_717 : decode b_Mo_codeLine 717 = .ok (.getfield 98, 3) := by decide +kernel
theorem d_Mo_codeLine_720 : decode b_Mo_codeLine 720 = .ok (.aload_n 0, 1) := by decide +kernel
theorem d_Mo_codeLine_721 : decode b_Mo_codeLine 721 = .ok (.getfield 104, 3) := by decide +kernel
theorem d_Mo_codeLine_724 : decode b_Mo_codeLine 724 = .ok (.iaload, 1) := by decide +kernel
theorem d_Mo_codeLine_725 : decode b_Mo_codeLine 725 = .ok (.aload_n 0, 1) := by decide +kernel
theorem d_Mo_codeLine_726 : decode b_Mo_codeLine 726 = .ok (.getfield 121, 3) := by decide +kernel
theorem d_Mo_codeLine_729 : decode b_Mo_codeLine 729 = .ok (.if_icmp .ne 22, 3) := by decide +kernel
theorem d_Mo_codeLine_732 : decode b_Mo_codeLine 732 = .ok (.aload_n 0, 1) := by decide +kernel
theorem d_Mo_codeLine_733 : decode b_Mo_codeLine 733 = .ok (.dup, 1) := by decide +kernel
theorem d_Mo_codeLine_734 : decode b_Mo_codeLine 734 = .ok (.getfield 104, 3) := by decide +kernel
theorem d_Mo_codeLine_737 : decode b_Mo_codeLine 737 = .ok (.iconst 1, 1) := by decide +kernel
theorem d_Mo_codeLine_738 : decode b_Mo_codeLine 738 = .ok (.iadd, 1) := by decide +kernel
theorem d_Mo_codeLine_739 : decode b_Mo_codeLine 739 = .ok (.putfield 104, 3) := by decide +kernel
theorem d_Mo_codeLine_742 : decode b_Mo_codeLine 742 = .ok (.aload_n 0, 1) := by decide +kernel
theorem d_Mo_codeLine_743 : decode b_Mo_codeLine 743 = .ok (.getfield 121, 3) := by decide +kernel
theorem d_Mo_codeLine_746 : decode b_Mo_codeLine 746 = .ok (.istore 4, 2) := by decide +kernel
theorem d_Mo_codeLine_748 : decode b_Mo_codeLine 748 = .ok (.goto 9, 3) := by decide +kernel
theorem d_Mo_codeLine_751 : decode b_Mo_codeLine 751 = .ok (.aload_n 0, 1) := by decide +kernel
theorem d_Mo_codeLine_752 : decode b_Mo_codeLine 752 = .ok (.invokevirtual 551, 3) := by decide +kernel
theorem d_Mo_codeLine_755 : decode b_Mo_codeLine 755 = .ok (.istore 4, 2) := by decide +kernel
theorem d_Mo_codeLine_757 : decode b_Mo_codeLine 757 = .ok (.aload_n 0, 1) := by decide +kernel
theorem d_Mo_codeLine_758 : decode b_Mo_codeLine 758 = .ok (.invokevirtual 639, 3) := by decide +kernel
theorem d_Mo_codeLine_761 : decode b_Mo_codeLine 761 = .ok (.istore 5, 2) := by decide +kernel
theorem d_Mo_codeLine_763 : decode b_Mo_codeLine 763 = .ok (.aload_n 0, 1) := by decide +kernel
theorem d_Mo_codeLine_764 : decode b_Mo_codeLine 764 = .ok (.bipush 12, 2) := by decide +kernel
theorem d_Mo_codeLine_766 : decode b_Mo_codeLine 766 = .ok (.aload_n 0, 1) := by decide +kernel
theorem d_Mo_codeLine_767 : decode b_Mo_codeLine 767 = .ok (.getfield 80, 3) := by decide +kernel
theorem d_Mo_codeLine_770 : decode b_Mo_codeLine 770 = .ok (.iload 5, 2) := by decide +kernel
theorem d_Mo_codeLine_772 : decode b_Mo_codeLine 772 = .ok (.iaload, 1) := by decide +kernel
theorem d_Mo_codeLine_773 : decode b_Mo_codeLine 773 = .ok (.bipush 6, 2) := by decide +kernel
theorem d_Mo_codeLine_775 : decode b_Mo_codeLine 775 = .ok (.if_icmp .le 7, 3) := by decide +kernel
theorem d_Mo_codeLine_778 : decode b_Mo_codeLine 778 = .ok (.iconst 1, 1) := by decide +kernel
theorem d_Mo_codeLine_779 : decode b_Mo_codeLine 779 = .ok (.goto 4, 3) := by decide +kernel
theorem d_Mo_codeLine_782 : decode b_Mo_codeLine 782 = .ok (.iconst 0, 1) := by decide +kernel
theorem d_Mo_codeLine_783 : decode b_Mo_codeLine 783 = .ok (.invokevirtual 605, 3) := by decide +kernel
theorem d_Mo_codeLine_786 : decode b_Mo_codeLine 786 = .ok (.goto 3, 3) := by decide +kernel
theorem d_Mo_codeLine_789 : decode b_Mo_codeLine 789 = .ok (.aload_n 0, 1) := by decide +kernel
theorem d_Mo_codeLine_790 : decode b_Mo_codeLine 790 = .ok (.iconst 0, 1) := by decide +kernel
theorem d_Mo_codeLine_791 : decode b_Mo_codeLine 791 = .ok (.invokevirtual 544, 3) := by decide +kernel
theorem d_Mo_codeLine_794 : decode b_Mo_codeLine 794 = .ok (.aload_n 0, 1) := by decide +kernel
theorem d_Mo_codeLine_795 : decode b_Mo_codeLine 795 = .ok (.bipush 12, 2) := by decide +kernel
theorem d_Mo_codeLine_797 : decode b_Mo_codeLine 797 = .ok (.iload_n 1, 1) := by decide +kernel
theorem d_Mo_codeLine_798 : decode b_Mo_codeLine 798 = .ok (.bipush 80, 2) := by decide +kernel
theorem d_Mo_codeLine_800 : decode b_Mo_codeLine 800 = .ok (.if_icmp .ne 7, 3) := by decide +kernel
theorem d_Mo_codeLine_803 : decode b_Mo_codeLine 803 = .ok (.iconst 1, 1) := by decide +kernel
theorem d_Mo_codeLine_804 : decode b_Mo_codeLine 804 = .ok (.goto 4, 3) := by decide +kernel
theorem d_Mo_codeLine_807 : decode b_Mo_codeLine 807 = .ok (.iconst 0, 1) := by decide +kernel
theorem d_Mo_codeLine_808 : decode b_Mo_codeLine 808 = .ok (.invokevirtual 605, 3) := by decide +kernel
theorem d_Mo_codeLine_811 : decode b_Mo_codeLine 811 = .ok (.aload_n 0, 1) := by decide +kernel
theorem d_Mo_codeLine_812 : decode b_Mo_codeLine 812 = .ok (.getfield 522, 3) := by decide +kernel
theorem d_Mo_codeLine_815 : decode b_Mo_codeLine 815 = .ok (.getfield 471, 3) := by decide +kernel
theorem d_Mo_codeLine_818 : decode b_Mo_codeLine 818 = .ok (.istore 6, 2) := by decide +kernel
theorem d_Mo_codeLine_820 : decode b_Mo_codeLine 820 = .ok (.aload_n 0, 1) := by decide +kernel
theorem d_Mo_codeLine_821 : decode b_Mo_codeLine 821 = .ok (.getfield 522, 3) := by decide +kernel
theorem d_Mo_codeLine_824 : decode b_Mo_codeLine 824 = .ok (.aload_n 0, 1) := by decide +kernel
theorem d_Mo_codeLine_825 : decode b_Mo_codeLine 825 = .ok (.getfield 522, 3) := by decide +kernel
theorem d_Mo_codeLine_828 : decode b_Mo_codeLine 828 = .ok (.getfield 674, 3) := by decide +kernel
theorem d_Mo_codeLine_831 : decode b_Mo_codeLine 831 = .ok (.iload 6, 2) := by decide +kernel
theorem d_Mo_codeLine_833 : decode b_Mo_codeLine 833 = .ok (.iconst 1, 1) := by decide +kernel
theorem d_Mo_codeLine_834 : decode b_Mo_codeLine 834 = .ok (.iadd, 1) := by decide +kernel
theorem d_Mo_codeLine_835 : decode b_Mo_codeLine 835 = .ok (.invokestatic 36, 3) := by decide +kernel
theorem d_Mo_codeLine_838 : decode b_Mo_codeLine 838 = .ok (.putfield 674, 3) := by decide +kernel
theorem d_Mo_codeLine_841 : decode b_Mo_codeLine 841 = .ok (.aload_n 0, 1) := by decide +kernel
theorem d_Mo_codeLine_842 : decode b_Mo_codeLine 842 = .ok (.getfield 522, 3) := by decide +kernel
theorem d_Mo_codeLine_845 : decode b_Mo_codeLine 845 = .ok (.aload_n 0, 1) := by decide +kernel
theorem d_Mo_codeLine_846 : decode b_Mo_codeLine 846 = .ok (.getfield 522, 3) := by decide +kernel
theorem d_Mo_codeLine_849 : decode b_Mo_codeLine 849 = .ok (.getfield 677, 3) := by decide +kernel
theorem d_Mo_codeLine_852 : decode b_Mo_codeLine 852 = .ok (.iload 6, 2) := by decide +kernel
theorem d_Mo_codeLine_854 : decode b_Mo_codeLine 854 = .ok (.iconst 1, 1) := by decide +kernel
theorem d_Mo_codeLine_855 : decode b_Mo_codeLine 855 = .ok (.iadd, 1) := by decide +kernel
theorem d_Mo_codeLine_856 : decode b_Mo_codeLine 856 = .ok (.invokestatic 43, 3) := by decide +kernel
theorem d_Mo_codeLine_859 : decode b_Mo_codeLine 859 = .ok (.putfield 677, 3) := by decide +kernel
theorem d_Mo_codeLine_862 : decode b_Mo_codeLine 862 = .ok (.aload_n 0, 1) := by decide +kernel
theorem d_Mo_codeLine_863 : decode b_Mo_codeLine 863 = .ok (.getfield 522, 3) := by decide +kernel
theorem d_Mo_codeLine_866 : decode b_Mo_codeLine 866 = .ok (.aload_n 0, 1) := by decide +kernel
theorem d_Mo_codeLine_867 : decode b_Mo_codeLine 867 = .ok (.getfield 522, 3) := by decide +kernel
theorem d_Mo_codeLine_870 : decode b_Mo_codeLine 870 = .ok (.getfield 680, 3) := by decide +kernel
theorem d_Mo_codeLine_873 : decode b_Mo_codeLine 873 = .ok (.iload 6, 2) := by decide +kernel
theorem d_Mo_codeLine_875 : decode b_Mo_codeLine 875 = .ok (.iconst 1, 1) := by decide +kernel
theorem d_Mo_codeLine_876 : decode b_Mo_codeLine 876 = .ok (.iadd, 1) := by decide +kernel
theorem d_Mo_codeLine_877 : decode b_Mo_codeLine 877 = .ok (.invokestatic 43, 3) := by decide +kernel
theorem d_Mo_codeLine_880 : decode b_Mo_codeLine 880 = .ok (.putfield 680, 3) := by decide +kernel
theorem d_Mo_codeLine_883 : decode b_Mo_codeLine 883 = .ok (.aload_n 0, 1) := by decide +kernel
theorem d_Mo_codeLine_884 : decode b_Mo_codeLine 884 = .ok (.getfield 522, 3) := by decide +kernel
theorem d_Mo_codeLine_887 : decode b_Mo_codeLine 887 = .ok (.aload_n 0, 1) := by decide +kernel
theorem d_Mo_codeLine_888 : decode b_Mo_codeLine 888 = .ok (.getfield 522, 3) := by decide +kernel
theorem d_Mo_codeLine_891 : decode b_Mo_codeLine 891 = .ok (.getfield 683, 3) := by decide +kernel
theorem d_Mo_codeLine_894 : decode b_Mo_codeLine 894 = .ok (.iload 6, 2) := by decide +kernel
theorem d_Mo_codeLine_896 : decode b_Mo_codeLine 896 = .ok (.iconst 1, 1) := by decide +kernel
theorem d_Mo_codeLine_897 : decode b_Mo_codeLine 897 = .ok (.iadd, 1) := by decide +kernel
theorem d_Mo_codeLine_898 : decode b_Mo_codeLine 898 = .ok (.invokestatic 43, 3) := by decide +kernel
theorem d_Mo_codeLine_901 : decode b_Mo_codeLine 901 = .ok (.putfield 683, 3) := by decide +kernel
theorem d_Mo_codeLine_904 : decode b_Mo_codeLine 904 = .ok (.aload_n 0, 1) := by decide +kernel
theorem d_Mo_codeLine_905 : decode b_Mo_codeLine 905 = .ok (.getfield 522, 3) := by decide +kernel
theorem d_Mo_codeLine_908 : decode b_Mo_codeLine 908 = .ok (.aload_n 0, 1) := by decide +kernel
theorem d_Mo_codeLine_909 : decode b_Mo_codeLine 909 = .ok (.getfield 522, 3) := by decide +kernel
theorem d_Mo_codeLine_912 : decode b_Mo_codeLine 912 = .ok (.getfield 686, 3) := by decide +kernel
theorem d_Mo_codeLine_915 : decode b_Mo_codeLine 915 = .ok (.iload 6, 2) := by decide +kernel
theorem d_Mo_codeLine_917 : decode b_Mo_codeLine 917 = .ok (.iconst 1, 1) := by decide +kernel
theorem d_Mo_codeLine_918 : decode b_Mo_codeLine 918 = .ok (.iadd, 1) := by decide +kernel
theorem d_Mo_codeLine_919 : decode b_Mo_codeLine 919 = .ok (.invokestatic 43, 3) := by decide +kernel
theorem d_Mo_codeLine_922 : decode b_Mo_codeLine 922 = .ok (.putfield 686, 3) := by decide +kernel
theorem d_Mo_codeLine_925 : decode b_Mo_codeLine 925 = .ok (.aload_n 0, 1) := by decide +kernel
theorem d_Mo_codeLine_926 : decode b_Mo_codeLine 926 = .ok (.getfield 522, 3) := by decide +kernel
theorem d_Mo_codeLine_929 : decode b_Mo_codeLine 929 = .ok (.getfield 674, 3) := by decide +kernel
theorem d_Mo_codeLine_932 : decode b_Mo_codeLine 932 = .ok (.iload 6, 2) := by decide +kernel
theorem d_Mo_codeLine_934 : decode b_Mo_codeLine 934 = .ok (.iload_n 2, 1) := by decide +kernel
theorem d_Mo_codeLine_935 : decode b_Mo_codeLine 935 = .ok (.i2b, 1) := by decide +kernel
theorem d_Mo_codeLine_936 : decode b_Mo_codeLine 936 = .ok (.bastore, 1) := by decide +kernel
theorem d_Mo_codeLine_937 : decode b_Mo_codeLine 937 = .ok (.aload_n 0, 1) := by decide +kernel
theorem d_Mo_codeLine_938 : decode b_Mo_codeLine 938 = .ok (.getfield 522, 3) := by decide +kernel
theorem d_Mo_codeLine_941 : decode b_Mo_codeLine 941 = .ok (.getfield 677, 3) := by decide +kernel
theorem d_Mo_codeLine_944 : decode b_Mo_codeLine 944 = .ok (.iload 6, 2) := by decide +kernel
theorem d_Mo_codeLine_946 : decode b_Mo_codeLine 946 = .ok (.iload_n 3, 1) := by decide +kernel
theorem d_Mo_codeLine_947 : decode b_Mo_codeLine 947 = .ok (.iastore, 1) := by decide +kernel
theorem d_Mo_codeLine_948 : decode b_Mo_codeLine 948 = .ok (.aload_n 0, 1) := by decide +kernel
theorem d_Mo_codeLine_949 : decode b_Mo_codeLine 949 = .ok (.getfield 522, 3) := by decide +kernel
theorem d_Mo_codeLine_952 : decode b_Mo_codeLine 952 = .ok (.getfield 680, 3) := by decide +kernel
theorem d_Mo_codeLine_955 : decode b_Mo_codeLine 955 = .ok (.iload 6, 2) := by decide +kernel
theorem d_Mo_codeLine_957 : decode b_Mo_codeLine 957 = .ok (.iload 4, 2) := by decide +kernel
theorem d_Mo_codeLine_959 : decode b_Mo_codeLine 959 = .ok (.iastore, 1) := by decide +kernel
theorem d_Mo_codeLine_960 : decode b_Mo_codeLine 960 = .ok (.aload_n 0, 1) := by decide +kernel
theorem d_Mo_codeLine_961 : decode b_Mo_codeLine 961 = .ok (.getfield 522, 3) := by decide +kernel
theorem d_Mo_codeLine_964 : decode b_Mo_codeLine 964 = .ok (.getfield 683, 3) := by decide +kernel
theorem d_Mo_codeLine_967 : decode b_Mo_codeLine 967 = .ok (.iload 6, 2) := by decide +kernel
theorem d_Mo_codeLine_969 : decode b_Mo_codeLine 969 = .ok (.iload 5, 2) := by decide +kernel
theorem d_Mo_codeLine_971 : decode b_Mo_codeLine 971 = .ok (.iastore, 1) := by decide +kernel
theorem d_Mo_codeLine_972 : decode b_Mo_codeLine 972 = .ok (.aload_n 0, 1) := by decide +kernel
theorem d_Mo_codeLine_973 : decode b_Mo_codeLine 973 = .ok (.getfield 522, 3) := by decide +kernel
theorem d_Mo_codeLine_976 : decode b_Mo_codeLine 976 = .ok (.getfield 686, 3) := by decide +kernel
theorem d_Mo_codeLine_979 : decode b_Mo_codeLine 979 = .ok (.iload 6, 2) := by decide +kernel
theorem d_Mo_codeLine_981 : decode b_Mo_codeLine 981 = .ok (.aload_n 0, 1) := by decide +kernel
theorem d_Mo_codeLine_982 : decode b_Mo_codeLine 982 = .ok (.getfield 650, 3) := by decide +kernel
theorem d_Mo_codeLine_985 : decode b_Mo_codeLine 985 = .ok (.iastore, 1) := by decide +kernel
theorem d_Mo_codeLine_986 : decode b_Mo_codeLine 986 = .ok (.aload_n 0, 1) := by decide +kernel
theorem d_Mo_codeLine_987 : decode b_Mo_codeLine 987 = .ok (.iconst 0, 1) := by decide +kernel
theorem d_Mo_codeLine_988 : decode b_Mo_codeLine 988 = .ok (.putfield 650, 3) := by decide +kernel
theorem d_Mo_codeLine_991 : decode b_Mo_codeLine 991 = .ok (.aload_n 0, 1) := by decide +kernel
theorem d_Mo_codeLine_992 : decode b_Mo_codeLine 992 = .ok (.getfield 522, 3) := by decide +kernel
theorem d_Mo_codeLine_995 : decode b_Mo_codeLine 995 = .ok (.dup, 1) := by decide +kernel
theorem d_Mo_codeLine_996 : decode b_Mo_codeLine 996 = .ok (.getfield 471, 3) := by decide +kernel
theorem d_Mo_codeLine_999 : decode b_Mo_codeLine 999 = .ok (.iconst 1, 1) := by decide +kernel
theorem d_Mo_codeLine_1000 : decode b_Mo_codeLine 1000 = .ok (.iadd, 1) := by decide +kernel
theorem d_Mo_codeLine_1001 : decode b_Mo_codeLine 1001 = .ok (.putfield 471, 3) := by decide +kernel
theorem d_Mo_codeLine_1004 : decode b_Mo_codeLine 1004 = .ok (.aload_n 0, 1) := by decide +kernel
theorem d_Mo_codeLine_1005 : decode b_Mo_codeLine 1005 = .ok (.getfield 522, 3) := by decide +kernel
theorem d_Mo_codeLine_1008 : decode b_Mo_codeLine 1008 = .ok (.getfield 465, 3) := by decide +kernel
theorem d_Mo_codeLine_1011 : decode b_Mo_codeLine 1011 = .ok (.aload_n 0, 1) := by decide +kernel
theorem d_Mo_codeLine_1012 : decode b_Mo_codeLine 1012 = .ok (.getfield 642, 3) := by decide +kernel
theorem d_Mo_codeLine_1015 : decode b_Mo_codeLine 1015 = .ok (.dup2, 1) := by decide +kernel
theorem d_Mo_codeLine_1016 : decode b_Mo_codeLine 1016 = .ok (.iaload, 1) := by decide +kernel
theorem d_Mo_codeLine_1017 : decode b_Mo_codeLine 1017 = .ok (.iconst 1, 1) := by decide +kernel
theorem d_Mo_codeLine_1018 : decode b_Mo_codeLine 1018 = .ok (.iadd, 1) := by decide +kernel
theorem d_Mo_codeLine_1019 : decode b_Mo_codeLine 1019 = .ok (.iastore, 1) := by decide +kernel
theorem d_Mo_codeLine_1020 : decode b_Mo_codeLine 1020 = .ok (.return_, 1) := by decide +kernel
abbrev ra_Mo_codeLine (mc ms : Nat) : Room := { frames := 7, cells := mc, slots := ms, locals := 220 }
def wja_Mo_codeLine_808 (mc ms : Nat) (Post : Ly → St → Nat → Nat → Prop) (PX : Ly → St → Nat → Nat → Prop) (a0 : Nat) (y_j808 : Ly) (s_j808 : St) (d_j808 e_j808 : Nat) (x2j808 : Int32) (x3j808 : Int32) (x4j808 : Int32) (x5j808 : Int32) (z1j808 : Int32) (z2j808 : Int32) : Prop := (d_j808 ≤ mc ∧ e_j808 ≤ ms) ∧ wu_Mo_asks y_j808 (fun (s_19 : St) => ∃ b_20 : Nat, sO s_19 a0 45 = some b_20 ∧ cl b_20 = 13 ∧ xR mc ms d_j808 e_j808 .byte y_j808 s_19 b_20 30 ((sV s_19 b_20 35) + 1) (fun (y_23 : Ly) (s_24 : St) (d_25 e_26 : Nat) => (d_25 ≤ mc ∧ e_26 ≤ ms) ∧ ∃ b_27 : Nat, sO s_24 a0 45 = some b_27 ∧ cl b_27 = 13 ∧ xR mc ms d_25 e_26 .int y_23 s_24 b_27 31 ((sV s_19 b_20 35) + 1) (fun (y_30 : Ly) (s_31 : St) (d_32 e_33 : Nat) => (d_32 ≤ mc ∧ e_33 ≤ ms) ∧ ∃ b_34 : Nat, sO s_31 a0 45 = some b_34 ∧ cl b_34 = 13 ∧ xR mc ms d_32 e_33 .int y_30 s_31 b_34 32 ((sV s_19 b_20 35) + 1) (fun (y_37 : Ly) (s_38 : St) (d_39 e_40 : Nat) => (d_39 ≤ mc ∧ e_40 ≤ ms) ∧ ∃ b_41 : Nat, sO s_38 a0 45 = some b_41 ∧ cl b_41 = 13 ∧ xR mc ms d_39 e_40 .int y_37 s_38 b_41 33 ((sV s_19 b_20 35) + 1) (fun (y_44 : Ly) (s_45 : St) (d_46 e_47 : Nat) => (d_46 ≤ mc ∧ e_47 ≤ ms) ∧ ∃ b_48 : Nat, sO s_45 a0 45 = some b_48 ∧ cl b_48 = 13 ∧ xR mc ms d_46 e_47 .int y_44 s_45 b_48 34 ((sV s_19 b_20 35) + 1) (fun (y_51 : Ly) (s_52 : St) (d_53 e_54 : Nat) => (d_53 ≤ mc ∧ e_54 ≤ ms) ∧ ∃ b_55 : Nat, sO s_52 a0 45 = some b_55 ∧ cl b_55 = 13 ∧ xS y_51 s_52 b_55 30 (sV s_19 b_20 35) (vp_nar .byte x2j808.toInt8.toInt32) (fun s_58 : St => ∃ b_59 : Nat, sO s_58 a0 45 = some b_59 ∧ cl b_59 = 13 ∧ xS y_51 s_58 b_59 31 (sV s_19 b_20 35) x3j808 (fun s_62 : St => ∃ b_63 : Nat, sO s_62 a0 45 = some b_63 ∧ cl b_63 = 13 ∧ xS y_51 s_62 b_63 32 (sV s_19 b_20 35) x4j808 (fun s_66 : St => ∃ b_67 : Nat, sO s_66 a0 45 = some b_67 ∧ cl b_67 = 13 ∧ xS y_51 s_66 b_67 33 (sV s_19 b_20 35) x5j808 (fun s_70 : St => ∃ b_71 : Nat, sO s_70 a0 45 = some b_71 ∧ cl b_71 = 13 ∧ xS y_51 s_70 b_71 34 (sV s_19 b_20 35) (sV s_70 a0 65) (fun s_74 : St => xP (uV s_74 a0 65 0) (fun s_75 : St => ∃ b_76 : Nat, sO s_75 a0 45 = some b_76 ∧ cl b_76 = 13 ∧ xP (uV s_75 b_76 35 ((sV s_75 b_76 35) + 1)) (fun s_79 : St => ∃ b_80 : Nat, sO s_79 a0 45 = some b_80 ∧ cl b_80 = 13 ∧ xA y_51 s_79 b_80 24 (sV s_79 a0 54) (fun x_83 : Int32 => xS y_51 s_79 b_80 24 (sV s_79 a0 54) (x_83 + 1) (fun s_84 : St => Post y_51 s_84 d_53 e_54))))))))))))))) s_j808 a0 z1j808 z2j808
def wja_Mo_codeLine_789 (mc ms : Nat) (Post : Ly → St → Nat → Nat → Prop) (PX : Ly → St → Nat → Nat → Prop) (a0 : Nat) (y_j789 : Ly) (s_j789 : St) (d_j789 e_j789 : Nat) (x1j789 : Int32) (x2j789 : Int32) (x3j789 : Int32) (x4j789 : Int32) (x5j789 : Int32) : Prop := (d_j789 ≤ mc ∧ e_j789 ≤ ms) ∧ ∃ mc_15 ms_16 : Nat, (d_j789 + mc_15 ≤ mc ∧ e_j789 + ms_16 ≤ ms) ∧ wx_Mo_need mc_15 ms_16 y_j789 (fun (y_12 : Ly) (s_11 : St) (d_13 e_14 : Nat) => (d_j789 + d_13 ≤ mc ∧ e_j789 + e_14 ≤ ms) ∧ ((¬ x1j789 = 80 → wja_Mo_codeLine_808 mc ms Post PX a0 y_12 s_11 (d_j789 + d_13) (e_j789 + e_14) x2j789 x3j789 x4j789 x5j789 12 0) ∧ (x1j789 = 80 → wja_Mo_codeLine_808 mc ms Post PX a0 y_12 s_11 (d_j789 + d_13) (e_j789 + e_14) x2j789 x3j789 x4j789 x5j789 12 1))) (fun (y_12 : Ly) (s_11 : St) (d_13 e_14 : Nat) => ((d_j789 + d_13 ≤ mc ∧ e_j789 + e_14 ≤ ms) ∧ PX y_12 s_11 (d_j789 + d_13) (e_j789 + e_14))) s_j789 a0 0
def wba_Mo_codeLine_608 (mc ms : Nat) (Post : Ly → St → Nat → Nat → Prop) (PX : Ly → St → Nat → Nat → Prop) (K_608 : Ly → St → Nat → Nat → Int32 → Int32 → Int32 → Int32 → Prop) (a0 : Nat) (y_h608 : Ly) (s_h608 : St) (d_h608 e_h608 : Nat) (x1h608 : Int32) (x2h608 : Int32) (x3h608 : Int32) (x4h608 : Int32) : Prop := (d_h608 ≤ mc ∧ e_h608 ≤ ms) ∧ xA y_h608 s_h608 a0 39 (sV s_h608 a0 43) (fun x_304 : Int32 => ((¬ x_304 = 44 → ∃ b_305 : Nat, sO s_h608 a0 45 = some b_305 ∧ cl b_305 = 13 ∧ wja_Mo_codeLine_789 mc ms Post PX a0 y_h608 s_h608 d_h608 e_h608 x1h608 x2h608 x3h608 x4h608 ((sV s_h608 b_305 37) - x4h608)) ∧ (x_304 = 44 → xP (uV s_h608 a0 43 ((sV s_h608 a0 43) + 1)) (fun s_308 : St => ∃ mc_314 ms_315 : Nat, (d_h608 + mc_314 ≤ mc ∧ e_h608 + ms_315 ≤ ms) ∧ wx_Mo_usedLabel mc_314 ms_315 y_h608 (fun (y_311 : Ly) (s_310 : St) (r_309 : Int32) (d_312 e_313 : Nat) => (d_h608 + d_312 ≤ mc ∧ e_h608 + e_313 ≤ ms) ∧ ∃ mc_322 ms_323 : Nat, (d_h608 + d_312 + mc_322 ≤ mc ∧ e_h608 + e_313 + ms_323 ≤ ms) ∧ wa_Mo_addList mc_322 ms_323 y_311 (fun (y_319 : Ly) (s_318 : St) (d_320 e_321 : Nat) => (d_h608 + d_312 + d_320 ≤ mc ∧ e_h608 + e_313 + e_321 ≤ ms) ∧ K_608 y_319 s_318 (d_h608 + d_312 + d_320) (e_h608 + e_313 + e_321) x1h608 x2h608 x3h608 x4h608) s_310 a0 r_309) (fun (y_311 : Ly) (s_310 : St) (d_312 e_313 : Nat) => ((d_h608 + d_312 ≤ mc ∧ e_h608 + e_313 ≤ ms) ∧ PX y_311 s_310 (d_h608 + d_312) (e_h608 + e_313))) s_308 a0))))
def wla_Mo_codeLine_608 (mc ms : Nat) (Post : Ly → St → Nat → Nat → Prop) (PX : Ly → St → Nat → Nat → Prop) (a0 : Nat) (y_h608 : Ly) (s_h608 : St) (d_h608 e_h608 : Nat) (x1h608 : Int32) (x2h608 : Int32) (x3h608 : Int32) (x4h608 : Int32) : Prop := ∃ (I : Ly → St → Nat → Nat → Int32 → Int32 → Int32 → Int32 → Prop) (μ : Ly → St → Nat → Nat → Int32 → Int32 → Int32 → Int32 → Nat), I y_h608 s_h608 d_h608 e_h608 x1h608 x2h608 x3h608 x4h608 ∧ ∀ (u1 : Ly) (u2 : St) (u3 u4 : Nat) (t0 : Int32) (t1 : Int32) (t2 : Int32) (t3 : Int32), I u1 u2 u3 u4 t0 t1 t2 t3 → wba_Mo_codeLine_608 mc ms Post PX (fun z1 z2 z3 z4 t0q t1q t2q t3q => I z1 z2 z3 z4 t0q t1q t2q t3q ∧ μ z1 z2 z3 z4 t0q t1q t2q t3q < μ u1 u2 u3 u4 t0 t1 t2 t3) a0 u1 u2 u3 u4 t0 t1 t2 t3
def wja_Mo_codeLine_783 (mc ms : Nat) (Post : Ly → St → Nat → Nat → Prop) (PX : Ly → St → Nat → Nat → Prop) (a0 : Nat) (y_j783 : Ly) (s_j783 : St) (d_j783 e_j783 : Nat) (x1j783 : Int32) (x2j783 : Int32) (x3j783 : Int32) (x4j783 : Int32) (x5j783 : Int32) (z1j783 : Int32) (z2j783 : Int32) : Prop := (d_j783 ≤ mc ∧ e_j783 ≤ ms) ∧ wu_Mo_asks y_j783 (fun (s_488 : St) => wja_Mo_codeLine_789 mc ms Post PX a0 y_j783 s_488 d_j783 e_j783 x1j783 x2j783 x3j783 x4j783 x5j783) s_j783 a0 z1j783 z2j783
def wja_Mo_codeLine_757 (mc ms : Nat) (Post : Ly → St → Nat → Nat → Prop) (PX : Ly → St → Nat → Nat → Prop) (a0 : Nat) (y_j757 : Ly) (s_j757 : St) (d_j757 e_j757 : Nat) (x1j757 : Int32) (x2j757 : Int32) (x3j757 : Int32) (x4j757 : Int32) : Prop := (d_j757 ≤ mc ∧ e_j757 ≤ ms) ∧ ∃ mc_483 ms_484 : Nat, (d_j757 + mc_483 ≤ mc ∧ e_j757 + ms_484 ≤ ms) ∧ wx_Mo_wholeSignature mc_483 ms_484 y_j757 (fun (y_480 : Ly) (s_479 : St) (r_478 : Int32) (d_481 e_482 : Nat) => (d_j757 + d_481 ≤ mc ∧ e_j757 + e_482 ≤ ms) ∧ xA y_480 s_479 a0 31 r_478 (fun x_486 : Int32 => ((x_486 ≤ 6 → wja_Mo_codeLine_783 mc ms Post PX a0 y_480 s_479 (d_j757 + d_481) (e_j757 + e_482) x1j757 x2j757 x3j757 x4j757 r_478 12 0) ∧ (¬ (x_486 ≤ 6) → wja_Mo_codeLine_783 mc ms Post PX a0 y_480 s_479 (d_j757 + d_481) (e_j757 + e_482) x1j757 x2j757 x3j757 x4j757 r_478 12 1)))) (fun (y_480 : Ly) (s_479 : St) (d_481 e_482 : Nat) => ((d_j757 + d_481 ≤ mc ∧ e_j757 + e_482 ≤ ms) ∧ PX y_480 s_479 (d_j757 + d_481) (e_j757 + e_482))) s_j757 a0
def wja_Mo_codeLine_751 (mc ms : Nat) (Post : Ly → St → Nat → Nat → Prop) (PX : Ly → St → Nat → Nat → Prop) (a0 : Nat) (y_j751 : Ly) (s_j751 : St) (d_j751 e_j751 : Nat) (x1j751 : Int32) (x2j751 : Int32) (x3j751 : Int32) : Prop := (d_j751 ≤ mc ∧ e_j751 ≤ ms) ∧ ∃ mc_494 ms_495 : Nat, (d_j751 + mc_494 ≤ mc ∧ e_j751 + ms_495 ≤ ms) ∧ wx_Mo_plainName mc_494 ms_495 y_j751 (fun (y_491 : Ly) (s_490 : St) (r_489 : Int32) (d_492 e_493 : Nat) => (d_j751 + d_492 ≤ mc ∧ e_j751 + e_493 ≤ ms) ∧ wja_Mo_codeLine_757 mc ms Post PX a0 y_491 s_490 (d_j751 + d_492) (e_j751 + e_493) x1j751 x2j751 x3j751 r_489) (fun (y_491 : Ly) (s_490 : St) (d_492 e_493 : Nat) => ((d_j751 + d_492 ≤ mc ∧ e_j751 + e_493 ≤ ms) ∧ PX y_491 s_490 (d_j751 + d_492) (e_j751 + e_493))) s_j751 a0
def wja_Mo_codeLine_272 (mc ms : Nat) (Post : Ly → St → Nat → Nat → Prop) (PX : Ly → St → Nat → Nat → Prop) (a0 : Nat) (y_j272 : Ly) (s_j272 : St) (d_j272 e_j272 : Nat) (x1j272 : Int32) (x2j272 : Int32) : Prop := (d_j272 ≤ mc ∧ e_j272 ≤ ms) ∧ xP (uV s_j272 a0 43 ((sV s_j272 a0 43) + 1)) (fun s_9 : St => ((x2j272 = 1 → ∃ mc_90 ms_91 : Nat, (d_j272 + mc_90 ≤ mc ∧ e_j272 + ms_91 ≤ ms) ∧ wx_Mo_numberIn mc_90 ms_91 y_j272 (fun (y_87 : Ly) (s_86 : St) (r_85 : Int32) (d_88 e_89 : Nat) => (d_j272 + d_88 ≤ mc ∧ e_j272 + e_89 ≤ ms) ∧ wja_Mo_codeLine_789 mc ms Post PX a0 y_87 s_86 (d_j272 + d_88) (e_j272 + e_89) x1j272 x2j272 r_85 0 0) (fun (y_87 : Ly) (s_86 : St) (d_88 e_89 : Nat) => ((d_j272 + d_88 ≤ mc ∧ e_j272 + e_89 ≤ ms) ∧ PX y_87 s_86 (d_j272 + d_88) (e_j272 + e_89))) s_9 a0 (-2147483648) 2147483647) ∧ (¬ (x2j272 = 1) → ((x2j272 = 2 → wja_Mo_codeLine_789 mc ms Post PX a0 y_j272 s_9 d_j272 e_j272 x1j272 x2j272 0 0 0) ∧ (¬ (x2j272 = 2) → ((x2j272 = 3 → ∃ mc_98 ms_99 : Nat, (d_j272 + mc_98 ≤ mc ∧ e_j272 + ms_99 ≤ ms) ∧ wx_Mo_numberIn mc_98 ms_99 y_j272 (fun (y_95 : Ly) (s_94 : St) (r_93 : Int32) (d_96 e_97 : Nat) => (d_j272 + d_96 ≤ mc ∧ e_j272 + e_97 ≤ ms) ∧ wja_Mo_codeLine_789 mc ms Post PX a0 y_95 s_94 (d_j272 + d_96) (e_j272 + e_97) x1j272 x2j272 r_93 0 0) (fun (y_95 : Ly) (s_94 : St) (d_96 e_97 : Nat) => ((d_j272 + d_96 ≤ mc ∧ e_j272 + e_97 ≤ ms) ∧ PX y_95 s_94 (d_j272 + d_96) (e_j272 + e_97))) s_9 a0 0 19) ∧ (¬ (x2j272 = 3) → ((x2j272 = 4 → ∃ mc_106 ms_107 : Nat, (d_j272 + mc_106 ≤ mc ∧ e_j272 + ms_107 ≤ ms) ∧ wx_Mo_numberIn mc_106 ms_107 y_j272 (fun (y_103 : Ly) (s_102 : St) (r_101 : Int32) (d_104 e_105 : Nat) => (d_j272 + d_104 ≤ mc ∧ e_j272 + e_105 ≤ ms) ∧ wja_Mo_codeLine_789 mc ms Post PX a0 y_103 s_102 (d_j272 + d_104) (e_j272 + e_105) x1j272 x2j272 r_101 0 0) (fun (y_103 : Ly) (s_102 : St) (d_104 e_105 : Nat) => ((d_j272 + d_104 ≤ mc ∧ e_j272 + e_105 ≤ ms) ∧ PX y_103 s_102 (d_j272 + d_104) (e_j272 + e_105))) s_9 a0 0 19) ∧ (¬ (x2j272 = 4) → ((x2j272 = 5 → ∃ mc_114 ms_115 : Nat, (d_j272 + mc_114 ≤ mc ∧ e_j272 + ms_115 ≤ ms) ∧ wx_Mo_numberIn mc_114 ms_115 y_j272 (fun (y_111 : Ly) (s_110 : St) (r_109 : Int32) (d_112 e_113 : Nat) => (d_j272 + d_112 ≤ mc ∧ e_j272 + e_113 ≤ ms) ∧ wja_Mo_codeLine_789 mc ms Post PX a0 y_111 s_110 (d_j272 + d_112) (e_j272 + e_113) x1j272 x2j272 r_109 0 0) (fun (y_111 : Ly) (s_110 : St) (d_112 e_113 : Nat) => ((d_j272 + d_112 ≤ mc ∧ e_j272 + e_113 ≤ ms) ∧ PX y_111 s_110 (d_j272 + d_112) (e_j272 + e_113))) s_9 a0 0 19) ∧ (¬ (x2j272 = 5) → ((x2j272 = 6 → ∃ mc_122 ms_123 : Nat, (d_j272 + mc_122 ≤ mc ∧ e_j272 + ms_123 ≤ ms) ∧ wx_Mo_numberIn mc_122 ms_123 y_j272 (fun (y_119 : Ly) (s_118 : St) (r_117 : Int32) (d_120 e_121 : Nat) => (d_j272 + d_120 ≤ mc ∧ e_j272 + e_121 ≤ ms) ∧ wja_Mo_codeLine_789 mc ms Post PX a0 y_119 s_118 (d_j272 + d_120) (e_j272 + e_121) x1j272 x2j272 r_117 0 0) (fun (y_119 : Ly) (s_118 : St) (d_120 e_121 : Nat) => ((d_j272 + d_120 ≤ mc ∧ e_j272 + e_121 ≤ ms) ∧ PX y_119 s_118 (d_j272 + d_120) (e_j272 + e_121))) s_9 a0 0 19) ∧ (¬ (x2j272 = 6) → ((x2j272 = 7 → ∃ mc_130 ms_131 : Nat, (d_j272 + mc_130 ≤ mc ∧ e_j272 + ms_131 ≤ ms) ∧ wx_Mo_numberIn mc_130 ms_131 y_j272 (fun (y_127 : Ly) (s_126 : St) (r_125 : Int32) (d_128 e_129 : Nat) => (d_j272 + d_128 ≤ mc ∧ e_j272 + e_129 ≤ ms) ∧ ∃ mc_138 ms_139 : Nat, (d_j272 + d_128 + mc_138 ≤ mc ∧ e_j272 + e_129 + ms_139 ≤ ms) ∧ wx_Mo_numberIn mc_138 ms_139 y_127 (fun (y_135 : Ly) (s_134 : St) (r_133 : Int32) (d_136 e_137 : Nat) => (d_j272 + d_128 + d_136 ≤ mc ∧ e_j272 + e_129 + e_137 ≤ ms) ∧ wja_Mo_codeLine_789 mc ms Post PX a0 y_135 s_134 (d_j272 + d_128 + d_136) (e_j272 + e_129 + e_137) x1j272 x2j272 r_125 r_133 0) (fun (y_135 : Ly) (s_134 : St) (d_136 e_137 : Nat) => ((d_j272 + d_128 + d_136 ≤ mc ∧ e_j272 + e_129 + e_137 ≤ ms) ∧ PX y_135 s_134 (d_j272 + d_128 + d_136) (e_j272 + e_129 + e_137))) s_126 a0 (-2147483648) 2147483647) (fun (y_127 : Ly) (s_126 : St) (d_128 e_129 : Nat) => ((d_j272 + d_128 ≤ mc ∧ e_j272 + e_129 ≤ ms) ∧ PX y_127 s_126 (d_j272 + d_128) (e_j272 + e_129))) s_9 a0 0 19) ∧ (¬ (x2j272 = 7) → ((x2j272 = 8 → wja_Mo_codeLine_789 mc ms Post PX a0 y_j272 s_9 d_j272 e_j272 x1j272 x2j272 0 0 0) ∧ (¬ (x2j272 = 8) → ((x2j272 = 9 → wja_Mo_codeLine_789 mc ms Post PX a0 y_j272 s_9 d_j272 e_j272 x1j272 x2j272 0 0 0) ∧ (¬ (x2j272 = 9) → ((x2j272 = 10 → wja_Mo_codeLine_789 mc ms Post PX a0 y_j272 s_9 d_j272 e_j272 x1j272 x2j272 0 0 0) ∧ (¬ (x2j272 = 10) → ((x2j272 = 11 → wja_Mo_codeLine_789 mc ms Post PX a0 y_j272 s_9 d_j272 e_j272 x1j272 x2j272 0 0 0) ∧ (¬ (x2j272 = 11) → ((x2j272 = 12 → wja_Mo_codeLine_789 mc ms Post PX a0 y_j272 s_9 d_j272 e_j272 x1j272 x2j272 0 0 0) ∧ (¬ (x2j272 = 12) → ((x2j272 = 13 → wja_Mo_codeLine_789 mc ms Post PX a0 y_j272 s_9 d_j272 e_j272 x1j272 x2j272 0 0 0) ∧ (¬ (x2j272 = 13) → ((x2j272 = 14 → wja_Mo_codeLine_789 mc ms Post PX a0 y_j272 s_9 d_j272 e_j272 x1j272 x2j272 0 0 0) ∧ (¬ (x2j272 = 14) → ((x2j272 = 15 → wja_Mo_codeLine_789 mc ms Post PX a0 y_j272 s_9 d_j272 e_j272 x1j272 x2j272 0 0 0) ∧ (¬ (x2j272 = 15) → ((x2j272 = 16 → wja_Mo_codeLine_789 mc ms Post PX a0 y_j272 s_9 d_j272 e_j272 x1j272 x2j272 0 0 0) ∧ (¬ (x2j272 = 16) → ((x2j272 = 17 → wja_Mo_codeLine_789 mc ms Post PX a0 y_j272 s_9 d_j272 e_j272 x1j272 x2j272 0 0 0) ∧ (¬ (x2j272 = 17) → ((x2j272 = 18 → wja_Mo_codeLine_789 mc ms Post PX a0 y_j272 s_9 d_j272 e_j272 x1j272 x2j272 0 0 0) ∧ (¬ (x2j272 = 18) → ((x2j272 = 19 → wja_Mo_codeLine_789 mc ms Post PX a0 y_j272 s_9 d_j272 e_j272 x1j272 x2j272 0 0 0) ∧ (¬ (x2j272 = 19) → ((x2j272 = 20 → wja_Mo_codeLine_789 mc ms Post PX a0 y_j272 s_9 d_j272 e_j272 x1j272 x2j272 0 0 0) ∧ (¬ (x2j272 = 20) → ((x2j272 = 21 → wja_Mo_codeLine_789 mc ms Post PX a0 y_j272 s_9 d_j272 e_j272 x1j272 x2j272 0 0 0) ∧ (¬ (x2j272 = 21) → ((x2j272 = 22 → wja_Mo_codeLine_789 mc ms Post PX a0 y_j272 s_9 d_j272 e_j272 x1j272 x2j272 0 0 0) ∧ (¬ (x2j272 = 22) → ((x2j272 = 23 → ∃ mc_146 ms_147 : Nat, (d_j272 + mc_146 ≤ mc ∧ e_j272 + ms_147 ≤ ms) ∧ wx_Mo_usedLabel mc_146 ms_147 y_j272 (fun (y_143 : Ly) (s_142 : St) (r_141 : Int32) (d_144 e_145 : Nat) => (d_j272 + d_144 ≤ mc ∧ e_j272 + e_145 ≤ ms) ∧ wja_Mo_codeLine_789 mc ms Post PX a0 y_143 s_142 (d_j272 + d_144) (e_j272 + e_145) x1j272 x2j272 r_141 0 0) (fun (y_143 : Ly) (s_142 : St) (d_144 e_145 : Nat) => ((d_j272 + d_144 ≤ mc ∧ e_j272 + e_145 ≤ ms) ∧ PX y_143 s_142 (d_j272 + d_144) (e_j272 + e_145))) s_9 a0) ∧ (¬ (x2j272 = 23) → ((x2j272 = 24 → ∃ mc_154 ms_155 : Nat, (d_j272 + mc_154 ≤ mc ∧ e_j272 + ms_155 ≤ ms) ∧ wx_Mo_usedLabel mc_154 ms_155 y_j272 (fun (y_151 : Ly) (s_150 : St) (r_149 : Int32) (d_152 e_153 : Nat) => (d_j272 + d_152 ≤ mc ∧ e_j272 + e_153 ≤ ms) ∧ wja_Mo_codeLine_789 mc ms Post PX a0 y_151 s_150 (d_j272 + d_152) (e_j272 + e_153) x1j272 x2j272 r_149 0 0) (fun (y_151 : Ly) (s_150 : St) (d_152 e_153 : Nat) => ((d_j272 + d_152 ≤ mc ∧ e_j272 + e_153 ≤ ms) ∧ PX y_151 s_150 (d_j272 + d_152) (e_j272 + e_153))) s_9 a0) ∧ (¬ (x2j272 = 24) → ((x2j272 = 25 → ∃ mc_162 ms_163 : Nat, (d_j272 + mc_162 ≤ mc ∧ e_j272 + ms_163 ≤ ms) ∧ wx_Mo_usedLabel mc_162 ms_163 y_j272 (fun (y_159 : Ly) (s_158 : St) (r_157 : Int32) (d_160 e_161 : Nat) => (d_j272 + d_160 ≤ mc ∧ e_j272 + e_161 ≤ ms) ∧ wja_Mo_codeLine_789 mc ms Post PX a0 y_159 s_158 (d_j272 + d_160) (e_j272 + e_161) x1j272 x2j272 r_157 0 0) (fun (y_159 : Ly) (s_158 : St) (d_160 e_161 : Nat) => ((d_j272 + d_160 ≤ mc ∧ e_j272 + e_161 ≤ ms) ∧ PX y_159 s_158 (d_j272 + d_160) (e_j272 + e_161))) s_9 a0) ∧ (¬ (x2j272 = 25) → ((x2j272 = 26 → ∃ mc_170 ms_171 : Nat, (d_j272 + mc_170 ≤ mc ∧ e_j272 + ms_171 ≤ ms) ∧ wx_Mo_usedLabel mc_170 ms_171 y_j272 (fun (y_167 : Ly) (s_166 : St) (r_165 : Int32) (d_168 e_169 : Nat) => (d_j272 + d_168 ≤ mc ∧ e_j272 + e_169 ≤ ms) ∧ wja_Mo_codeLine_789 mc ms Post PX a0 y_167 s_166 (d_j272 + d_168) (e_j272 + e_169) x1j272 x2j272 r_165 0 0) (fun (y_167 : Ly) (s_166 : St) (d_168 e_169 : Nat) => ((d_j272 + d_168 ≤ mc ∧ e_j272 + e_169 ≤ ms) ∧ PX y_167 s_166 (d_j272 + d_168) (e_j272 + e_169))) s_9 a0) ∧ (¬ (x2j272 = 26) → ((x2j272 = 27 → ∃ mc_178 ms_179 : Nat, (d_j272 + mc_178 ≤ mc ∧ e_j272 + ms_179 ≤ ms) ∧ wx_Mo_usedLabel mc_178 ms_179 y_j272 (fun (y_175 : Ly) (s_174 : St) (r_173 : Int32) (d_176 e_177 : Nat) => (d_j272 + d_176 ≤ mc ∧ e_j272 + e_177 ≤ ms) ∧ wja_Mo_codeLine_789 mc ms Post PX a0 y_175 s_174 (d_j272 + d_176) (e_j272 + e_177) x1j272 x2j272 r_173 0 0) (fun (y_175 : Ly) (s_174 : St) (d_176 e_177 : Nat) => ((d_j272 + d_176 ≤ mc ∧ e_j272 + e_177 ≤ ms) ∧ PX y_175 s_174 (d_j272 + d_176) (e_j272 + e_177))) s_9 a0) ∧ (¬ (x2j272 = 27) → ((x2j272 = 28 → ∃ mc_186 ms_187 : Nat, (d_j272 + mc_186 ≤ mc ∧ e_j272 + ms_187 ≤ ms) ∧ wx_Mo_usedLabel mc_186 ms_187 y_j272 (fun (y_183 : Ly) (s_182 : St) (r_181 : Int32) (d_184 e_185 : Nat) => (d_j272 + d_184 ≤ mc ∧ e_j272 + e_185 ≤ ms) ∧ wja_Mo_codeLine_789 mc ms Post PX a0 y_183 s_182 (d_j272 + d_184) (e_j272 + e_185) x1j272 x2j272 r_181 0 0) (fun (y_183 : Ly) (s_182 : St) (d_184 e_185 : Nat) => ((d_j272 + d_184 ≤ mc ∧ e_j272 + e_185 ≤ ms) ∧ PX y_183 s_182 (d_j272 + d_184) (e_j272 + e_185))) s_9 a0) ∧ (¬ (x2j272 = 28) → ((x2j272 = 29 → ∃ mc_194 ms_195 : Nat, (d_j272 + mc_194 ≤ mc ∧ e_j272 + ms_195 ≤ ms) ∧ wx_Mo_usedLabel mc_194 ms_195 y_j272 (fun (y_191 : Ly) (s_190 : St) (r_189 : Int32) (d_192 e_193 : Nat) => (d_j272 + d_192 ≤ mc ∧ e_j272 + e_193 ≤ ms) ∧ wja_Mo_codeLine_789 mc ms Post PX a0 y_191 s_190 (d_j272 + d_192) (e_j272 + e_193) x1j272 x2j272 r_189 0 0) (fun (y_191 : Ly) (s_190 : St) (d_192 e_193 : Nat) => ((d_j272 + d_192 ≤ mc ∧ e_j272 + e_193 ≤ ms) ∧ PX y_191 s_190 (d_j272 + d_192) (e_j272 + e_193))) s_9 a0) ∧ (¬ (x2j272 = 29) → ((x2j272 = 30 → ∃ mc_202 ms_203 : Nat, (d_j272 + mc_202 ≤ mc ∧ e_j272 + ms_203 ≤ ms) ∧ wx_Mo_usedLabel mc_202 ms_203 y_j272 (fun (y_199 : Ly) (s_198 : St) (r_197 : Int32) (d_200 e_201 : Nat) => (d_j272 + d_200 ≤ mc ∧ e_j272 + e_201 ≤ ms) ∧ wja_Mo_codeLine_789 mc ms Post PX a0 y_199 s_198 (d_j272 + d_200) (e_j272 + e_201) x1j272 x2j272 r_197 0 0) (fun (y_199 : Ly) (s_198 : St) (d_200 e_201 : Nat) => ((d_j272 + d_200 ≤ mc ∧ e_j272 + e_201 ≤ ms) ∧ PX y_199 s_198 (d_j272 + d_200) (e_j272 + e_201))) s_9 a0) ∧ (¬ (x2j272 = 30) → ((x2j272 = 31 → ∃ mc_210 ms_211 : Nat, (d_j272 + mc_210 ≤ mc ∧ e_j272 + ms_211 ≤ ms) ∧ wx_Mo_usedLabel mc_210 ms_211 y_j272 (fun (y_207 : Ly) (s_206 : St) (r_205 : Int32) (d_208 e_209 : Nat) => (d_j272 + d_208 ≤ mc ∧ e_j272 + e_209 ≤ ms) ∧ wja_Mo_codeLine_789 mc ms Post PX a0 y_207 s_206 (d_j272 + d_208) (e_j272 + e_209) x1j272 x2j272 r_205 0 0) (fun (y_207 : Ly) (s_206 : St) (d_208 e_209 : Nat) => ((d_j272 + d_208 ≤ mc ∧ e_j272 + e_209 ≤ ms) ∧ PX y_207 s_206 (d_j272 + d_208) (e_j272 + e_209))) s_9 a0) ∧ (¬ (x2j272 = 31) → ((x2j272 = 32 → ∃ mc_218 ms_219 : Nat, (d_j272 + mc_218 ≤ mc ∧ e_j272 + ms_219 ≤ ms) ∧ wx_Mo_usedLabel mc_218 ms_219 y_j272 (fun (y_215 : Ly) (s_214 : St) (r_213 : Int32) (d_216 e_217 : Nat) => (d_j272 + d_216 ≤ mc ∧ e_j272 + e_217 ≤ ms) ∧ wja_Mo_codeLine_789 mc ms Post PX a0 y_215 s_214 (d_j272 + d_216) (e_j272 + e_217) x1j272 x2j272 r_213 0 0) (fun (y_215 : Ly) (s_214 : St) (d_216 e_217 : Nat) => ((d_j272 + d_216 ≤ mc ∧ e_j272 + e_217 ≤ ms) ∧ PX y_215 s_214 (d_j272 + d_216) (e_j272 + e_217))) s_9 a0) ∧ (¬ (x2j272 = 32) → ((x2j272 = 33 → ∃ mc_226 ms_227 : Nat, (d_j272 + mc_226 ≤ mc ∧ e_j272 + ms_227 ≤ ms) ∧ wx_Mo_usedLabel mc_226 ms_227 y_j272 (fun (y_223 : Ly) (s_222 : St) (r_221 : Int32) (d_224 e_225 : Nat) => (d_j272 + d_224 ≤ mc ∧ e_j272 + e_225 ≤ ms) ∧ wja_Mo_codeLine_789 mc ms Post PX a0 y_223 s_222 (d_j272 + d_224) (e_j272 + e_225) x1j272 x2j272 r_221 0 0) (fun (y_223 : Ly) (s_222 : St) (d_224 e_225 : Nat) => ((d_j272 + d_224 ≤ mc ∧ e_j272 + e_225 ≤ ms) ∧ PX y_223 s_222 (d_j272 + d_224) (e_j272 + e_225))) s_9 a0) ∧ (¬ (x2j272 = 33) → ((x2j272 = 34 → ∃ mc_234 ms_235 : Nat, (d_j272 + mc_234 ≤ mc ∧ e_j272 + ms_235 ≤ ms) ∧ wx_Mo_usedLabel mc_234 ms_235 y_j272 (fun (y_231 : Ly) (s_230 : St) (r_229 : Int32) (d_232 e_233 : Nat) => (d_j272 + d_232 ≤ mc ∧ e_j272 + e_233 ≤ ms) ∧ wja_Mo_codeLine_789 mc ms Post PX a0 y_231 s_230 (d_j272 + d_232) (e_j272 + e_233) x1j272 x2j272 r_229 0 0) (fun (y_231 : Ly) (s_230 : St) (d_232 e_233 : Nat) => ((d_j272 + d_232 ≤ mc ∧ e_j272 + e_233 ≤ ms) ∧ PX y_231 s_230 (d_j272 + d_232) (e_j272 + e_233))) s_9 a0) ∧ (¬ (x2j272 = 34) → ((x2j272 = 35 → ∃ mc_242 ms_243 : Nat, (d_j272 + mc_242 ≤ mc ∧ e_j272 + ms_243 ≤ ms) ∧ wx_Mo_usedLabel mc_242 ms_243 y_j272 (fun (y_239 : Ly) (s_238 : St) (r_237 : Int32) (d_240 e_241 : Nat) => (d_j272 + d_240 ≤ mc ∧ e_j272 + e_241 ≤ ms) ∧ wja_Mo_codeLine_789 mc ms Post PX a0 y_239 s_238 (d_j272 + d_240) (e_j272 + e_241) x1j272 x2j272 r_237 0 0) (fun (y_239 : Ly) (s_238 : St) (d_240 e_241 : Nat) => ((d_j272 + d_240 ≤ mc ∧ e_j272 + e_241 ≤ ms) ∧ PX y_239 s_238 (d_j272 + d_240) (e_j272 + e_241))) s_9 a0) ∧ (¬ (x2j272 = 35) → ((x2j272 = 36 → ∃ mc_250 ms_251 : Nat, (d_j272 + mc_250 ≤ mc ∧ e_j272 + ms_251 ≤ ms) ∧ wx_Mo_usedLabel mc_250 ms_251 y_j272 (fun (y_247 : Ly) (s_246 : St) (r_245 : Int32) (d_248 e_249 : Nat) => (d_j272 + d_248 ≤ mc ∧ e_j272 + e_249 ≤ ms) ∧ wja_Mo_codeLine_789 mc ms Post PX a0 y_247 s_246 (d_j272 + d_248) (e_j272 + e_249) x1j272 x2j272 r_245 0 0) (fun (y_247 : Ly) (s_246 : St) (d_248 e_249 : Nat) => ((d_j272 + d_248 ≤ mc ∧ e_j272 + e_249 ≤ ms) ∧ PX y_247 s_246 (d_j272 + d_248) (e_j272 + e_249))) s_9 a0) ∧ (¬ (x2j272 = 36) → ((x2j272 = 37 → ∃ mc_258 ms_259 : Nat, (d_j272 + mc_258 ≤ mc ∧ e_j272 + ms_259 ≤ ms) ∧ wx_Mo_usedLabel mc_258 ms_259 y_j272 (fun (y_255 : Ly) (s_254 : St) (r_253 : Int32) (d_256 e_257 : Nat) => (d_j272 + d_256 ≤ mc ∧ e_j272 + e_257 ≤ ms) ∧ wja_Mo_codeLine_789 mc ms Post PX a0 y_255 s_254 (d_j272 + d_256) (e_j272 + e_257) x1j272 x2j272 r_253 0 0) (fun (y_255 : Ly) (s_254 : St) (d_256 e_257 : Nat) => ((d_j272 + d_256 ≤ mc ∧ e_j272 + e_257 ≤ ms) ∧ PX y_255 s_254 (d_j272 + d_256) (e_j272 + e_257))) s_9 a0) ∧ (¬ (x2j272 = 37) → ((x2j272 = 38 → ∃ mc_266 ms_267 : Nat, (d_j272 + mc_266 ≤ mc ∧ e_j272 + ms_267 ≤ ms) ∧ wx_Mo_usedLabel mc_266 ms_267 y_j272 (fun (y_263 : Ly) (s_262 : St) (r_261 : Int32) (d_264 e_265 : Nat) => (d_j272 + d_264 ≤ mc ∧ e_j272 + e_265 ≤ ms) ∧ wja_Mo_codeLine_789 mc ms Post PX a0 y_263 s_262 (d_j272 + d_264) (e_j272 + e_265) x1j272 x2j272 r_261 0 0) (fun (y_263 : Ly) (s_262 : St) (d_264 e_265 : Nat) => ((d_j272 + d_264 ≤ mc ∧ e_j272 + e_265 ≤ ms) ∧ PX y_263 s_262 (d_j272 + d_264) (e_j272 + e_265))) s_9 a0) ∧ (¬ (x2j272 = 38) → ((x2j272 = 39 → ∃ mc_274 ms_275 : Nat, (d_j272 + mc_274 ≤ mc ∧ e_j272 + ms_275 ≤ ms) ∧ wx_Mo_usedLabel mc_274 ms_275 y_j272 (fun (y_271 : Ly) (s_270 : St) (r_269 : Int32) (d_272 e_273 : Nat) => (d_j272 + d_272 ≤ mc ∧ e_j272 + e_273 ≤ ms) ∧ wja_Mo_codeLine_789 mc ms Post PX a0 y_271 s_270 (d_j272 + d_272) (e_j272 + e_273) x1j272 x2j272 r_269 0 0) (fun (y_271 : Ly) (s_270 : St) (d_272 e_273 : Nat) => ((d_j272 + d_272 ≤ mc ∧ e_j272 + e_273 ≤ ms) ∧ PX y_271 s_270 (d_j272 + d_272) (e_j272 + e_273))) s_9 a0) ∧ (¬ (x2j272 = 39) → ((x2j272 = 40 → ∃ mc_282 ms_283 : Nat, (d_j272 + mc_282 ≤ mc ∧ e_j272 + ms_283 ≤ ms) ∧ wx_Mo_numberIn mc_282 ms_283 y_j272 (fun (y_279 : Ly) (s_278 : St) (r_277 : Int32) (d_280 e_281 : Nat) => (d_j272 + d_280 ≤ mc ∧ e_j272 + e_281 ≤ ms) ∧ ∃ b_285 : Nat, sO s_278 a0 45 = some b_285 ∧ cl b_285 = 13 ∧ ∃ mc_293 ms_294 : Nat, (d_j272 + d_280 + mc_293 ≤ mc ∧ e_j272 + e_281 + ms_294 ≤ ms) ∧ wx_Mo_usedLabel mc_293 ms_294 y_279 (fun (y_290 : Ly) (s_289 : St) (r_288 : Int32) (d_291 e_292 : Nat) => (d_j272 + d_280 + d_291 ≤ mc ∧ e_j272 + e_281 + e_292 ≤ ms) ∧ ∃ mc_301 ms_302 : Nat, (d_j272 + d_280 + d_291 + mc_301 ≤ mc ∧ e_j272 + e_281 + e_292 + ms_302 ≤ ms) ∧ wa_Mo_addList mc_301 ms_302 y_290 (fun (y_298 : Ly) (s_297 : St) (d_299 e_300 : Nat) => (d_j272 + d_280 + d_291 + d_299 ≤ mc ∧ e_j272 + e_281 + e_292 + e_300 ≤ ms) ∧ wla_Mo_codeLine_608 mc ms Post PX a0 y_298 s_297 (d_j272 + d_280 + d_291 + d_299) (e_j272 + e_281 + e_292 + e_300) x1j272 x2j272 r_277 (sV s_278 b_285 37)) s_289 a0 r_288) (fun (y_290 : Ly) (s_289 : St) (d_291 e_292 : Nat) => ((d_j272 + d_280 + d_291 ≤ mc ∧ e_j272 + e_281 + e_292 ≤ ms) ∧ PX y_290 s_289 (d_j272 + d_280 + d_291) (e_j272 + e_281 + e_292))) s_278 a0) (fun (y_279 : Ly) (s_278 : St) (d_280 e_281 : Nat) => ((d_j272 + d_280 ≤ mc ∧ e_j272 + e_281 ≤ ms) ∧ PX y_279 s_278 (d_j272 + d_280) (e_j272 + e_281))) s_9 a0 (-2147483648) 2147483647) ∧ (¬ (x2j272 = 40) → ((x2j272 = 41 → ∃ mc_330 ms_331 : Nat, (d_j272 + mc_330 ≤ mc ∧ e_j272 + ms_331 ≤ ms) ∧ wx_Mo_className mc_330 ms_331 y_j272 (fun (y_327 : Ly) (s_326 : St) (r_325 : Int32) (d_328 e_329 : Nat) => (d_j272 + d_328 ≤ mc ∧ e_j272 + e_329 ≤ ms) ∧ wja_Mo_codeLine_789 mc ms Post PX a0 y_327 s_326 (d_j272 + d_328) (e_j272 + e_329) x1j272 x2j272 r_325 0 0) (fun (y_327 : Ly) (s_326 : St) (d_328 e_329 : Nat) => ((d_j272 + d_328 ≤ mc ∧ e_j272 + e_329 ≤ ms) ∧ PX y_327 s_326 (d_j272 + d_328) (e_j272 + e_329))) s_9 a0) ∧ (¬ (x2j272 = 41) → ((x2j272 = 42 → wja_Mo_codeLine_789 mc ms Post PX a0 y_j272 s_9 d_j272 e_j272 x1j272 x2j272 0 0 0) ∧ (¬ (x2j272 = 42) → ((x2j272 = 43 → wja_Mo_codeLine_789 mc ms Post PX a0 y_j272 s_9 d_j272 e_j272 x1j272 x2j272 0 0 0) ∧ (¬ (x2j272 = 43) → ((x2j272 = 44 → wja_Mo_codeLine_789 mc ms Post PX a0 y_j272 s_9 d_j272 e_j272 x1j272 x2j272 0 0 0) ∧ (¬ (x2j272 = 44) → ((x2j272 = 45 → wja_Mo_codeLine_789 mc ms Post PX a0 y_j272 s_9 d_j272 e_j272 x1j272 x2j272 0 0 0) ∧ (¬ (x2j272 = 45) → ((x2j272 = 46 → ∃ mc_338 ms_339 : Nat, (d_j272 + mc_338 ≤ mc ∧ e_j272 + ms_339 ≤ ms) ∧ wx_Mo_className mc_338 ms_339 y_j272 (fun (y_335 : Ly) (s_334 : St) (r_333 : Int32) (d_336 e_337 : Nat) => (d_j272 + d_336 ≤ mc ∧ e_j272 + e_337 ≤ ms) ∧ ∃ mc_346 ms_347 : Nat, (d_j272 + d_336 + mc_346 ≤ mc ∧ e_j272 + e_337 + ms_347 ≤ ms) ∧ wx_Mo_need mc_346 ms_347 y_335 (fun (y_343 : Ly) (s_342 : St) (d_344 e_345 : Nat) => (d_j272 + d_336 + d_344 ≤ mc ∧ e_j272 + e_337 + e_345 ≤ ms) ∧ ∃ mc_354 ms_355 : Nat, (d_j272 + d_336 + d_344 + mc_354 ≤ mc ∧ e_j272 + e_337 + e_345 + ms_355 ≤ ms) ∧ wx_Mo_plainName mc_354 ms_355 y_343 (fun (y_351 : Ly) (s_350 : St) (r_349 : Int32) (d_352 e_353 : Nat) => (d_j272 + d_336 + d_344 + d_352 ≤ mc ∧ e_j272 + e_337 + e_345 + e_353 ≤ ms) ∧ ∃ mc_362 ms_363 : Nat, (d_j272 + d_336 + d_344 + d_352 + mc_362 ≤ mc ∧ e_j272 + e_337 + e_345 + e_353 + ms_363 ≤ ms) ∧ wx_Mo_type mc_362 ms_363 y_351 (fun (y_359 : Ly) (s_358 : St) (r_357 : Int32) (d_360 e_361 : Nat) => (d_j272 + d_336 + d_344 + d_352 + d_360 ≤ mc ∧ e_j272 + e_337 + e_345 + e_353 + e_361 ≤ ms) ∧ wja_Mo_codeLine_789 mc ms Post PX a0 y_359 s_358 (d_j272 + d_336 + d_344 + d_352 + d_360) (e_j272 + e_337 + e_345 + e_353 + e_361) x1j272 x2j272 r_333 r_349 r_357) (fun (y_359 : Ly) (s_358 : St) (d_360 e_361 : Nat) => ((d_j272 + d_336 + d_344 + d_352 + d_360 ≤ mc ∧ e_j272 + e_337 + e_345 + e_353 + e_361 ≤ ms) ∧ PX y_359 s_358 (d_j272 + d_336 + d_344 + d_352 + d_360) (e_j272 + e_337 + e_345 + e_353 + e_361))) s_350 a0) (fun (y_351 : Ly) (s_350 : St) (d_352 e_353 : Nat) => ((d_j272 + d_336 + d_344 + d_352 ≤ mc ∧ e_j272 + e_337 + e_345 + e_353 ≤ ms) ∧ PX y_351 s_350 (d_j272 + d_336 + d_344 + d_352) (e_j272 + e_337 + e_345 + e_353))) s_342 a0) (fun (y_343 : Ly) (s_342 : St) (d_344 e_345 : Nat) => ((d_j272 + d_336 + d_344 ≤ mc ∧ e_j272 + e_337 + e_345 ≤ ms) ∧ PX y_343 s_342 (d_j272 + d_336 + d_344) (e_j272 + e_337 + e_345))) s_334 a0 46) (fun (y_335 : Ly) (s_334 : St) (d_336 e_337 : Nat) => ((d_j272 + d_336 ≤ mc ∧ e_j272 + e_337 ≤ ms) ∧ PX y_335 s_334 (d_j272 + d_336) (e_j272 + e_337))) s_9 a0) ∧ (¬ (x2j272 = 46) → ((x2j272 = 47 → ∃ mc_370 ms_371 : Nat, (d_j272 + mc_370 ≤ mc ∧ e_j272 + ms_371 ≤ ms) ∧ wx_Mo_className mc_370 ms_371 y_j272 (fun (y_367 : Ly) (s_366 : St) (r_365 : Int32) (d_368 e_369 : Nat) => (d_j272 + d_368 ≤ mc ∧ e_j272 + e_369 ≤ ms) ∧ ∃ mc_378 ms_379 : Nat, (d_j272 + d_368 + mc_378 ≤ mc ∧ e_j272 + e_369 + ms_379 ≤ ms) ∧ wx_Mo_need mc_378 ms_379 y_367 (fun (y_375 : Ly) (s_374 : St) (d_376 e_377 : Nat) => (d_j272 + d_368 + d_376 ≤ mc ∧ e_j272 + e_369 + e_377 ≤ ms) ∧ ∃ mc_386 ms_387 : Nat, (d_j272 + d_368 + d_376 + mc_386 ≤ mc ∧ e_j272 + e_369 + e_377 + ms_387 ≤ ms) ∧ wx_Mo_plainName mc_386 ms_387 y_375 (fun (y_383 : Ly) (s_382 : St) (r_381 : Int32) (d_384 e_385 : Nat) => (d_j272 + d_368 + d_376 + d_384 ≤ mc ∧ e_j272 + e_369 + e_377 + e_385 ≤ ms) ∧ ∃ mc_394 ms_395 : Nat, (d_j272 + d_368 + d_376 + d_384 + mc_394 ≤ mc ∧ e_j272 + e_369 + e_377 + e_385 + ms_395 ≤ ms) ∧ wx_Mo_type mc_394 ms_395 y_383 (fun (y_391 : Ly) (s_390 : St) (r_389 : Int32) (d_392 e_393 : Nat) => (d_j272 + d_368 + d_376 + d_384 + d_392 ≤ mc ∧ e_j272 + e_369 + e_377 + e_385 + e_393 ≤ ms) ∧ wja_Mo_codeLine_789 mc ms Post PX a0 y_391 s_390 (d_j272 + d_368 + d_376 + d_384 + d_392) (e_j272 + e_369 + e_377 + e_385 + e_393) x1j272 x2j272 r_365 r_381 r_389) (fun (y_391 : Ly) (s_390 : St) (d_392 e_393 : Nat) => ((d_j272 + d_368 + d_376 + d_384 + d_392 ≤ mc ∧ e_j272 + e_369 + e_377 + e_385 + e_393 ≤ ms) ∧ PX y_391 s_390 (d_j272 + d_368 + d_376 + d_384 + d_392) (e_j272 + e_369 + e_377 + e_385 + e_393))) s_382 a0) (fun (y_383 : Ly) (s_382 : St) (d_384 e_385 : Nat) => ((d_j272 + d_368 + d_376 + d_384 ≤ mc ∧ e_j272 + e_369 + e_377 + e_385 ≤ ms) ∧ PX y_383 s_382 (d_j272 + d_368 + d_376 + d_384) (e_j272 + e_369 + e_377 + e_385))) s_374 a0) (fun (y_375 : Ly) (s_374 : St) (d_376 e_377 : Nat) => ((d_j272 + d_368 + d_376 ≤ mc ∧ e_j272 + e_369 + e_377 ≤ ms) ∧ PX y_375 s_374 (d_j272 + d_368 + d_376) (e_j272 + e_369 + e_377))) s_366 a0 46) (fun (y_367 : Ly) (s_366 : St) (d_368 e_369 : Nat) => ((d_j272 + d_368 ≤ mc ∧ e_j272 + e_369 ≤ ms) ∧ PX y_367 s_366 (d_j272 + d_368) (e_j272 + e_369))) s_9 a0) ∧ (¬ (x2j272 = 47) → ((x2j272 = 48 → ∃ mc_402 ms_403 : Nat, (d_j272 + mc_402 ≤ mc ∧ e_j272 + ms_403 ≤ ms) ∧ wx_Mo_className mc_402 ms_403 y_j272 (fun (y_399 : Ly) (s_398 : St) (r_397 : Int32) (d_400 e_401 : Nat) => (d_j272 + d_400 ≤ mc ∧ e_j272 + e_401 ≤ ms) ∧ ∃ mc_410 ms_411 : Nat, (d_j272 + d_400 + mc_410 ≤ mc ∧ e_j272 + e_401 + ms_411 ≤ ms) ∧ wx_Mo_need mc_410 ms_411 y_399 (fun (y_407 : Ly) (s_406 : St) (d_408 e_409 : Nat) => (d_j272 + d_400 + d_408 ≤ mc ∧ e_j272 + e_401 + e_409 ≤ ms) ∧ ∃ mc_418 ms_419 : Nat, (d_j272 + d_400 + d_408 + mc_418 ≤ mc ∧ e_j272 + e_401 + e_409 + ms_419 ≤ ms) ∧ wx_Mo_plainName mc_418 ms_419 y_407 (fun (y_415 : Ly) (s_414 : St) (r_413 : Int32) (d_416 e_417 : Nat) => (d_j272 + d_400 + d_408 + d_416 ≤ mc ∧ e_j272 + e_401 + e_409 + e_417 ≤ ms) ∧ ∃ mc_426 ms_427 : Nat, (d_j272 + d_400 + d_408 + d_416 + mc_426 ≤ mc ∧ e_j272 + e_401 + e_409 + e_417 + ms_427 ≤ ms) ∧ wx_Mo_type mc_426 ms_427 y_415 (fun (y_423 : Ly) (s_422 : St) (r_421 : Int32) (d_424 e_425 : Nat) => (d_j272 + d_400 + d_408 + d_416 + d_424 ≤ mc ∧ e_j272 + e_401 + e_409 + e_417 + e_425 ≤ ms) ∧ wja_Mo_codeLine_789 mc ms Post PX a0 y_423 s_422 (d_j272 + d_400 + d_408 + d_416 + d_424) (e_j272 + e_401 + e_409 + e_417 + e_425) x1j272 x2j272 r_397 r_413 r_421) (fun (y_423 : Ly) (s_422 : St) (d_424 e_425 : Nat) => ((d_j272 + d_400 + d_408 + d_416 + d_424 ≤ mc ∧ e_j272 + e_401 + e_409 + e_417 + e_425 ≤ ms) ∧ PX y_423 s_422 (d_j272 + d_400 + d_408 + d_416 + d_424) (e_j272 + e_401 + e_409 + e_417 + e_425))) s_414 a0) (fun (y_415 : Ly) (s_414 : St) (d_416 e_417 : Nat) => ((d_j272 + d_400 + d_408 + d_416 ≤ mc ∧ e_j272 + e_401 + e_409 + e_417 ≤ ms) ∧ PX y_415 s_414 (d_j272 + d_400 + d_408 + d_416) (e_j272 + e_401 + e_409 + e_417))) s_406 a0) (fun (y_407 : Ly) (s_406 : St) (d_408 e_409 : Nat) => ((d_j272 + d_400 + d_408 ≤ mc ∧ e_j272 + e_401 + e_409 ≤ ms) ∧ PX y_407 s_406 (d_j272 + d_400 + d_408) (e_j272 + e_401 + e_409))) s_398 a0 46) (fun (y_399 : Ly) (s_398 : St) (d_400 e_401 : Nat) => ((d_j272 + d_400 ≤ mc ∧ e_j272 + e_401 ≤ ms) ∧ PX y_399 s_398 (d_j272 + d_400) (e_j272 + e_401))) s_9 a0) ∧ (¬ (x2j272 = 48) → ((x2j272 = 49 → ∃ mc_434 ms_435 : Nat, (d_j272 + mc_434 ≤ mc ∧ e_j272 + ms_435 ≤ ms) ∧ wx_Mo_className mc_434 ms_435 y_j272 (fun (y_431 : Ly) (s_430 : St) (r_429 : Int32) (d_432 e_433 : Nat) => (d_j272 + d_432 ≤ mc ∧ e_j272 + e_433 ≤ ms) ∧ ∃ mc_442 ms_443 : Nat, (d_j272 + d_432 + mc_442 ≤ mc ∧ e_j272 + e_433 + ms_443 ≤ ms) ∧ wx_Mo_need mc_442 ms_443 y_431 (fun (y_439 : Ly) (s_438 : St) (d_440 e_441 : Nat) => (d_j272 + d_432 + d_440 ≤ mc ∧ e_j272 + e_433 + e_441 ≤ ms) ∧ ∃ mc_450 ms_451 : Nat, (d_j272 + d_432 + d_440 + mc_450 ≤ mc ∧ e_j272 + e_433 + e_441 + ms_451 ≤ ms) ∧ wx_Mo_plainName mc_450 ms_451 y_439 (fun (y_447 : Ly) (s_446 : St) (r_445 : Int32) (d_448 e_449 : Nat) => (d_j272 + d_432 + d_440 + d_448 ≤ mc ∧ e_j272 + e_433 + e_441 + e_449 ≤ ms) ∧ ∃ mc_458 ms_459 : Nat, (d_j272 + d_432 + d_440 + d_448 + mc_458 ≤ mc ∧ e_j272 + e_433 + e_441 + e_449 + ms_459 ≤ ms) ∧ wx_Mo_type mc_458 ms_459 y_447 (fun (y_455 : Ly) (s_454 : St) (r_453 : Int32) (d_456 e_457 : Nat) => (d_j272 + d_432 + d_440 + d_448 + d_456 ≤ mc ∧ e_j272 + e_433 + e_441 + e_449 + e_457 ≤ ms) ∧ wja_Mo_codeLine_789 mc ms Post PX a0 y_455 s_454 (d_j272 + d_432 + d_440 + d_448 + d_456) (e_j272 + e_433 + e_441 + e_449 + e_457) x1j272 x2j272 r_429 r_445 r_453) (fun (y_455 : Ly) (s_454 : St) (d_456 e_457 : Nat) => ((d_j272 + d_432 + d_440 + d_448 + d_456 ≤ mc ∧ e_j272 + e_433 + e_441 + e_449 + e_457 ≤ ms) ∧ PX y_455 s_454 (d_j272 + d_432 + d_440 + d_448 + d_456) (e_j272 + e_433 + e_441 + e_449 + e_457))) s_446 a0) (fun (y_447 : Ly) (s_446 : St) (d_448 e_449 : Nat) => ((d_j272 + d_432 + d_440 + d_448 ≤ mc ∧ e_j272 + e_433 + e_441 + e_449 ≤ ms) ∧ PX y_447 s_446 (d_j272 + d_432 + d_440 + d_448) (e_j272 + e_433 + e_441 + e_449))) s_438 a0) (fun (y_439 : Ly) (s_438 : St) (d_440 e_441 : Nat) => ((d_j272 + d_432 + d_440 ≤ mc ∧ e_j272 + e_433 + e_441 ≤ ms) ∧ PX y_439 s_438 (d_j272 + d_432 + d_440) (e_j272 + e_433 + e_441))) s_430 a0 46) (fun (y_431 : Ly) (s_430 : St) (d_432 e_433 : Nat) => ((d_j272 + d_432 ≤ mc ∧ e_j272 + e_433 ≤ ms) ∧ PX y_431 s_430 (d_j272 + d_432) (e_j272 + e_433))) s_9 a0) ∧ (¬ (x2j272 = 49) → ((x2j272 = 50 → ∃ mc_466 ms_467 : Nat, (d_j272 + mc_466 ≤ mc ∧ e_j272 + ms_467 ≤ ms) ∧ wx_Mo_className mc_466 ms_467 y_j272 (fun (y_463 : Ly) (s_462 : St) (r_461 : Int32) (d_464 e_465 : Nat) => (d_j272 + d_464 ≤ mc ∧ e_j272 + e_465 ≤ ms) ∧ ∃ mc_474 ms_475 : Nat, (d_j272 + d_464 + mc_474 ≤ mc ∧ e_j272 + e_465 + ms_475 ≤ ms) ∧ wx_Mo_need mc_474 ms_475 y_463 (fun (y_471 : Ly) (s_470 : St) (d_472 e_473 : Nat) => (d_j272 + d_464 + d_472 ≤ mc ∧ e_j272 + e_465 + e_473 ≤ ms) ∧ xA y_471 s_470 a0 39 (sV s_470 a0 43) (fun x_477 : Int32 => ((¬ x_477 = 3 → wja_Mo_codeLine_751 mc ms Post PX a0 y_471 s_470 (d_j272 + d_464 + d_472) (e_j272 + e_465 + e_473) x1j272 x2j272 r_461) ∧ (x_477 = 3 → xA y_471 s_470 a0 40 (sV s_470 a0 43) (fun x_497 : Int32 => ((¬ x_497 = (sV s_470 a0 6) → wja_Mo_codeLine_751 mc ms Post PX a0 y_471 s_470 (d_j272 + d_464 + d_472) (e_j272 + e_465 + e_473) x1j272 x2j272 r_461) ∧ (x_497 = (sV s_470 a0 6) → xP (uV s_470 a0 43 ((sV s_470 a0 43) + 1)) (fun s_498 : St => wja_Mo_codeLine_757 mc ms Post PX a0 y_471 s_498 (d_j272 + d_464 + d_472) (e_j272 + e_465 + e_473) x1j272 x2j272 r_461 (sV s_498 a0 6))))))))) (fun (y_471 : Ly) (s_470 : St) (d_472 e_473 : Nat) => ((d_j272 + d_464 + d_472 ≤ mc ∧ e_j272 + e_465 + e_473 ≤ ms) ∧ PX y_471 s_470 (d_j272 + d_464 + d_472) (e_j272 + e_465 + e_473))) s_462 a0 46) (fun (y_463 : Ly) (s_462 : St) (d_464 e_465 : Nat) => ((d_j272 + d_464 ≤ mc ∧ e_j272 + e_465 ≤ ms) ∧ PX y_463 s_462 (d_j272 + d_464) (e_j272 + e_465))) s_9 a0) ∧ (¬ (x2j272 = 50) → ((x2j272 = 51 → ∃ mc_504 ms_505 : Nat, (d_j272 + mc_504 ≤ mc ∧ e_j272 + ms_505 ≤ ms) ∧ wx_Mo_className mc_504 ms_505 y_j272 (fun (y_501 : Ly) (s_500 : St) (r_499 : Int32) (d_502 e_503 : Nat) => (d_j272 + d_502 ≤ mc ∧ e_j272 + e_503 ≤ ms) ∧ ∃ mc_512 ms_513 : Nat, (d_j272 + d_502 + mc_512 ≤ mc ∧ e_j272 + e_503 + ms_513 ≤ ms) ∧ wx_Mo_need mc_512 ms_513 y_501 (fun (y_509 : Ly) (s_508 : St) (d_510 e_511 : Nat) => (d_j272 + d_502 + d_510 ≤ mc ∧ e_j272 + e_503 + e_511 ≤ ms) ∧ xA y_509 s_508 a0 39 (sV s_508 a0 43) (fun x_515 : Int32 => ((¬ x_515 = 3 → wja_Mo_codeLine_751 mc ms Post PX a0 y_509 s_508 (d_j272 + d_502 + d_510) (e_j272 + e_503 + e_511) x1j272 x2j272 r_499) ∧ (x_515 = 3 → xA y_509 s_508 a0 40 (sV s_508 a0 43) (fun x_535 : Int32 => ((¬ x_535 = (sV s_508 a0 6) → wja_Mo_codeLine_751 mc ms Post PX a0 y_509 s_508 (d_j272 + d_502 + d_510) (e_j272 + e_503 + e_511) x1j272 x2j272 r_499) ∧ (x_535 = (sV s_508 a0 6) → xP (uV s_508 a0 43 ((sV s_508 a0 43) + 1)) (fun s_536 : St => wja_Mo_codeLine_757 mc ms Post PX a0 y_509 s_536 (d_j272 + d_502 + d_510) (e_j272 + e_503 + e_511) x1j272 x2j272 r_499 (sV s_536 a0 6))))))))) (fun (y_509 : Ly) (s_508 : St) (d_510 e_511 : Nat) => ((d_j272 + d_502 + d_510 ≤ mc ∧ e_j272 + e_503 + e_511 ≤ ms) ∧ PX y_509 s_508 (d_j272 + d_502 + d_510) (e_j272 + e_503 + e_511))) s_500 a0 46) (fun (y_501 : Ly) (s_500 : St) (d_502 e_503 : Nat) => ((d_j272 + d_502 ≤ mc ∧ e_j272 + e_503 ≤ ms) ∧ PX y_501 s_500 (d_j272 + d_502) (e_j272 + e_503))) s_9 a0) ∧ (¬ (x2j272 = 51) → ((x2j272 = 52 → ∃ mc_542 ms_543 : Nat, (d_j272 + mc_542 ≤ mc ∧ e_j272 + ms_543 ≤ ms) ∧ wx_Mo_className mc_542 ms_543 y_j272 (fun (y_539 : Ly) (s_538 : St) (r_537 : Int32) (d_540 e_541 : Nat) => (d_j272 + d_540 ≤ mc ∧ e_j272 + e_541 ≤ ms) ∧ ∃ mc_550 ms_551 : Nat, (d_j272 + d_540 + mc_550 ≤ mc ∧ e_j272 + e_541 + ms_551 ≤ ms) ∧ wx_Mo_need mc_550 ms_551 y_539 (fun (y_547 : Ly) (s_546 : St) (d_548 e_549 : Nat) => (d_j272 + d_540 + d_548 ≤ mc ∧ e_j272 + e_541 + e_549 ≤ ms) ∧ xA y_547 s_546 a0 39 (sV s_546 a0 43) (fun x_553 : Int32 => ((¬ x_553 = 3 → wja_Mo_codeLine_751 mc ms Post PX a0 y_547 s_546 (d_j272 + d_540 + d_548) (e_j272 + e_541 + e_549) x1j272 x2j272 r_537) ∧ (x_553 = 3 → xA y_547 s_546 a0 40 (sV s_546 a0 43) (fun x_573 : Int32 => ((¬ x_573 = (sV s_546 a0 6) → wja_Mo_codeLine_751 mc ms Post PX a0 y_547 s_546 (d_j272 + d_540 + d_548) (e_j272 + e_541 + e_549) x1j272 x2j272 r_537) ∧ (x_573 = (sV s_546 a0 6) → xP (uV s_546 a0 43 ((sV s_546 a0 43) + 1)) (fun s_574 : St => wja_Mo_codeLine_757 mc ms Post PX a0 y_547 s_574 (d_j272 + d_540 + d_548) (e_j272 + e_541 + e_549) x1j272 x2j272 r_537 (sV s_574 a0 6))))))))) (fun (y_547 : Ly) (s_546 : St) (d_548 e_549 : Nat) => ((d_j272 + d_540 + d_548 ≤ mc ∧ e_j272 + e_541 + e_549 ≤ ms) ∧ PX y_547 s_546 (d_j272 + d_540 + d_548) (e_j272 + e_541 + e_549))) s_538 a0 46) (fun (y_539 : Ly) (s_538 : St) (d_540 e_541 : Nat) => ((d_j272 + d_540 ≤ mc ∧ e_j272 + e_541 ≤ ms) ∧ PX y_539 s_538 (d_j272 + d_540) (e_j272 + e_541))) s_9 a0) ∧ (¬ (x2j272 = 52) → ((x2j272 = 53 → ∃ mc_580 ms_581 : Nat, (d_j272 + mc_580 ≤ mc ∧ e_j272 + ms_581 ≤ ms) ∧ wx_Mo_className mc_580 ms_581 y_j272 (fun (y_577 : Ly) (s_576 : St) (r_575 : Int32) (d_578 e_579 : Nat) => (d_j272 + d_578 ≤ mc ∧ e_j272 + e_579 ≤ ms) ∧ ∃ mc_588 ms_589 : Nat, (d_j272 + d_578 + mc_588 ≤ mc ∧ e_j272 + e_579 + ms_589 ≤ ms) ∧ wx_Mo_need mc_588 ms_589 y_577 (fun (y_585 : Ly) (s_584 : St) (d_586 e_587 : Nat) => (d_j272 + d_578 + d_586 ≤ mc ∧ e_j272 + e_579 + e_587 ≤ ms) ∧ xA y_585 s_584 a0 39 (sV s_584 a0 43) (fun x_591 : Int32 => ((¬ x_591 = 3 → wja_Mo_codeLine_751 mc ms Post PX a0 y_585 s_584 (d_j272 + d_578 + d_586) (e_j272 + e_579 + e_587) x1j272 x2j272 r_575) ∧ (x_591 = 3 → xA y_585 s_584 a0 40 (sV s_584 a0 43) (fun x_611 : Int32 => ((¬ x_611 = (sV s_584 a0 6) → wja_Mo_codeLine_751 mc ms Post PX a0 y_585 s_584 (d_j272 + d_578 + d_586) (e_j272 + e_579 + e_587) x1j272 x2j272 r_575) ∧ (x_611 = (sV s_584 a0 6) → xP (uV s_584 a0 43 ((sV s_584 a0 43) + 1)) (fun s_612 : St => wja_Mo_codeLine_757 mc ms Post PX a0 y_585 s_612 (d_j272 + d_578 + d_586) (e_j272 + e_579 + e_587) x1j272 x2j272 r_575 (sV s_612 a0 6))))))))) (fun (y_585 : Ly) (s_584 : St) (d_586 e_587 : Nat) => ((d_j272 + d_578 + d_586 ≤ mc ∧ e_j272 + e_579 + e_587 ≤ ms) ∧ PX y_585 s_584 (d_j272 + d_578 + d_586) (e_j272 + e_579 + e_587))) s_576 a0 46) (fun (y_577 : Ly) (s_576 : St) (d_578 e_579 : Nat) => ((d_j272 + d_578 ≤ mc ∧ e_j272 + e_579 ≤ ms) ∧ PX y_577 s_576 (d_j272 + d_578) (e_j272 + e_579))) s_9 a0) ∧ (¬ (x2j272 = 53) → ((x2j272 = 54 → ∃ mc_618 ms_619 : Nat, (d_j272 + mc_618 ≤ mc ∧ e_j272 + ms_619 ≤ ms) ∧ wx_Mo_className mc_618 ms_619 y_j272 (fun (y_615 : Ly) (s_614 : St) (r_613 : Int32) (d_616 e_617 : Nat) => (d_j272 + d_616 ≤ mc ∧ e_j272 + e_617 ≤ ms) ∧ wja_Mo_codeLine_789 mc ms Post PX a0 y_615 s_614 (d_j272 + d_616) (e_j272 + e_617) x1j272 x2j272 r_613 0 0) (fun (y_615 : Ly) (s_614 : St) (d_616 e_617 : Nat) => ((d_j272 + d_616 ≤ mc ∧ e_j272 + e_617 ≤ ms) ∧ PX y_615 s_614 (d_j272 + d_616) (e_j272 + e_617))) s_9 a0) ∧ (¬ (x2j272 = 54) → ((x2j272 = 55 → ∃ mc_626 ms_627 : Nat, (d_j272 + mc_626 ≤ mc ∧ e_j272 + ms_627 ≤ ms) ∧ wx_Mo_className mc_626 ms_627 y_j272 (fun (y_623 : Ly) (s_622 : St) (r_621 : Int32) (d_624 e_625 : Nat) => (d_j272 + d_624 ≤ mc ∧ e_j272 + e_625 ≤ ms) ∧ wja_Mo_codeLine_789 mc ms Post PX a0 y_623 s_622 (d_j272 + d_624) (e_j272 + e_625) x1j272 x2j272 r_621 0 0) (fun (y_623 : Ly) (s_622 : St) (d_624 e_625 : Nat) => ((d_j272 + d_624 ≤ mc ∧ e_j272 + e_625 ≤ ms) ∧ PX y_623 s_622 (d_j272 + d_624) (e_j272 + e_625))) s_9 a0) ∧ (¬ (x2j272 = 55) → wja_Mo_codeLine_789 mc ms Post PX a0 y_j272 s_9 d_j272 e_j272 x1j272 x2j272 0 0 0)))))))))))))))))))))))))))))))))))))))))))))))))))))))))))))))))))))))))))))))))))))))))))))))))))))))))))))))
def wja_Mo_codeLine_268 (mc ms : Nat) (Post : Ly → St → Nat → Nat → Prop) (PX : Ly → St → Nat → Nat → Prop) (a0 : Nat) (y_j268 : Ly) (s_j268 : St) (d_j268 e_j268 : Nat) (x1j268 : Int32) (x2j268 : Int32) : Prop := (d_j268 ≤ mc ∧ e_j268 ≤ ms) ∧ ∃ mc_634 ms_635 : Nat, (d_j268 + mc_634 ≤ mc ∧ e_j268 + ms_635 ≤ ms) ∧ wx_Mo_wrong mc_634 ms_635 y_j268 (fun (y_631 : Ly) (s_630 : St) (d_632 e_633 : Nat) => (d_j268 + d_632 ≤ mc ∧ e_j268 + e_633 ≤ ms) ∧ wja_Mo_codeLine_272 mc ms Post PX a0 y_631 s_630 (d_j268 + d_632) (e_j268 + e_633) x1j268 x2j268) (fun (y_631 : Ly) (s_630 : St) (d_632 e_633 : Nat) => ((d_j268 + d_632 ≤ mc ∧ e_j268 + e_633 ≤ ms) ∧ PX y_631 s_630 (d_j268 + d_632) (e_j268 + e_633))) s_j268 a0
def wja_Mo_codeLine_257 (mc ms : Nat) (Post : Ly → St → Nat → Nat → Prop) (PX : Ly → St → Nat → Nat → Prop) (a0 : Nat) (y_j257 : Ly) (s_j257 : St) (d_j257 e_j257 : Nat) (x1j257 : Int32) (z0j257 : Int32) : Prop := (d_j257 ≤ mc ∧ e_j257 ≤ ms) ∧ ((z0j257 < 0 → wja_Mo_codeLine_268 mc ms Post PX a0 y_j257 s_j257 d_j257 e_j257 x1j257 z0j257) ∧ (¬ (z0j257 < 0) → ((z0j257 < 62 → wja_Mo_codeLine_272 mc ms Post PX a0 y_j257 s_j257 d_j257 e_j257 x1j257 z0j257) ∧ (¬ (z0j257 < 62) → wja_Mo_codeLine_268 mc ms Post PX a0 y_j257 s_j257 d_j257 e_j257 x1j257 z0j257))))
def wja_Mo_codeLine_225 (mc ms : Nat) (Post : Ly → St → Nat → Nat → Prop) (PX : Ly → St → Nat → Nat → Prop) (a0 : Nat) (y_j225 : Ly) (s_j225 : St) (d_j225 e_j225 : Nat) (x1j225 : Int32) : Prop := (d_j225 ≤ mc ∧ e_j225 ≤ ms) ∧ xA y_j225 s_j225 a0 39 (sV s_j225 a0 43) (fun x_8 : Int32 => ((¬ x_8 = 2 → wja_Mo_codeLine_257 mc ms Post PX a0 y_j225 s_j225 d_j225 e_j225 x1j225 62) ∧ (x_8 = 2 → xA y_j225 s_j225 a0 40 (sV s_j225 a0 43) (fun x_637 : Int32 => wja_Mo_codeLine_257 mc ms Post PX a0 y_j225 s_j225 d_j225 e_j225 x1j225 (x_637 - (sV s_j225 a0 26))))))
def wja_Mo_codeLine_205 (mc ms : Nat) (Post : Ly → St → Nat → Nat → Prop) (PX : Ly → St → Nat → Nat → Prop) (a0 : Nat) (y_j205 : Ly) (s_j205 : St) (d_j205 e_j205 : Nat) (x1j205 : Int32) : Prop := (d_j205 ≤ mc ∧ e_j205 ≤ ms) ∧ (((sV s_j205 a0 43) ≤ 0 → wja_Mo_codeLine_225 mc ms Post PX a0 y_j205 s_j205 d_j205 e_j205 x1j205) ∧ (¬ ((sV s_j205 a0 43) ≤ 0) → xA y_j205 s_j205 a0 39 (sV s_j205 a0 43) (fun x_638 : Int32 => ((¬ x_638 = 0 → wja_Mo_codeLine_225 mc ms Post PX a0 y_j205 s_j205 d_j205 e_j205 x1j205) ∧ (x_638 = 0 → Post y_j205 s_j205 d_j205 e_j205)))))
def wja_Mo_codeLine_120 (mc ms : Nat) (Post : Ly → St → Nat → Nat → Prop) (PX : Ly → St → Nat → Nat → Prop) (K_67 : Ly → St → Nat → Nat → Int32 → Prop) (a0 : Nat) (y_j120 : Ly) (s_j120 : St) (d_j120 e_j120 : Nat) (x1j120 : Int32) : Prop := (d_j120 ≤ mc ∧ e_j120 ≤ ms) ∧ xR mc ms d_j120 e_j120 .int y_j120 s_j120 a0 58 ((sV s_j120 a0 60) + 1) (fun (y_643 : Ly) (s_644 : St) (d_645 e_646 : Nat) => (d_645 ≤ mc ∧ e_646 ≤ ms) ∧ xR mc ms d_645 e_646 .int y_643 s_644 a0 59 ((sV s_644 a0 60) + 1) (fun (y_647 : Ly) (s_648 : St) (d_649 e_650 : Nat) => (d_649 ≤ mc ∧ e_650 ≤ ms) ∧ xA y_647 s_648 a0 40 (sV s_648 a0 43) (fun x_651 : Int32 => xS y_647 s_648 a0 58 (sV s_648 a0 60) x_651 (fun s_652 : St => xS y_647 s_652 a0 59 (sV s_652 a0 60) x1j120 (fun s_653 : St => xP (uV s_653 a0 60 ((sV s_653 a0 60) + 1)) (fun s_654 : St => xP (uV s_654 a0 43 ((sV s_654 a0 43) + 2)) (fun s_655 : St => K_67 y_647 s_655 d_649 e_650 x1j120)))))))
def wba_Mo_codeLine_67 (mc ms : Nat) (Post : Ly → St → Nat → Nat → Prop) (PX : Ly → St → Nat → Nat → Prop) (K_67 : Ly → St → Nat → Nat → Int32 → Prop) (a0 : Nat) (y_h67 : Ly) (s_h67 : St) (d_h67 e_h67 : Nat) (x1h67 : Int32) : Prop := (d_h67 ≤ mc ∧ e_h67 ≤ ms) ∧ xA y_h67 s_h67 a0 39 (sV s_h67 a0 43) (fun x_7 : Int32 => ((¬ x_7 = 2 → wja_Mo_codeLine_205 mc ms Post PX a0 y_h67 s_h67 d_h67 e_h67 x1h67) ∧ (x_7 = 2 → xA y_h67 s_h67 a0 39 ((sV s_h67 a0 43) + 1) (fun x_639 : Int32 => ((¬ x_639 = 58 → wja_Mo_codeLine_205 mc ms Post PX a0 y_h67 s_h67 d_h67 e_h67 x1h67) ∧ (x_639 = 58 → xA y_h67 s_h67 a0 40 (sV s_h67 a0 43) (fun x_640 : Int32 => wu_Mo_labelOf y_h67 (fun (s_642 : St) (r_641 : Int32) => ((r_641 < 0 → wja_Mo_codeLine_120 mc ms Post PX K_67 a0 y_h67 s_642 d_h67 e_h67 x1h67) ∧ (¬ (r_641 < 0) → ∃ mc_661 ms_662 : Nat, (d_h67 + mc_661 ≤ mc ∧ e_h67 + ms_662 ≤ ms) ∧ wa_Mo_addNine mc_661 ms_662 y_h67 (fun (y_658 : Ly) (s_657 : St) (d_659 e_660 : Nat) => (d_h67 + d_659 ≤ mc ∧ e_h67 + e_660 ≤ ms) ∧ wja_Mo_codeLine_120 mc ms Post PX K_67 a0 y_658 s_657 (d_h67 + d_659) (e_h67 + e_660) x1h67) s_642 a0 (-2147483648) 0))) s_h67 a0 x_640)))))))
def wla_Mo_codeLine_67 (mc ms : Nat) (Post : Ly → St → Nat → Nat → Prop) (PX : Ly → St → Nat → Nat → Prop) (a0 : Nat) (y_h67 : Ly) (s_h67 : St) (d_h67 e_h67 : Nat) (x1h67 : Int32) : Prop := ∃ (I : Ly → St → Nat → Nat → Int32 → Prop) (μ : Ly → St → Nat → Nat → Int32 → Nat), I y_h67 s_h67 d_h67 e_h67 x1h67 ∧ ∀ (u1 : Ly) (u2 : St) (u3 u4 : Nat) (t0 : Int32), I u1 u2 u3 u4 t0 → wba_Mo_codeLine_67 mc ms Post PX (fun z1 z2 z3 z4 t0q => I z1 z2 z3 z4 t0q ∧ μ z1 z2 z3 z4 t0q < μ u1 u2 u3 u4 t0) a0 u1 u2 u3 u4 t0
def wja_Mo_codeLine_54 (mc ms : Nat) (Post : Ly → St → Nat → Nat → Prop) (PX : Ly → St → Nat → Nat → Prop) (a0 : Nat) (y_j54 : Ly) (s_j54 : St) (d_j54 e_j54 : Nat) : Prop := (d_j54 ≤ mc ∧ e_j54 ≤ ms) ∧ ∃ b_3 : Nat, sO s_j54 a0 45 = some b_3 ∧ cl b_3 = 13 ∧ xA y_j54 s_j54 b_3 24 (sV s_j54 a0 54) (fun x_6 : Int32 => wla_Mo_codeLine_67 mc ms Post PX a0 y_j54 s_j54 d_j54 e_j54 x_6)
def wja_Mo_codeLine_27 (mc ms : Nat) (Post : Ly → St → Nat → Nat → Prop) (PX : Ly → St → Nat → Nat → Prop) (a0 : Nat) (y_j27 : Ly) (s_j27 : St) (d_j27 e_j27 : Nat) : Prop := (d_j27 ≤ mc ∧ e_j27 ≤ ms) ∧ xA y_j27 s_j27 a0 39 1 (fun x_2 : Int32 => ((x_2 = 58 → wja_Mo_codeLine_54 mc ms Post PX a0 y_j27 s_j27 d_j27 e_j27) ∧ (¬ (x_2 = 58) → wu_Mo_takes y_j27 (fun (s_665 : St) (r_664 : Int32) => ((r_664 = 0 → wja_Mo_codeLine_54 mc ms Post PX a0 y_j27 s_665 d_j27 e_j27) ∧ (¬ (r_664 = 0) → ∃ mc_671 ms_672 : Nat, (d_j27 + mc_671 ≤ mc ∧ e_j27 + ms_672 ≤ ms) ∧ wx_Mo_handlerLine mc_671 ms_672 y_j27 (fun (y_668 : Ly) (s_667 : St) (d_669 e_670 : Nat) => (d_j27 + d_669 ≤ mc ∧ e_j27 + e_670 ≤ ms) ∧ Post y_668 s_667 (d_j27 + d_669) (e_j27 + e_670)) (fun (y_668 : Ly) (s_667 : St) (d_669 e_670 : Nat) => ((d_j27 + d_669 ≤ mc ∧ e_j27 + e_670 ≤ ms) ∧ PX y_668 s_667 (d_j27 + d_669) (e_j27 + e_670))) s_665 a0))) s_j27 a0 (sV s_j27 a0 18))))
def wx_Mo_codeLine (mc ms : Nat) (y : Ly) (Post : Ly → St → Nat → Nat → Prop) (PX : Ly → St → Nat → Nat → Prop) (σ : St) (a0 : Nat) : Prop := xA y σ a0 39 1 (fun x_1 : Int32 => ((x_1 = 58 → wja_Mo_codeLine_27 mc ms Post PX a0 y σ 0 0) ∧ (¬ (x_1 = 58) → wu_Mo_takes y (fun (s_675 : St) (r_674 : Int32) => ((r_674 = 0 → wja_Mo_codeLine_27 mc ms Post PX a0 y s_675 0 0) ∧ (¬ (r_674 = 0) → ∃ mc_681 ms_682 : Nat, (0 + mc_681 ≤ mc ∧ 0 + ms_682 ≤ ms) ∧ wx_Mo_frameLine mc_681 ms_682 y (fun (y_678 : Ly) (s_677 : St) (d_679 e_680 : Nat) => (0 + d_679 ≤ mc ∧ 0 + e_680 ≤ ms) ∧ Post y_678 s_677 (0 + d_679) (0 + e_680)) (fun (y_678 : Ly) (s_677 : St) (d_679 e_680 : Nat) => ((0 + d_679 ≤ mc ∧ 0 + e_680 ≤ ms) ∧ PX y_678 s_677 (0 + d_679) (0 + e_680))) s_675 a0))) σ a0 (sV σ a0 17))))
set_option maxHeartbeats 4000000 in
set_option maxRecDepth 100000 in
theorem cx_Mo_codeLine (l : Launch) (D : va_G) (g : Nat → ClassId) (ad : Nat → Nat) (mc ms : Nat) (y : Ly) (Post : Ly → St → Nat → Nat → Prop) (PX : Ly → St → Nat → Nat → Prop) (σ : St) (a0 : Nat) (sz uz : Nat) (h_a0 : cl a0 = 14) (h : wx_Mo_codeLine mc ms y Post PX σ a0) : vx_Met l y_Mo_codeLine (mw y_Mo_codeLine b_Mo_codeLine 7 (none)) (ra_Mo_codeLine mc ms) (PCu g D [] [.ref (ad a0)] sz uz (ws g ad y σ)) (va_Qv (fun (u : Ly × St × Nat × Nat) => Post u.1 u.2.1 u.2.2.1 u.2.2.2) (QU D (va_A (ws g ad y σ) sz) (fun u => ws g ad u.1 u.2.1) sz uz (fun u => u.2.2.1) (fun u => u.2.2.2)) (va_A (ws g ad y σ) sz)) (XQ D g ad (va_A (ws g ad y σ) sz) sz uz PX) mc ms (va_A (ws g ad y σ) sz) := by
  refine ofVx (by decide +kernel) (Nat.le_of_ble_eq_true rfl) ?_
  intro p e s m args below meth c A Q ls H locs G hsz hP hD hS hl hret hretX
  subst hsz
  have hl : lv_has ls 7 [(0, .ref (ad a0))] := hl
  have hd : 0 ≤ mc ∧ 0 ≤ ms := ⟨Nat.zero_le _, Nat.zero_le _⟩
  unfold wx_Mo_codeLine at h
  refine lv_aload_n G.1 G.2.1 d_Mo_codeLine_0 rfl (lv_at hl 0 rfl) ?_
  refine ugf (v := .ref (yP y a0 39)) G hP h_a0 iMo rfl 39 (by decide) rfl q3103 rfl rfl d_Mo_codeLine_1 ?_
  refine lv_iconst (v := 1) G.1 G.2.1 d_Mo_codeLine_4 (by decide) ?_
  refine ubald G hP (kdp h_a0 rfl) (typ h_a0 rfl) h d_Mo_codeLine_5 (fun x_1 h => ?_)
  refine lv_bipush (v := 58) G.1 G.2.1 d_Mo_codeLine_6 (by decide) ?_
  have J_27 : ∀ (y_j27 : Ly) (s_j27 : St) (d_j27 e_j27 : Nat) (H : Heap) (locs : List Loc), wja_Mo_codeLine_27 mc ms Post PX a0 y_j27 s_j27 d_j27 e_j27 → va_P D CL (ws g ad y_j27 s_j27) H → va_D A (ws g ad y_j27 s_j27) → va_S A s.heap H locs → ∀ ls, lv_has ls 7 [(0, .ref (ad a0))] → W p l e (ra_Mo_codeLine mc ms) s m args below meth c H locs d_j27 e_j27 Q (F0 m 27 ls []) := by
    intro y_j27 s_j27 d_j27 e_j27 H locs h hP hD hS ls hl
    unfold wja_Mo_codeLine_27 at h
    obtain ⟨hd, h⟩ := h
    refine lv_aload_n G.1 G.2.1 d_Mo_codeLine_27 rfl (lv_at hl 0 rfl) ?_
    refine ugf (v := .ref (yP y_j27 a0 39)) G hP h_a0 iMo rfl 39 (by decide) rfl q3103 rfl rfl d_Mo_codeLine_28 ?_
    refine lv_iconst (v := 1) G.1 G.2.1 d_Mo_codeLine_31 (by decide) ?_
    refine ubald G hP (kdp h_a0 rfl) (typ h_a0 rfl) h d_Mo_codeLine_32 (fun x_2 h => ?_)
    refine lv_bipush (v := 58) G.1 G.2.1 d_Mo_codeLine_33 (by decide) ?_
    have J_54 : ∀ (y_j54 : Ly) (s_j54 : St) (d_j54 e_j54 : Nat) (H : Heap) (locs : List Loc), wja_Mo_codeLine_54 mc ms Post PX a0 y_j54 s_j54 d_j54 e_j54 → va_P D CL (ws g ad y_j54 s_j54) H → va_D A (ws g ad y_j54 s_j54) → va_S A s.heap H locs → ∀ ls, lv_has ls 7 [(0, .ref (ad a0))] → W p l e (ra_Mo_codeLine mc ms) s m args below meth c H locs d_j54 e_j54 Q (F0 m 54 ls []) := by
      intro y_j54 s_j54 d_j54 e_j54 H locs h hP hD hS ls hl
      unfold wja_Mo_codeLine_54 at h
      obtain ⟨hd, h⟩ := h
      refine lv_aload_n G.1 G.2.1 d_Mo_codeLine_54 rfl (lv_at hl 0 rfl) ?_
      obtain ⟨b_3, e_4, c_5, h⟩ := h
      refine ugf (v := .ref (ad b_3)) G hP h_a0 iMo rfl 45 (by decide) rfl q3109 rfl (by show va_rf ((sO s_j54 a0 45).map ad) = _; rw [e_4]; rfl) d_Mo_codeLine_55 ?_
      refine ugfN (v := .ref (yP y_j54 b_3 24)) G hP c_5 iMw rfl 24 (by decide) rfl q2752 rfl rfl d_Mo_codeLine_58 ?_
      refine lv_aload_n G.1 G.2.1 d_Mo_codeLine_61 rfl (lv_at hl 0 rfl) ?_
      refine ugf (v := .int (sV s_j54 a0 54)) G hP h_a0 iMo rfl 54 (by decide) rfl q3118 rfl rfl d_Mo_codeLine_62 ?_
      refine uiald G hP (kdp c_5 rfl) (typ c_5 rfl) h d_Mo_codeLine_65 (fun x_6 h => ?_)
      refine lv_istore_n (lv' := [(1, .int x_6), (0, .ref (ad a0))]) G.1 G.2.1 d_Mo_codeLine_66 rfl hl (by decide) rfl (fun ls hl => ?_)
      unfold wla_Mo_codeLine_67 at h
      obtain ⟨I_67, μ_67, hI_67, hB_67⟩ := h
      have L_67 : ∀ (n_67 : Nat) (y_h67 : Ly) (s_h67 : St) (d_h67 e_h67 : Nat) (x1h67 : Int32), μ_67 y_h67 s_h67 d_h67 e_h67 x1h67 < n_67 → I_67 y_h67 s_h67 d_h67 e_h67 x1h67 → ∀ (H : Heap) (locs : List Loc), va_P D CL (ws g ad y_h67 s_h67) H → va_D A (ws g ad y_h67 s_h67) → va_S A s.heap H locs → ∀ ls, lv_has ls 7 [(0, .ref (ad a0)), (1, .int x1h67)] → W p l e (ra_Mo_codeLine mc ms) s m args below meth c H locs d_h67 e_h67 Q (F0 m 67 ls []) := by
        intro n_67
        induction n_67 with
        | zero => intro y_h67 s_h67 d_h67 e_h67 x1h67 hμ; exact absurd hμ (Nat.not_lt_zero _)
        | succ n_67 ih_67 =>
          intro y_h67 s_h67 d_h67 e_h67 x1h67 hμ_67 hJ H locs hP hD hS ls hl
          obtain ⟨K_67, hK_67, h⟩ : ∃ K : Ly → St → Nat → Nat → Int32 → Prop, (∀ z1 z2 z3 z4 (t0 : Int32), K z1 z2 z3 z4 t0 → I_67 z1 z2 z3 z4 t0 ∧ μ_67 z1 z2 z3 z4 t0 < μ_67 y_h67 s_h67 d_h67 e_h67 x1h67) ∧ wba_Mo_codeLine_67 mc ms Post PX K a0 y_h67 s_h67 d_h67 e_h67 x1h67 := ⟨_, fun _ _ _ _ _ h => h, hB_67 y_h67 s_h67 d_h67 e_h67 x1h67 hJ⟩
          unfold wba_Mo_codeLine_67 at h
          obtain ⟨hd, h⟩ := h
          refine lv_aload_n G.1 G.2.1 d_Mo_codeLine_67 rfl (lv_at hl 0 rfl) ?_
          refine ugf (v := .ref (yP y_h67 a0 39)) G hP h_a0 iMo rfl 39 (by decide) rfl q3103 rfl rfl d_Mo_codeLine_68 ?_
          refine lv_aload_n G.1 G.2.1 d_Mo_codeLine_71 rfl (lv_at hl 0 rfl) ?_
          refine ugf (v := .int (sV s_h67 a0 43)) G hP h_a0 iMo rfl 43 (by decide) rfl q3107 rfl rfl d_Mo_codeLine_72 ?_
          refine ubald G hP (kdp h_a0 rfl) (typ h_a0 rfl) h d_Mo_codeLine_75 (fun x_7 h => ?_)
          refine lv_iconst (v := 2) G.1 G.2.1 d_Mo_codeLine_76 (by decide) ?_
          have J_205 : ∀ (y_j205 : Ly) (s_j205 : St) (d_j205 e_j205 : Nat) (x1j205 : Int32) (H : Heap) (locs : List Loc), wja_Mo_codeLine_205 mc ms Post PX a0 y_j205 s_j205 d_j205 e_j205 x1j205 → va_P D CL (ws g ad y_j205 s_j205) H → va_D A (ws g ad y_j205 s_j205) → va_S A s.heap H locs → ∀ ls, lv_has ls 7 [(0, .ref (ad a0)), (1, .int x1j205)] → W p l e (ra_Mo_codeLine mc ms) s m args below meth c H locs d_j205 e_j205 Q (F0 m 205 ls []) := by
            intro y_j205 s_j205 d_j205 e_j205 x1j205 H locs h hP hD hS ls hl
            unfold wja_Mo_codeLine_205 at h
            obtain ⟨hd, h⟩ := h
            refine lv_aload_n G.1 G.2.1 d_Mo_codeLine_205 rfl (lv_at hl 0 rfl) ?_
            refine ugf (v := .int (sV s_j205 a0 43)) G hP h_a0 iMo rfl 43 (by decide) rfl q3107 rfl rfl d_Mo_codeLine_206 ?_
            have J_225 : ∀ (y_j225 : Ly) (s_j225 : St) (d_j225 e_j225 : Nat) (x1j225 : Int32) (H : Heap) (locs : List Loc), wja_Mo_codeLine_225 mc ms Post PX a0 y_j225 s_j225 d_j225 e_j225 x1j225 → va_P D CL (ws g ad y_j225 s_j225) H → va_D A (ws g ad y_j225 s_j225) → va_S A s.heap H locs → ∀ ls, lv_has ls 7 [(0, .ref (ad a0)), (1, .int x1j225)] → W p l e (ra_Mo_codeLine mc ms) s m args below meth c H locs d_j225 e_j225 Q (F0 m 225 ls []) := by
              intro y_j225 s_j225 d_j225 e_j225 x1j225 H locs h hP hD hS ls hl
              unfold wja_Mo_codeLine_225 at h
              obtain ⟨hd, h⟩ := h
              refine lv_aload_n G.1 G.2.1 d_Mo_codeLine_225 rfl (lv_at hl 0 rfl) ?_
              refine ugf (v := .ref (yP y_j225 a0 39)) G hP h_a0 iMo rfl 39 (by decide) rfl q3103 rfl rfl d_Mo_codeLine_226 ?_
              refine lv_aload_n G.1 G.2.1 d_Mo_codeLine_229 rfl (lv_at hl 0 rfl) ?_
              refine ugf (v := .int (sV s_j225 a0 43)) G hP h_a0 iMo rfl 43 (by decide) rfl q3107 rfl rfl d_Mo_codeLine_230 ?_
              refine ubald G hP (kdp h_a0 rfl) (typ h_a0 rfl) h d_Mo_codeLine_233 (fun x_8 h => ?_)
              refine lv_iconst (v := 2) G.1 G.2.1 d_Mo_codeLine_234 (by decide) ?_
              have J_257 : ∀ (y_j257 : Ly) (s_j257 : St) (d_j257 e_j257 : Nat) (x1j257 : Int32) (z0j257 : Int32) (H : Heap) (locs : List Loc), wja_Mo_codeLine_257 mc ms Post PX a0 y_j257 s_j257 d_j257 e_j257 x1j257 z0j257 → va_P D CL (ws g ad y_j257 s_j257) H → va_D A (ws g ad y_j257 s_j257) → va_S A s.heap H locs → ∀ ls, lv_has ls 7 [(0, .ref (ad a0)), (1, .int x1j257)] → W p l e (ra_Mo_codeLine mc ms) s m args below meth c H locs d_j257 e_j257 Q (F0 m 257 ls [.int z0j257]) := by
                intro y_j257 s_j257 d_j257 e_j257 x1j257 z0j257 H locs h hP hD hS ls hl
                unfold wja_Mo_codeLine_257 at h
                obtain ⟨hd, h⟩ := h
                refine lv_istore_n (lv' := [(2, .int z0j257), (0, .ref (ad a0)), (1, .int x1j257)]) G.1 G.2.1 d_Mo_codeLine_257 rfl hl (by decide) rfl (fun ls hl => ?_)
                refine lv_iload_n G.1 G.2.1 d_Mo_codeLine_258 rfl (lv_at hl 0 rfl) ?_
                have J_272 : ∀ (y_j272 : Ly) (s_j272 : St) (d_j272 e_j272 : Nat) (x1j272 : Int32) (x2j272 : Int32) (H : Heap) (locs : List Loc), wja_Mo_codeLine_272 mc ms Post PX a0 y_j272 s_j272 d_j272 e_j272 x1j272 x2j272 → va_P D CL (ws g ad y_j272 s_j272) H → va_D A (ws g ad y_j272 s_j272) → va_S A s.heap H locs → ∀ ls, lv_has ls 7 [(0, .ref (ad a0)), (1, .int x1j272), (2, .int x2j272)] → W p l e (ra_Mo_codeLine mc ms) s m args below meth c H locs d_j272 e_j272 Q (F0 m 272 ls []) := by
                  intro y_j272 s_j272 d_j272 e_j272 x1j272 x2j272 H locs h hP hD hS ls hl
                  unfold wja_Mo_codeLine_272 at h
                  obtain ⟨hd, h⟩ := h
                  refine lv_aload_n G.1 G.2.1 d_Mo_codeLine_272 rfl (lv_at hl 0 rfl) ?_
                  refine lv_dup G.1 G.2.1 d_Mo_codeLine_273 rfl ?_
                  refine ugf (v := .int (sV s_j272 a0 43)) G hP h_a0 iMo rfl 43 (by decide) rfl q3107 rfl rfl d_Mo_codeLine_274 ?_
                  refine lv_iconst (v := 1) G.1 G.2.1 d_Mo_codeLine_277 (by decide) ?_
                  refine lv_iadd G.1 G.2.1 d_Mo_codeLine_278 ?_
                  refine upf G hP hD hS h 43 putV h_a0 iMo tMo tMo_ok nMo rfl (by decide) rfl q3107 rfl rfl fV rfl rfl d_Mo_codeLine_279 (fun s_9 H locs h hP hD hS => ?_)
                  refine lv_iconst (v := 0) G.1 G.2.1 d_Mo_codeLine_282 (by decide) ?_
                  refine lv_istore_n (lv' := [(3, .int 0), (0, .ref (ad a0)), (1, .int x1j272), (2, .int x2j272)]) G.1 G.2.1 d_Mo_codeLine_283 rfl hl (by decide) rfl (fun ls hl => ?_)
                  refine lv_iconst (v := 0) G.1 G.2.1 d_Mo_codeLine_284 (by decide) ?_
                  refine lv_istore (lv' := [(4, .int 0), (3, .int 0), (0, .ref (ad a0)), (1, .int x1j272), (2, .int x2j272)]) G.1 G.2.1 d_Mo_codeLine_285 hl (by decide) rfl (fun ls hl => ?_)
                  refine lv_iconst (v := 0) G.1 G.2.1 d_Mo_codeLine_287 (by decide) ?_
                  refine W.eq (g2 := F0 m 288 ls [.int 0]) rfl ?_
                  refine lv_istore (lv' := [(5, .int 0), (4, .int 0), (3, .int 0), (0, .ref (ad a0)), (1, .int x1j272), (2, .int x2j272)]) G.1 G.2.1 d_Mo_codeLine_288 hl (by decide) rfl (fun ls hl => ?_)
                  refine lv_iload_n G.1 G.2.1 d_Mo_codeLine_290 rfl (lv_at hl 5 rfl) ?_
                  have J_789 : ∀ (y_j789 : Ly) (s_j789 : St) (d_j789 e_j789 : Nat) (x1j789 : Int32) (x2j789 : Int32) (x3j789 : Int32) (x4j789 : Int32) (x5j789 : Int32) (H : Heap) (locs : List Loc), wja_Mo_codeLine_789 mc ms Post PX a0 y_j789 s_j789 d_j789 e_j789 x1j789 x2j789 x3j789 x4j789 x5j789 → va_P D CL (ws g ad y_j789 s_j789) H → va_D A (ws g ad y_j789 s_j789) → va_S A s.heap H locs → ∀ ls, lv_has ls 7 [(0, .ref (ad a0)), (1, .int x1j789), (2, .int x2j789), (3, .int x3j789), (4, .int x4j789), (5, .int x5j789)] → W p l e (ra_Mo_codeLine mc ms) s m args below meth c H locs d_j789 e_j789 Q (F0 m 789 ls []) := by
                    intro y_j789 s_j789 d_j789 e_j789 x1j789 x2j789 x3j789 x4j789 x5j789 H locs h hP hD hS ls hl
                    unfold wja_Mo_codeLine_789 at h
                    obtain ⟨hd, h⟩ := h
                    refine lv_aload_n G.1 G.2.1 d_Mo_codeLine_789 rfl (lv_at hl 0 rfl) ?_
                    refine lv_iconst (v := 0) G.1 G.2.1 d_Mo_codeLine_790 (by decide) ?_
                    obtain ⟨mc_15, ms_16, hr_17, h⟩ := h
                    refine uxVv (As := [.int 0]) (rest := []) G hP hD hS (cx_Mo_need l D g ad mc_15 ms_16 y_j789 _ _ s_j789 a0 0 H.size (us H) h_a0 h) (fun _ h => absurd h List.not_mem_nil) w9_Mo_need q3567 ⟨Nat.le_of_ble_eq_true rfl, Nat.le_of_ble_eq_true rfl⟩ rfl rfl h_a0 (q := (RMo, TMo, 131)) rfl rfl hl.1 rfl (Nat.le_of_ble_eq_true rfl) rfl hr_17 d_Mo_codeLine_791 (fun y_12 s_11 d_13 e_14 H locs q9 ce h hP hD hS hce hcv hcl => ?_) (fun y_12 s_11 d_13 e_14 H locs h hP hD hS => ?_)
                    · skip
                      obtain ⟨hd, h⟩ := h
                      exact hretX h hP hD hS hd.1 hd.2 hce hcv hcl
                    obtain ⟨hd, h⟩ := h
                    refine lv_aload_n G.1 G.2.1 d_Mo_codeLine_794 rfl (lv_at hl 0 rfl) ?_
                    refine lv_bipush (v := 12) G.1 G.2.1 d_Mo_codeLine_795 (by decide) ?_
                    refine lv_iload_n G.1 G.2.1 d_Mo_codeLine_797 rfl (lv_at hl 1 rfl) ?_
                    refine lv_bipush (v := 80) G.1 G.2.1 d_Mo_codeLine_798 (by decide) ?_
                    have J_808 : ∀ (y_j808 : Ly) (s_j808 : St) (d_j808 e_j808 : Nat) (x2j808 : Int32) (x3j808 : Int32) (x4j808 : Int32) (x5j808 : Int32) (z1j808 : Int32) (z2j808 : Int32) (H : Heap) (locs : List Loc), wja_Mo_codeLine_808 mc ms Post PX a0 y_j808 s_j808 d_j808 e_j808 x2j808 x3j808 x4j808 x5j808 z1j808 z2j808 → va_P D CL (ws g ad y_j808 s_j808) H → va_D A (ws g ad y_j808 s_j808) → va_S A s.heap H locs → ∀ ls, lv_has ls 7 [(0, .ref (ad a0)), (2, .int x2j808), (3, .int x3j808), (4, .int x4j808), (5, .int x5j808)] → W p l e (ra_Mo_codeLine mc ms) s m args below meth c H locs d_j808 e_j808 Q (F0 m 808 ls [.int z2j808, .int z1j808, .ref (ad a0)]) := by
                      intro y_j808 s_j808 d_j808 e_j808 x2j808 x3j808 x4j808 x5j808 z1j808 z2j808 H locs h hP hD hS ls hl
                      unfold wja_Mo_codeLine_808 at h
                      obtain ⟨hd, h⟩ := h
                      refine ucVv (As := [.int z1j808, .int z2j808]) (rest := []) G hP hD hS (cu_Mo_asks l D g ad y_j808 _ s_j808 a0 z1j808 z2j808 H.size h_a0 h) w9_Mo_asks q3575 ⟨Nat.le_of_ble_eq_true rfl, Nat.le_of_ble_eq_true rfl⟩ rfl rfl h_a0 (q := (RMo, TMo, 131)) rfl rfl hl.1 rfl (Nat.le_of_ble_eq_true rfl) rfl hd d_Mo_codeLine_808 (fun s_19 H locs h hP hD hS => ?_)
                      refine lv_aload_n G.1 G.2.1 d_Mo_codeLine_811 rfl (lv_at hl 0 rfl) ?_
                      obtain ⟨b_20, e_21, c_22, h⟩ := h
                      refine ugf (v := .ref (ad b_20)) G hP h_a0 iMo rfl 45 (by decide) rfl q3109 rfl (by show va_rf ((sO s_19 a0 45).map ad) = _; rw [e_21]; rfl) d_Mo_codeLine_812 ?_
                      refine ugfN (v := .int (sV s_19 b_20 35)) G hP c_22 iMw rfl 35 (by decide) rfl q2773 rfl rfl d_Mo_codeLine_815 ?_
                      refine lv_istore (lv' := [(6, .int (sV s_19 b_20 35)), (0, .ref (ad a0)), (2, .int x2j808), (3, .int x3j808), (4, .int x4j808), (5, .int x5j808)]) G.1 G.2.1 d_Mo_codeLine_818 hl (by decide) rfl (fun ls hl => ?_)
                      refine lv_aload_n G.1 G.2.1 d_Mo_codeLine_820 rfl (lv_at hl 1 rfl) ?_
                      refine ugf (v := .ref (ad b_20)) G hP h_a0 iMo rfl 45 (by decide) rfl q3109 rfl (by show va_rf ((sO s_19 a0 45).map ad) = _; rw [e_21]; rfl) d_Mo_codeLine_821 ?_
                      refine lv_aload_n G.1 G.2.1 d_Mo_codeLine_824 rfl (lv_at hl 1 rfl) ?_
                      refine ugf (v := .ref (ad b_20)) G hP h_a0 iMo rfl 45 (by decide) rfl q3109 rfl (by show va_rf ((sO s_19 a0 45).map ad) = _; rw [e_21]; rfl) d_Mo_codeLine_825 ?_
                      refine ugfN (v := .ref (yP y_j808 b_20 30)) G hP c_22 iMw rfl 30 (by decide) rfl q2764 rfl rfl d_Mo_codeLine_828 ?_
                      refine lv_iload G.1 G.2.1 d_Mo_codeLine_831 (lv_at hl 0 rfl) ?_
                      refine W.eq (g2 := F0 m 833 ls [.int (sV s_19 b_20 35), .ref (yP y_j808 b_20 30), .ref (ad b_20)]) rfl ?_
                      refine lv_iconst (v := 1) G.1 G.2.1 d_Mo_codeLine_833 (by decide) ?_
                      refine lv_iadd G.1 G.2.1 d_Mo_codeLine_834 ?_
                      refine uroomN (C := RMw) (T := TMw) (N := 72) G hP hD hS (fun ws0 q1 q t n f sz he ht hn => c_Mo_roomy_k l D g ws0 q1 q t n f sz he ht hn) (fun ws0 q1 q t n f sz he hn ht hf => c_Mo_roomy_g l D g ws0 q1 q t n f sz he hn ht hf) w9_Mo_roomy q2591 ⟨Nat.le_of_ble_eq_true rfl, Nat.le_of_ble_eq_true rfl⟩ (Nat.le_refl _) (Nat.le_refl _) hd (by decide) c_22 rfl rfl iMw tMw tMw_ok nMw rfl (by decide) q2764 rfl rfl (fun _ => rfl) (fun _ => rfl) hl.1 (Nat.le_of_ble_eq_true rfl) h d_Mo_codeLine_835 d_Mo_codeLine_838 (fun y_23 s_24 d_25 e_26 H locs h hP hD hS => ?_)
                      obtain ⟨hd, h⟩ := h
                      refine lv_aload_n G.1 G.2.1 d_Mo_codeLine_841 rfl (lv_at hl 1 rfl) ?_
                      obtain ⟨b_27, e_28, c_29, h⟩ := h
                      refine ugf (v := .ref (ad b_27)) G hP h_a0 iMo rfl 45 (by decide) rfl q3109 rfl (by show va_rf ((sO s_24 a0 45).map ad) = _; rw [e_28]; rfl) d_Mo_codeLine_842 ?_
                      refine lv_aload_n G.1 G.2.1 d_Mo_codeLine_845 rfl (lv_at hl 1 rfl) ?_
                      refine ugf (v := .ref (ad b_27)) G hP h_a0 iMo rfl 45 (by decide) rfl q3109 rfl (by show va_rf ((sO s_24 a0 45).map ad) = _; rw [e_28]; rfl) d_Mo_codeLine_846 ?_
                      refine ugfN (v := .ref (yP y_23 b_27 31)) G hP c_29 iMw rfl 31 (by decide) rfl q2766 rfl rfl d_Mo_codeLine_849 ?_
                      refine lv_iload G.1 G.2.1 d_Mo_codeLine_852 (lv_at hl 0 rfl) ?_
                      refine lv_iconst (v := 1) G.1 G.2.1 d_Mo_codeLine_854 (by decide) ?_
                      refine lv_iadd G.1 G.2.1 d_Mo_codeLine_855 ?_
                      refine uroomN (C := RMw) (T := TMw) (N := 72) G hP hD hS (fun ws0 q1 q t n f sz he ht hn => c_Mo_room_k l D g ws0 q1 q t n f sz he ht hn) (fun ws0 q1 q t n f sz he hn ht hf => c_Mo_room_g l D g ws0 q1 q t n f sz he hn ht hf) w9_Mo_room q2596 ⟨Nat.le_of_ble_eq_true rfl, Nat.le_of_ble_eq_true rfl⟩ (Nat.le_refl _) (Nat.le_refl _) hd (by decide) c_29 rfl rfl iMw tMw tMw_ok nMw rfl (by decide) q2766 rfl rfl (fun _ => rfl) (fun _ => rfl) hl.1 (Nat.le_of_ble_eq_true rfl) h d_Mo_codeLine_856 d_Mo_codeLine_859 (fun y_30 s_31 d_32 e_33 H locs h hP hD hS => ?_)
                      obtain ⟨hd, h⟩ := h
                      refine W.eq (g2 := F0 m 862 ls []) rfl ?_
                      refine lv_aload_n G.1 G.2.1 d_Mo_codeLine_862 rfl (lv_at hl 1 rfl) ?_
                      obtain ⟨b_34, e_35, c_36, h⟩ := h
                      refine ugf (v := .ref (ad b_34)) G hP h_a0 iMo rfl 45 (by decide) rfl q3109 rfl (by show va_rf ((sO s_31 a0 45).map ad) = _; rw [e_35]; rfl) d_Mo_codeLine_863 ?_
                      refine lv_aload_n G.1 G.2.1 d_Mo_codeLine_866 rfl (lv_at hl 1 rfl) ?_
                      refine ugf (v := .ref (ad b_34)) G hP h_a0 iMo rfl 45 (by decide) rfl q3109 rfl (by show va_rf ((sO s_31 a0 45).map ad) = _; rw [e_35]; rfl) d_Mo_codeLine_867 ?_
                      refine ugfN (v := .ref (yP y_30 b_34 32)) G hP c_36 iMw rfl 32 (by decide) rfl q2768 rfl rfl d_Mo_codeLine_870 ?_
                      refine lv_iload G.1 G.2.1 d_Mo_codeLine_873 (lv_at hl 0 rfl) ?_
                      refine lv_iconst (v := 1) G.1 G.2.1 d_Mo_codeLine_875 (by decide) ?_
                      refine lv_iadd G.1 G.2.1 d_Mo_codeLine_876 ?_
                      refine uroomN (C := RMw) (T := TMw) (N := 72) G hP hD hS (fun ws0 q1 q t n f sz he ht hn => c_Mo_room_k l D g ws0 q1 q t n f sz he ht hn) (fun ws0 q1 q t n f sz he hn ht hf => c_Mo_room_g l D g ws0 q1 q t n f sz he hn ht hf) w9_Mo_room q2596 ⟨Nat.le_of_ble_eq_true rfl, Nat.le_of_ble_eq_true rfl⟩ (Nat.le_refl _) (Nat.le_refl _) hd (by decide) c_36 rfl rfl iMw tMw tMw_ok nMw rfl (by decide) q2768 rfl rfl (fun _ => rfl) (fun _ => rfl) hl.1 (Nat.le_of_ble_eq_true rfl) h d_Mo_codeLine_877 d_Mo_codeLine_880 (fun y_37 s_38 d_39 e_40 H locs h hP hD hS => ?_)
                      obtain ⟨hd, h⟩ := h
                      refine lv_aload_n G.1 G.2.1 d_Mo_codeLine_883 rfl (lv_at hl 1 rfl) ?_
                      obtain ⟨b_41, e_42, c_43, h⟩ := h
                      refine ugf (v := .ref (ad b_41)) G hP h_a0 iMo rfl 45 (by decide) rfl q3109 rfl (by show va_rf ((sO s_38 a0 45).map ad) = _; rw [e_42]; rfl) d_Mo_codeLine_884 ?_
                      refine lv_aload_n G.1 G.2.1 d_Mo_codeLine_887 rfl (lv_at hl 1 rfl) ?_
                      refine W.eq (g2 := F0 m 888 ls [.ref (ad a0), .ref (ad b_41)]) rfl ?_
                      refine ugf (v := .ref (ad b_41)) G hP h_a0 iMo rfl 45 (by decide) rfl q3109 rfl (by show va_rf ((sO s_38 a0 45).map ad) = _; rw [e_42]; rfl) d_Mo_codeLine_888 ?_
                      refine ugfN (v := .ref (yP y_37 b_41 33)) G hP c_43 iMw rfl 33 (by decide) rfl q2770 rfl rfl d_Mo_codeLine_891 ?_
                      refine lv_iload G.1 G.2.1 d_Mo_codeLine_894 (lv_at hl 0 rfl) ?_
                      refine lv_iconst (v := 1) G.1 G.2.1 d_Mo_codeLine_896 (by decide) ?_
                      refine lv_iadd G.1 G.2.1 d_Mo_codeLine_897 ?_
                      refine uroomN (C := RMw) (T := TMw) (N := 72) G hP hD hS (fun ws0 q1 q t n f sz he ht hn => c_Mo_room_k l D g ws0 q1 q t n f sz he ht hn) (fun ws0 q1 q t n f sz he hn ht hf => c_Mo_room_g l D g ws0 q1 q t n f sz he hn ht hf) w9_Mo_room q2596 ⟨Nat.le_of_ble_eq_true rfl, Nat.le_of_ble_eq_true rfl⟩ (Nat.le_refl _) (Nat.le_refl _) hd (by decide) c_43 rfl rfl iMw tMw tMw_ok nMw rfl (by decide) q2770 rfl rfl (fun _ => rfl) (fun _ => rfl) hl.1 (Nat.le_of_ble_eq_true rfl) h d_Mo_codeLine_898 d_Mo_codeLine_901 (fun y_44 s_45 d_46 e_47 H locs h hP hD hS => ?_)
                      obtain ⟨hd, h⟩ := h
                      refine lv_aload_n G.1 G.2.1 d_Mo_codeLine_904 rfl (lv_at hl 1 rfl) ?_
                      obtain ⟨b_48, e_49, c_50, h⟩ := h
                      refine ugf (v := .ref (ad b_48)) G hP h_a0 iMo rfl 45 (by decide) rfl q3109 rfl (by show va_rf ((sO s_45 a0 45).map ad) = _; rw [e_49]; rfl) d_Mo_codeLine_905 ?_
                      refine lv_aload_n G.1 G.2.1 d_Mo_codeLine_908 rfl (lv_at hl 1 rfl) ?_
                      refine ugf (v := .ref (ad b_48)) G hP h_a0 iMo rfl 45 (by decide) rfl q3109 rfl (by show va_rf ((sO s_45 a0 45).map ad) = _; rw [e_49]; rfl) d_Mo_codeLine_909 ?_
                      refine ugfN (v := .ref (yP y_44 b_48 34)) G hP c_50 iMw rfl 34 (by decide) rfl q2772 rfl rfl d_Mo_codeLine_912 ?_
                      refine lv_iload G.1 G.2.1 d_Mo_codeLine_915 (lv_at hl 0 rfl) ?_
                      refine W.eq (g2 := F0 m 917 ls [.int (sV s_19 b_20 35), .ref (yP y_44 b_48 34), .ref (ad b_48)]) rfl ?_
                      refine lv_iconst (v := 1) G.1 G.2.1 d_Mo_codeLine_917 (by decide) ?_
                      refine lv_iadd G.1 G.2.1 d_Mo_codeLine_918 ?_
                      refine uroomN (C := RMw) (T := TMw) (N := 72) G hP hD hS (fun ws0 q1 q t n f sz he ht hn => c_Mo_room_k l D g ws0 q1 q t n f sz he ht hn) (fun ws0 q1 q t n f sz he hn ht hf => c_Mo_room_g l D g ws0 q1 q t n f sz he hn ht hf) w9_Mo_room q2596 ⟨Nat.le_of_ble_eq_true rfl, Nat.le_of_ble_eq_true rfl⟩ (Nat.le_refl _) (Nat.le_refl _) hd (by decide) c_50 rfl rfl iMw tMw tMw_ok nMw rfl (by decide) q2772 rfl rfl (fun _ => rfl) (fun _ => rfl) hl.1 (Nat.le_of_ble_eq_true rfl) h d_Mo_codeLine_919 d_Mo_codeLine_922 (fun y_51 s_52 d_53 e_54 H locs h hP hD hS => ?_)
                      obtain ⟨hd, h⟩ := h
                      refine lv_aload_n G.1 G.2.1 d_Mo_codeLine_925 rfl (lv_at hl 1 rfl) ?_
                      obtain ⟨b_55, e_56, c_57, h⟩ := h
                      refine ugf (v := .ref (ad b_55)) G hP h_a0 iMo rfl 45 (by decide) rfl q3109 rfl (by show va_rf ((sO s_52 a0 45).map ad) = _; rw [e_56]; rfl) d_Mo_codeLine_926 ?_
                      refine ugfN (v := .ref (yP y_51 b_55 30)) G hP c_57 iMw rfl 30 (by decide) rfl q2764 rfl rfl d_Mo_codeLine_929 ?_
                      refine lv_iload G.1 G.2.1 d_Mo_codeLine_932 (lv_at hl 0 rfl) ?_
                      refine lv_iload_n G.1 G.2.1 d_Mo_codeLine_934 rfl (lv_at hl 2 rfl) ?_
                      refine lv_i2b G.1 G.2.1 d_Mo_codeLine_935 rfl ?_
                      refine ubast G hP hD hS (kdp c_57 rfl) (typ c_57 rfl) h d_Mo_codeLine_936 (fun s_58 H locs h hP hD hS => ?_)
                      refine lv_aload_n G.1 G.2.1 d_Mo_codeLine_937 rfl (lv_at hl 1 rfl) ?_
                      obtain ⟨b_59, e_60, c_61, h⟩ := h
                      refine ugf (v := .ref (ad b_59)) G hP h_a0 iMo rfl 45 (by decide) rfl q3109 rfl (by show va_rf ((sO s_58 a0 45).map ad) = _; rw [e_60]; rfl) d_Mo_codeLine_938 ?_
                      refine W.eq (g2 := F0 m 941 ls [.ref (ad b_59)]) rfl ?_
                      refine ugfN (v := .ref (yP y_51 b_59 31)) G hP c_61 iMw rfl 31 (by decide) rfl q2766 rfl rfl d_Mo_codeLine_941 ?_
                      refine lv_iload G.1 G.2.1 d_Mo_codeLine_944 (lv_at hl 0 rfl) ?_
                      refine lv_iload_n G.1 G.2.1 d_Mo_codeLine_946 rfl (lv_at hl 3 rfl) ?_
                      refine uiast G hP hD hS (kdp c_61 rfl) (typ c_61 rfl) h d_Mo_codeLine_947 (fun s_62 H locs h hP hD hS => ?_)
                      refine lv_aload_n G.1 G.2.1 d_Mo_codeLine_948 rfl (lv_at hl 1 rfl) ?_
                      obtain ⟨b_63, e_64, c_65, h⟩ := h
                      refine ugf (v := .ref (ad b_63)) G hP h_a0 iMo rfl 45 (by decide) rfl q3109 rfl (by show va_rf ((sO s_62 a0 45).map ad) = _; rw [e_64]; rfl) d_Mo_codeLine_949 ?_
                      refine ugfN (v := .ref (yP y_51 b_63 32)) G hP c_65 iMw rfl 32 (by decide) rfl q2768 rfl rfl d_Mo_codeLine_952 ?_
                      refine lv_iload G.1 G.2.1 d_Mo_codeLine_955 (lv_at hl 0 rfl) ?_
                      refine lv_iload G.1 G.2.1 d_Mo_codeLine_957 (lv_at hl 4 rfl) ?_
                      refine uiast G hP hD hS (kdp c_65 rfl) (typ c_65 rfl) h d_Mo_codeLine_959 (fun s_66 H locs h hP hD hS => ?_)
                      refine lv_aload_n G.1 G.2.1 d_Mo_codeLine_960 rfl (lv_at hl 1 rfl) ?_
                      obtain ⟨b_67, e_68, c_69, h⟩ := h
                      refine ugf (v := .ref (ad b_67)) G hP h_a0 iMo rfl 45 (by decide) rfl q3109 rfl (by show va_rf ((sO s_66 a0 45).map ad) = _; rw [e_68]; rfl) d_Mo_codeLine_961 ?_
                      refine W.eq (g2 := F0 m 964 ls [.ref (ad b_67)]) rfl ?_
                      refine ugfN (v := .ref (yP y_51 b_67 33)) G hP c_69 iMw rfl 33 (by decide) rfl q2770 rfl rfl d_Mo_codeLine_964 ?_
                      refine lv_iload G.1 G.2.1 d_Mo_codeLine_967 (lv_at hl 0 rfl) ?_
                      refine lv_iload G.1 G.2.1 d_Mo_codeLine_969 (lv_at hl 5 rfl) ?_
                      refine uiast G hP hD hS (kdp c_69 rfl) (typ c_69 rfl) h d_Mo_codeLine_971 (fun s_70 H locs h hP hD hS => ?_)
                      refine lv_aload_n G.1 G.2.1 d_Mo_codeLine_972 rfl (lv_at hl 1 rfl) ?_
                      obtain ⟨b_71, e_72, c_73, h⟩ := h
                      refine ugf (v := .ref (ad b_71)) G hP h_a0 iMo rfl 45 (by decide) rfl q3109 rfl (by show va_rf ((sO s_70 a0 45).map ad) = _; rw [e_72]; rfl) d_Mo_codeLine_973 ?_
                      refine ugfN (v := .ref (yP y_51 b_71 34)) G hP c_73 iMw rfl 34 (by decide) rfl q2772 rfl rfl d_Mo_codeLine_976 ?_
                      refine lv_iload G.1 G.2.1 d_Mo_codeLine_979 (lv_at hl 0 rfl) ?_
                      refine lv_aload_n G.1 G.2.1 d_Mo_codeLine_981 rfl (lv_at hl 1 rfl) ?_
                      refine ugf (v := .int (sV s_70 a0 65)) G hP h_a0 iMo rfl 65 (by decide) rfl q3129 rfl rfl d_Mo_codeLine_982 ?_
                      refine uiast G hP hD hS (kdp c_73 rfl) (typ c_73 rfl) h d_Mo_codeLine_985 (fun s_74 H locs h hP hD hS => ?_)
                      refine lv_aload_n G.1 G.2.1 d_Mo_codeLine_986 rfl (lv_at hl 1 rfl) ?_
                      refine W.eq (g2 := F0 m 987 ls [.ref (ad a0)]) rfl ?_
                      refine lv_iconst (v := 0) G.1 G.2.1 d_Mo_codeLine_987 (by decide) ?_
                      refine upf G hP hD hS h 65 putV h_a0 iMo tMo tMo_ok nMo rfl (by decide) rfl q3129 rfl rfl fV rfl rfl d_Mo_codeLine_988 (fun s_75 H locs h hP hD hS => ?_)
                      refine lv_aload_n G.1 G.2.1 d_Mo_codeLine_991 rfl (lv_at hl 1 rfl) ?_
                      obtain ⟨b_76, e_77, c_78, h⟩ := h
                      refine ugf (v := .ref (ad b_76)) G hP h_a0 iMo rfl 45 (by decide) rfl q3109 rfl (by show va_rf ((sO s_75 a0 45).map ad) = _; rw [e_77]; rfl) d_Mo_codeLine_992 ?_
                      refine lv_dup G.1 G.2.1 d_Mo_codeLine_995 rfl ?_
                      refine ugfN (v := .int (sV s_75 b_76 35)) G hP c_78 iMw rfl 35 (by decide) rfl q2773 rfl rfl d_Mo_codeLine_996 ?_
                      refine lv_iconst (v := 1) G.1 G.2.1 d_Mo_codeLine_999 (by decide) ?_
                      refine lv_iadd G.1 G.2.1 d_Mo_codeLine_1000 ?_
                      refine upfN G hP hD hS h 35 putV c_78 iMw tMw tMw_ok nMw rfl (by decide) rfl q2773 rfl rfl fV rfl rfl d_Mo_codeLine_1001 (fun s_79 H locs h hP hD hS => ?_)
                      refine lv_aload_n G.1 G.2.1 d_Mo_codeLine_1004 rfl (lv_at hl 1 rfl) ?_
                      obtain ⟨b_80, e_81, c_82, h⟩ := h
                      refine ugf (v := .ref (ad b_80)) G hP h_a0 iMo rfl 45 (by decide) rfl q3109 rfl (by show va_rf ((sO s_79 a0 45).map ad) = _; rw [e_81]; rfl) d_Mo_codeLine_1005 ?_
                      refine ugfN (v := .ref (yP y_51 b_80 24)) G hP c_82 iMw rfl 24 (by decide) rfl q2752 rfl rfl d_Mo_codeLine_1008 ?_
                      refine W.eq (g2 := F0 m 1011 ls [.ref (yP y_51 b_80 24)]) rfl ?_
                      refine lv_aload_n G.1 G.2.1 d_Mo_codeLine_1011 rfl (lv_at hl 1 rfl) ?_
                      refine ugf (v := .int (sV s_79 a0 54)) G hP h_a0 iMo rfl 54 (by decide) rfl q3118 rfl rfl d_Mo_codeLine_1012 ?_
                      refine lv_dup2_11 G.1 G.2.1 d_Mo_codeLine_1015 rfl rfl ?_
                      refine uiald G hP (kdp c_82 rfl) (typ c_82 rfl) h d_Mo_codeLine_1016 (fun x_83 h => ?_)
                      refine lv_iconst (v := 1) G.1 G.2.1 d_Mo_codeLine_1017 (by decide) ?_
                      refine lv_iadd G.1 G.2.1 d_Mo_codeLine_1018 ?_
                      refine uiast G hP hD hS (kdp c_82 rfl) (typ c_82 rfl) h d_Mo_codeLine_1019 (fun s_84 H locs h hP hD hS => ?_)
                      exact hret (y_51, s_84, d_53, e_54) _ _ _ _ _ ls h hP hD hS (Nat.le_refl _) (Nat.le_refl _) hd.1 hd.2 d_Mo_codeLine_1020
                    refine lv_icmp_ne (tgt := 807) G.1 G.2.1 d_Mo_codeLine_800 (by decide) (fun c800 => ?_) (fun c800 => ?_)
                    · skip
                      have h := h.1 c800
                      refine lv_iconst (v := 0) G.1 G.2.1 d_Mo_codeLine_807 (by decide) ?_
                      exact J_808 y_12 s_11 (d_j789 + d_13) (e_j789 + e_14) x2j789 x3j789 x4j789 x5j789 12 0 H locs h hP hD hS ls (lv_sub hl [0, 2, 3, 4, 5] rfl)
                    · skip
                      have h := h.2 c800
                      refine lv_iconst (v := 1) G.1 G.2.1 d_Mo_codeLine_803 (by decide) ?_
                      refine lv_goto (tgt := 808) G.1 G.2.1 d_Mo_codeLine_804 (by decide) ?_
                      exact J_808 y_12 s_11 (d_j789 + d_13) (e_j789 + e_14) x2j789 x3j789 x4j789 x5j789 12 1 H locs h hP hD hS ls (lv_sub hl [0, 2, 3, 4, 5] rfl)
                  by_cases e291_1 : x2j272 = 1
                  · skip
                    have h := h.1 e291_1
                    refine lv_tableIn (off := 267) (tgt := 558) G.1 G.2.1 d_Mo_codeLine_291 (by rw [e291_1]; decide) (by rw [e291_1]; decide) (by rw [e291_1]; rfl) (by decide) ?_
                    refine lv_aload_n G.1 G.2.1 d_Mo_codeLine_558 rfl (lv_at hl 3 rfl) ?_
                    refine lv_ldcw (v := (-2147483648)) G.1 G.2.1 G.2.2.2.2.2.2.1 (G.2.2.2.2.2.1 _ q3534) d_Mo_codeLine_559 ?_
                    refine lv_ldcw (v := 2147483647) G.1 G.2.1 G.2.2.2.2.2.2.1 (G.2.2.2.2.2.1 _ q3591) d_Mo_codeLine_562 ?_
                    obtain ⟨mc_90, ms_91, hr_92, h⟩ := h
                    refine uxVi (As := [.int (-2147483648), .int 2147483647]) (rest := []) G hP hD hS (cx_Mo_numberIn l D g ad mc_90 ms_91 y_j272 _ _ s_9 a0 (-2147483648) 2147483647 H.size (us H) h_a0 h) (fun _ h => absurd h List.not_mem_nil) w9_Mo_numberIn q3592 ⟨Nat.le_of_ble_eq_true rfl, Nat.le_of_ble_eq_true rfl⟩ rfl rfl h_a0 (q := (RMo, TMo, 131)) rfl rfl hl.1 rfl (Nat.le_of_ble_eq_true rfl) rfl hr_92 d_Mo_codeLine_565 (fun y_87 s_86 d_88 e_89 H locs q9 ce h hP hD hS hce hcv hcl => ?_) (fun r_85 y_87 s_86 d_88 e_89 H locs h hP hD hS => ?_)
                    · skip
                      obtain ⟨hd, h⟩ := h
                      exact hretX h hP hD hS hd.1 hd.2 hce hcv hcl
                    have hl := lv_sub (l' := [(5, .int 0), (4, .int 0), (0, .ref (ad a0)), (1, .int x1j272), (2, .int x2j272)]) hl [0, 1, 3, 4, 5] rfl
                    obtain ⟨hd, h⟩ := h
                    refine lv_istore_n (lv' := [(3, .int r_85), (5, .int 0), (4, .int 0), (0, .ref (ad a0)), (1, .int x1j272), (2, .int x2j272)]) G.1 G.2.1 d_Mo_codeLine_568 rfl hl (by decide) rfl (fun ls hl => ?_)
                    refine lv_goto (tgt := 789) G.1 G.2.1 d_Mo_codeLine_569 (by decide) ?_
                    exact J_789 y_87 s_86 (d_j272 + d_88) (e_j272 + e_89) x1j272 x2j272 r_85 0 0 H locs h hP hD hS ls (lv_sub hl [3, 4, 5, 0, 2, 1] rfl)
                  replace h := h.2 e291_1
                  by_cases e291_2 : x2j272 = 2
                  · skip
                    have h := h.1 e291_2
                    refine lv_tableIn (off := 498) (tgt := 789) G.1 G.2.1 d_Mo_codeLine_291 (by rw [e291_2]; decide) (by rw [e291_2]; decide) (by rw [e291_2]; rfl) (by decide) ?_
                    exact J_789 y_j272 s_9 d_j272 e_j272 x1j272 x2j272 0 0 0 H locs h hP hD hS ls (lv_sub hl [3, 4, 5, 2, 1, 0] rfl)
                  replace h := h.2 e291_2
                  by_cases e291_3 : x2j272 = 3
                  · skip
                    have h := h.1 e291_3
                    refine lv_tableIn (off := 233) (tgt := 524) G.1 G.2.1 d_Mo_codeLine_291 (by rw [e291_3]; decide) (by rw [e291_3]; decide) (by rw [e291_3]; rfl) (by decide) ?_
                    refine lv_aload_n G.1 G.2.1 d_Mo_codeLine_524 rfl (lv_at hl 3 rfl) ?_
                    refine lv_iconst (v := 0) G.1 G.2.1 d_Mo_codeLine_525 (by decide) ?_
                    refine lv_bipush (v := 19) G.1 G.2.1 d_Mo_codeLine_526 (by decide) ?_
                    obtain ⟨mc_98, ms_99, hr_100, h⟩ := h
                    refine uxVi (As := [.int 0, .int 19]) (rest := []) G hP hD hS (cx_Mo_numberIn l D g ad mc_98 ms_99 y_j272 _ _ s_9 a0 0 19 H.size (us H) h_a0 h) (fun _ h => absurd h List.not_mem_nil) w9_Mo_numberIn q3592 ⟨Nat.le_of_ble_eq_true rfl, Nat.le_of_ble_eq_true rfl⟩ rfl rfl h_a0 (q := (RMo, TMo, 131)) rfl rfl hl.1 rfl (Nat.le_of_ble_eq_true rfl) rfl hr_100 d_Mo_codeLine_528 (fun y_95 s_94 d_96 e_97 H locs q9 ce h hP hD hS hce hcv hcl => ?_) (fun r_93 y_95 s_94 d_96 e_97 H locs h hP hD hS => ?_)
                    · skip
                      obtain ⟨hd, h⟩ := h
                      exact hretX h hP hD hS hd.1 hd.2 hce hcv hcl
                    have hl := lv_sub (l' := [(5, .int 0), (4, .int 0), (0, .ref (ad a0)), (1, .int x1j272), (2, .int x2j272)]) hl [0, 1, 3, 4, 5] rfl
                    obtain ⟨hd, h⟩ := h
                    refine lv_istore_n (lv' := [(3, .int r_93), (5, .int 0), (4, .int 0), (0, .ref (ad a0)), (1, .int x1j272), (2, .int x2j272)]) G.1 G.2.1 d_Mo_codeLine_531 rfl hl (by decide) rfl (fun ls hl => ?_)
                    refine lv_goto (tgt := 789) G.1 G.2.1 d_Mo_codeLine_532 (by decide) ?_
                    exact J_789 y_95 s_94 (d_j272 + d_96) (e_j272 + e_97) x1j272 x2j272 r_93 0 0 H locs h hP hD hS ls (lv_sub hl [3, 4, 5, 0, 2, 1] rfl)
                  replace h := h.2 e291_3
                  by_cases e291_4 : x2j272 = 4
                  · skip
                    have h := h.1 e291_4
                    refine lv_tableIn (off := 233) (tgt := 524) G.1 G.2.1 d_Mo_codeLine_291 (by rw [e291_4]; decide) (by rw [e291_4]; decide) (by rw [e291_4]; rfl) (by decide) ?_
                    refine lv_aload_n G.1 G.2.1 d_Mo_codeLine_524 rfl (lv_at hl 3 rfl) ?_
                    refine lv_iconst (v := 0) G.1 G.2.1 d_Mo_codeLine_525 (by decide) ?_
                    refine lv_bipush (v := 19) G.1 G.2.1 d_Mo_codeLine_526 (by decide) ?_
                    obtain ⟨mc_106, ms_107, hr_108, h⟩ := h
                    refine uxVi (As := [.int 0, .int 19]) (rest := []) G hP hD hS (cx_Mo_numberIn l D g ad mc_106 ms_107 y_j272 _ _ s_9 a0 0 19 H.size (us H) h_a0 h) (fun _ h => absurd h List.not_mem_nil) w9_Mo_numberIn q3592 ⟨Nat.le_of_ble_eq_true rfl, Nat.le_of_ble_eq_true rfl⟩ rfl rfl h_a0 (q := (RMo, TMo, 131)) rfl rfl hl.1 rfl (Nat.le_of_ble_eq_true rfl) rfl hr_108 d_Mo_codeLine_528 (fun y_103 s_102 d_104 e_105 H locs q9 ce h hP hD hS hce hcv hcl => ?_) (fun r_101 y_103 s_102 d_104 e_105 H locs h hP hD hS => ?_)
                    · skip
                      obtain ⟨hd, h⟩ := h
                      exact hretX h hP hD hS hd.1 hd.2 hce hcv hcl
                    have hl := lv_sub (l' := [(5, .int 0), (4, .int 0), (0, .ref (ad a0)), (1, .int x1j272), (2, .int x2j272)]) hl [0, 1, 3, 4, 5] rfl
                    obtain ⟨hd, h⟩ := h
                    refine lv_istore_n (lv' := [(3, .int r_101), (5, .int 0), (4, .int 0), (0, .ref (ad a0)), (1, .int x1j272), (2, .int x2j272)]) G.1 G.2.1 d_Mo_codeLine_531 rfl hl (by decide) rfl (fun ls hl => ?_)
                    refine lv_goto (tgt := 789) G.1 G.2.1 d_Mo_codeLine_532 (by decide) ?_
                    exact J_789 y_103 s_102 (d_j272 + d_104) (e_j272 + e_105) x1j272 x2j272 r_101 0 0 H locs h hP hD hS ls (lv_sub hl [3, 4, 5, 0, 2, 1] rfl)
                  replace h := h.2 e291_4
                  by_cases e291_5 : x2j272 = 5
                  · skip
                    have h := h.1 e291_5
                    refine lv_tableIn (off := 233) (tgt := 524) G.1 G.2.1 d_Mo_codeLine_291 (by rw [e291_5]; decide) (by rw [e291_5]; decide) (by rw [e291_5]; rfl) (by decide) ?_
                    refine lv_aload_n G.1 G.2.1 d_Mo_codeLine_524 rfl (lv_at hl 3 rfl) ?_
                    refine lv_iconst (v := 0) G.1 G.2.1 d_Mo_codeLine_525 (by decide) ?_
                    refine lv_bipush (v := 19) G.1 G.2.1 d_Mo_codeLine_526 (by decide) ?_
                    obtain ⟨mc_114, ms_115, hr_116, h⟩ := h
                    refine uxVi (As := [.int 0, .int 19]) (rest := []) G hP hD hS (cx_Mo_numberIn l D g ad mc_114 ms_115 y_j272 _ _ s_9 a0 0 19 H.size (us H) h_a0 h) (fun _ h => absurd h List.not_mem_nil) w9_Mo_numberIn q3592 ⟨Nat.le_of_ble_eq_true rfl, Nat.le_of_ble_eq_true rfl⟩ rfl rfl h_a0 (q := (RMo, TMo, 131)) rfl rfl hl.1 rfl (Nat.le_of_ble_eq_true rfl) rfl hr_116 d_Mo_codeLine_528 (fun y_111 s_110 d_112 e_113 H locs q9 ce h hP hD hS hce hcv hcl => ?_) (fun r_109 y_111 s_110 d_112 e_113 H locs h hP hD hS => ?_)
                    · skip
                      obtain ⟨hd, h⟩ := h
                      exact hretX h hP hD hS hd.1 hd.2 hce hcv hcl
                    have hl := lv_sub (l' := [(5, .int 0), (4, .int 0), (0, .ref (ad a0)), (1, .int x1j272), (2, .int x2j272)]) hl [0, 1, 3, 4, 5] rfl
                    obtain ⟨hd, h⟩ := h
                    refine lv_istore_n (lv' := [(3, .int r_109), (5, .int 0), (4, .int 0), (0, .ref (ad a0)), (1, .int x1j272), (2, .int x2j272)]) G.1 G.2.1 d_Mo_codeLine_531 rfl hl (by decide) rfl (fun ls hl => ?_)
                    refine lv_goto (tgt := 789) G.1 G.2.1 d_Mo_codeLine_532 (by decide) ?_
                    exact J_789 y_111 s_110 (d_j272 + d_112) (e_j272 + e_113) x1j272 x2j272 r_109 0 0 H locs h hP hD hS ls (lv_sub hl [3, 4, 5, 0, 2, 1] rfl)
                  replace h := h.2 e291_5
                  by_cases e291_6 : x2j272 = 6
                  · skip
                    have h := h.1 e291_6
                    refine lv_tableIn (off := 233) (tgt := 524) G.1 G.2.1 d_Mo_codeLine_291 (by rw [e291_6]; decide) (by rw [e291_6]; decide) (by rw [e291_6]; rfl) (by decide) ?_
                    refine lv_aload_n G.1 G.2.1 d_Mo_codeLine_524 rfl (lv_at hl 3 rfl) ?_
                    refine lv_iconst (v := 0) G.1 G.2.1 d_Mo_codeLine_525 (by decide) ?_
                    refine lv_bipush (v := 19) G.1 G.2.1 d_Mo_codeLine_526 (by decide) ?_
                    obtain ⟨mc_122, ms_123, hr_124, h⟩ := h
                    refine uxVi (As := [.int 0, .int 19]) (rest := []) G hP hD hS (cx_Mo_numberIn l D g ad mc_122 ms_123 y_j272 _ _ s_9 a0 0 19 H.size (us H) h_a0 h) (fun _ h => absurd h List.not_mem_nil) w9_Mo_numberIn q3592 ⟨Nat.le_of_ble_eq_true rfl, Nat.le_of_ble_eq_true rfl⟩ rfl rfl h_a0 (q := (RMo, TMo, 131)) rfl rfl hl.1 rfl (Nat.le_of_ble_eq_true rfl) rfl hr_124 d_Mo_codeLine_528 (fun y_119 s_118 d_120 e_121 H locs q9 ce h hP hD hS hce hcv hcl => ?_) (fun r_117 y_119 s_118 d_120 e_121 H locs h hP hD hS => ?_)
                    · skip
                      obtain ⟨hd, h⟩ := h
                      exact hretX h hP hD hS hd.1 hd.2 hce hcv hcl
                    have hl := lv_sub (l' := [(5, .int 0), (4, .int 0), (0, .ref (ad a0)), (1, .int x1j272), (2, .int x2j272)]) hl [0, 1, 3, 4, 5] rfl
                    obtain ⟨hd, h⟩ := h
                    refine lv_istore_n (lv' := [(3, .int r_117), (5, .int 0), (4, .int 0), (0, .ref (ad a0)), (1, .int x1j272), (2, .int x2j272)]) G.1 G.2.1 d_Mo_codeLine_531 rfl hl (by decide) rfl (fun ls hl => ?_)
                    refine lv_goto (tgt := 789) G.1 G.2.1 d_Mo_codeLine_532 (by decide) ?_
                    exact J_789 y_119 s_118 (d_j272 + d_120) (e_j272 + e_121) x1j272 x2j272 r_117 0 0 H locs h hP hD hS ls (lv_sub hl [3, 4, 5, 0, 2, 1] rfl)
                  replace h := h.2 e291_6
                  by_cases e291_7 : x2j272 = 7
                  · skip
                    have h := h.1 e291_7
                    refine lv_tableIn (off := 244) (tgt := 535) G.1 G.2.1 d_Mo_codeLine_291 (by rw [e291_7]; decide) (by rw [e291_7]; decide) (by rw [e291_7]; rfl) (by decide) ?_
                    refine lv_aload_n G.1 G.2.1 d_Mo_codeLine_535 rfl (lv_at hl 3 rfl) ?_
                    refine lv_iconst (v := 0) G.1 G.2.1 d_Mo_codeLine_536 (by decide) ?_
                    refine lv_bipush (v := 19) G.1 G.2.1 d_Mo_codeLine_537 (by decide) ?_
                    obtain ⟨mc_130, ms_131, hr_132, h⟩ := h
                    refine uxVi (As := [.int 0, .int 19]) (rest := []) G hP hD hS (cx_Mo_numberIn l D g ad mc_130 ms_131 y_j272 _ _ s_9 a0 0 19 H.size (us H) h_a0 h) (fun _ h => absurd h List.not_mem_nil) w9_Mo_numberIn q3592 ⟨Nat.le_of_ble_eq_true rfl, Nat.le_of_ble_eq_true rfl⟩ rfl rfl h_a0 (q := (RMo, TMo, 131)) rfl rfl hl.1 rfl (Nat.le_of_ble_eq_true rfl) rfl hr_132 d_Mo_codeLine_539 (fun y_127 s_126 d_128 e_129 H locs q9 ce h hP hD hS hce hcv hcl => ?_) (fun r_125 y_127 s_126 d_128 e_129 H locs h hP hD hS => ?_)
                    · skip
                      obtain ⟨hd, h⟩ := h
                      exact hretX h hP hD hS hd.1 hd.2 hce hcv hcl
                    have hl := lv_sub (l' := [(5, .int 0), (0, .ref (ad a0)), (1, .int x1j272), (2, .int x2j272)]) hl [0, 3, 4, 5] rfl
                    obtain ⟨hd, h⟩ := h
                    refine lv_istore_n (lv' := [(3, .int r_125), (5, .int 0), (0, .ref (ad a0)), (1, .int x1j272), (2, .int x2j272)]) G.1 G.2.1 d_Mo_codeLine_542 rfl hl (by decide) rfl (fun ls hl => ?_)
                    refine lv_aload_n G.1 G.2.1 d_Mo_codeLine_543 rfl (lv_at hl 2 rfl) ?_
                    refine lv_ldcw (v := (-2147483648)) G.1 G.2.1 G.2.2.2.2.2.2.1 (G.2.2.2.2.2.1 _ q3534) d_Mo_codeLine_544 ?_
                    refine lv_ldcw (v := 2147483647) G.1 G.2.1 G.2.2.2.2.2.2.1 (G.2.2.2.2.2.1 _ q3591) d_Mo_codeLine_547 ?_
                    obtain ⟨mc_138, ms_139, hr_140, h⟩ := h
                    refine uxVi (As := [.int (-2147483648), .int 2147483647]) (rest := []) G hP hD hS (cx_Mo_numberIn l D g ad mc_138 ms_139 y_127 _ _ s_126 a0 (-2147483648) 2147483647 H.size (us H) h_a0 h) (fun _ h => absurd h List.not_mem_nil) w9_Mo_numberIn q3592 ⟨Nat.le_of_ble_eq_true rfl, Nat.le_of_ble_eq_true rfl⟩ rfl rfl h_a0 (q := (RMo, TMo, 131)) rfl rfl hl.1 rfl (Nat.le_of_ble_eq_true rfl) rfl hr_140 d_Mo_codeLine_550 (fun y_135 s_134 d_136 e_137 H locs q9 ce h hP hD hS hce hcv hcl => ?_) (fun r_133 y_135 s_134 d_136 e_137 H locs h hP hD hS => ?_)
                    · skip
                      obtain ⟨hd, h⟩ := h
                      exact hretX h hP hD hS hd.1 hd.2 hce hcv hcl
                    obtain ⟨hd, h⟩ := h
                    refine W.eq (g2 := F0 m 553 ls [.int r_133]) rfl ?_
                    refine lv_istore (lv' := [(4, .int r_133), (3, .int r_125), (5, .int 0), (0, .ref (ad a0)), (1, .int x1j272), (2, .int x2j272)]) G.1 G.2.1 d_Mo_codeLine_553 hl (by decide) rfl (fun ls hl => ?_)
                    refine lv_goto (tgt := 789) G.1 G.2.1 d_Mo_codeLine_555 (by decide) ?_
                    exact J_789 y_135 s_134 (d_j272 + d_128 + d_136) (e_j272 + e_129 + e_137) x1j272 x2j272 r_125 r_133 0 H locs h hP hD hS ls (lv_sub hl [3, 4, 5, 1, 0, 2] rfl)
                  replace h := h.2 e291_7
                  by_cases e291_8 : x2j272 = 8
                  · skip
                    have h := h.1 e291_8
                    refine lv_tableIn (off := 498) (tgt := 789) G.1 G.2.1 d_Mo_codeLine_291 (by rw [e291_8]; decide) (by rw [e291_8]; decide) (by rw [e291_8]; rfl) (by decide) ?_
                    exact J_789 y_j272 s_9 d_j272 e_j272 x1j272 x2j272 0 0 0 H locs h hP hD hS ls (lv_sub hl [3, 4, 5, 2, 1, 0] rfl)
                  replace h := h.2 e291_8
                  by_cases e291_9 : x2j272 = 9
                  · skip
                    have h := h.1 e291_9
                    refine lv_tableIn (off := 498) (tgt := 789) G.1 G.2.1 d_Mo_codeLine_291 (by rw [e291_9]; decide) (by rw [e291_9]; decide) (by rw [e291_9]; rfl) (by decide) ?_
                    exact J_789 y_j272 s_9 d_j272 e_j272 x1j272 x2j272 0 0 0 H locs h hP hD hS ls (lv_sub hl [3, 4, 5, 2, 1, 0] rfl)
                  replace h := h.2 e291_9
                  by_cases e291_10 : x2j272 = 10
                  · skip
                    have h := h.1 e291_10
                    refine lv_tableIn (off := 498) (tgt := 789) G.1 G.2.1 d_Mo_codeLine_291 (by rw [e291_10]; decide) (by rw [e291_10]; decide) (by rw [e291_10]; rfl) (by decide) ?_
                    exact J_789 y_j272 s_9 d_j272 e_j272 x1j272 x2j272 0 0 0 H locs h hP hD hS ls (lv_sub hl [3, 4, 5, 2, 1, 0] rfl)
                  replace h := h.2 e291_10
                  by_cases e291_11 : x2j272 = 11
                  · skip
                    have h := h.1 e291_11
                    refine lv_tableIn (off := 498) (tgt := 789) G.1 G.2.1 d_Mo_codeLine_291 (by rw [e291_11]; decide) (by rw [e291_11]; decide) (by rw [e291_11]; rfl) (by decide) ?_
                    exact J_789 y_j272 s_9 d_j272 e_j272 x1j272 x2j272 0 0 0 H locs h hP hD hS ls (lv_sub hl [3, 4, 5, 2, 1, 0] rfl)
                  replace h := h.2 e291_11
                  by_cases e291_12 : x2j272 = 12
                  · skip
                    have h := h.1 e291_12
                    refine lv_tableIn (off := 498) (tgt := 789) G.1 G.2.1 d_Mo_codeLine_291 (by rw [e291_12]; decide) (by rw [e291_12]; decide) (by rw [e291_12]; rfl) (by decide) ?_
                    exact J_789 y_j272 s_9 d_j272 e_j272 x1j272 x2j272 0 0 0 H locs h hP hD hS ls (lv_sub hl [3, 4, 5, 2, 1, 0] rfl)
                  replace h := h.2 e291_12
                  by_cases e291_13 : x2j272 = 13
                  · skip
                    have h := h.1 e291_13
                    refine lv_tableIn (off := 498) (tgt := 789) G.1 G.2.1 d_Mo_codeLine_291 (by rw [e291_13]; decide) (by rw [e291_13]; decide) (by rw [e291_13]; rfl) (by decide) ?_
                    exact J_789 y_j272 s_9 d_j272 e_j272 x1j272 x2j272 0 0 0 H locs h hP hD hS ls (lv_sub hl [3, 4, 5, 2, 1, 0] rfl)
                  replace h := h.2 e291_13
                  by_cases e291_14 : x2j272 = 14
                  · skip
                    have h := h.1 e291_14
                    refine lv_tableIn (off := 498) (tgt := 789) G.1 G.2.1 d_Mo_codeLine_291 (by rw [e291_14]; decide) (by rw [e291_14]; decide) (by rw [e291_14]; rfl) (by decide) ?_
                    exact J_789 y_j272 s_9 d_j272 e_j272 x1j272 x2j272 0 0 0 H locs h hP hD hS ls (lv_sub hl [3, 4, 5, 2, 1, 0] rfl)
                  replace h := h.2 e291_14
                  by_cases e291_15 : x2j272 = 15
                  · skip
                    have h := h.1 e291_15
                    refine lv_tableIn (off := 498) (tgt := 789) G.1 G.2.1 d_Mo_codeLine_291 (by rw [e291_15]; decide) (by rw [e291_15]; decide) (by rw [e291_15]; rfl) (by decide) ?_
                    exact J_789 y_j272 s_9 d_j272 e_j272 x1j272 x2j272 0 0 0 H locs h hP hD hS ls (lv_sub hl [3, 4, 5, 2, 1, 0] rfl)
                  replace h := h.2 e291_15
                  by_cases e291_16 : x2j272 = 16
                  · skip
                    have h := h.1 e291_16
                    refine lv_tableIn (off := 498) (tgt := 789) G.1 G.2.1 d_Mo_codeLine_291 (by rw [e291_16]; decide) (by rw [e291_16]; decide) (by rw [e291_16]; rfl) (by decide) ?_
                    exact J_789 y_j272 s_9 d_j272 e_j272 x1j272 x2j272 0 0 0 H locs h hP hD hS ls (lv_sub hl [3, 4, 5, 2, 1, 0] rfl)
                  replace h := h.2 e291_16
                  by_cases e291_17 : x2j272 = 17
                  · skip
                    have h := h.1 e291_17
                    refine lv_tableIn (off := 498) (tgt := 789) G.1 G.2.1 d_Mo_codeLine_291 (by rw [e291_17]; decide) (by rw [e291_17]; decide) (by rw [e291_17]; rfl) (by decide) ?_
                    exact J_789 y_j272 s_9 d_j272 e_j272 x1j272 x2j272 0 0 0 H locs h hP hD hS ls (lv_sub hl [3, 4, 5, 2, 1, 0] rfl)
                  replace h := h.2 e291_17
                  by_cases e291_18 : x2j272 = 18
                  · skip
                    have h := h.1 e291_18
                    refine lv_tableIn (off := 498) (tgt := 789) G.1 G.2.1 d_Mo_codeLine_291 (by rw [e291_18]; decide) (by rw [e291_18]; decide) (by rw [e291_18]; rfl) (by decide) ?_
                    exact J_789 y_j272 s_9 d_j272 e_j272 x1j272 x2j272 0 0 0 H locs h hP hD hS ls (lv_sub hl [3, 4, 5, 2, 1, 0] rfl)
                  replace h := h.2 e291_18
                  by_cases e291_19 : x2j272 = 19
                  · skip
                    have h := h.1 e291_19
                    refine lv_tableIn (off := 498) (tgt := 789) G.1 G.2.1 d_Mo_codeLine_291 (by rw [e291_19]; decide) (by rw [e291_19]; decide) (by rw [e291_19]; rfl) (by decide) ?_
                    exact J_789 y_j272 s_9 d_j272 e_j272 x1j272 x2j272 0 0 0 H locs h hP hD hS ls (lv_sub hl [3, 4, 5, 2, 1, 0] rfl)
                  replace h := h.2 e291_19
                  by_cases e291_20 : x2j272 = 20
                  · skip
                    have h := h.1 e291_20
                    refine lv_tableIn (off := 498) (tgt := 789) G.1 G.2.1 d_Mo_codeLine_291 (by rw [e291_20]; decide) (by rw [e291_20]; decide) (by rw [e291_20]; rfl) (by decide) ?_
                    exact J_789 y_j272 s_9 d_j272 e_j272 x1j272 x2j272 0 0 0 H locs h hP hD hS ls (lv_sub hl [3, 4, 5, 2, 1, 0] rfl)
                  replace h := h.2 e291_20
                  by_cases e291_21 : x2j272 = 21
                  · skip
                    have h := h.1 e291_21
                    refine lv_tableIn (off := 498) (tgt := 789) G.1 G.2.1 d_Mo_codeLine_291 (by rw [e291_21]; decide) (by rw [e291_21]; decide) (by rw [e291_21]; rfl) (by decide) ?_
                    exact J_789 y_j272 s_9 d_j272 e_j272 x1j272 x2j272 0 0 0 H locs h hP hD hS ls (lv_sub hl [3, 4, 5, 2, 1, 0] rfl)
                  replace h := h.2 e291_21
                  by_cases e291_22 : x2j272 = 22
                  · skip
                    have h := h.1 e291_22
                    refine lv_tableIn (off := 498) (tgt := 789) G.1 G.2.1 d_Mo_codeLine_291 (by rw [e291_22]; decide) (by rw [e291_22]; decide) (by rw [e291_22]; rfl) (by decide) ?_
                    exact J_789 y_j272 s_9 d_j272 e_j272 x1j272 x2j272 0 0 0 H locs h hP hD hS ls (lv_sub hl [3, 4, 5, 2, 1, 0] rfl)
                  replace h := h.2 e291_22
                  by_cases e291_23 : x2j272 = 23
                  · skip
                    have h := h.1 e291_23
                    refine lv_tableIn (off := 281) (tgt := 572) G.1 G.2.1 d_Mo_codeLine_291 (by rw [e291_23]; decide) (by rw [e291_23]; decide) (by rw [e291_23]; rfl) (by decide) ?_
                    refine lv_aload_n G.1 G.2.1 d_Mo_codeLine_572 rfl (lv_at hl 3 rfl) ?_
                    obtain ⟨mc_146, ms_147, hr_148, h⟩ := h
                    refine uxVi (As := []) (rest := []) G hP hD hS (cx_Mo_usedLabel l D g ad mc_146 ms_147 y_j272 _ _ s_9 a0 H.size (us H) h_a0 h) (fun _ h => absurd h List.not_mem_nil) w9_Mo_usedLabel q3641 ⟨Nat.le_of_ble_eq_true rfl, Nat.le_of_ble_eq_true rfl⟩ rfl rfl h_a0 (q := (RMo, TMo, 131)) rfl rfl hl.1 rfl (Nat.le_of_ble_eq_true rfl) rfl hr_148 d_Mo_codeLine_573 (fun y_143 s_142 d_144 e_145 H locs q9 ce h hP hD hS hce hcv hcl => ?_) (fun r_141 y_143 s_142 d_144 e_145 H locs h hP hD hS => ?_)
                    · skip
                      obtain ⟨hd, h⟩ := h
                      exact hretX h hP hD hS hd.1 hd.2 hce hcv hcl
                    have hl := lv_sub (l' := [(5, .int 0), (4, .int 0), (0, .ref (ad a0)), (1, .int x1j272), (2, .int x2j272)]) hl [0, 1, 3, 4, 5] rfl
                    obtain ⟨hd, h⟩ := h
                    refine lv_istore_n (lv' := [(3, .int r_141), (5, .int 0), (4, .int 0), (0, .ref (ad a0)), (1, .int x1j272), (2, .int x2j272)]) G.1 G.2.1 d_Mo_codeLine_576 rfl hl (by decide) rfl (fun ls hl => ?_)
                    refine lv_goto (tgt := 789) G.1 G.2.1 d_Mo_codeLine_577 (by decide) ?_
                    exact J_789 y_143 s_142 (d_j272 + d_144) (e_j272 + e_145) x1j272 x2j272 r_141 0 0 H locs h hP hD hS ls (lv_sub hl [3, 4, 5, 0, 2, 1] rfl)
                  replace h := h.2 e291_23
                  by_cases e291_24 : x2j272 = 24
                  · skip
                    have h := h.1 e291_24
                    refine lv_tableIn (off := 281) (tgt := 572) G.1 G.2.1 d_Mo_codeLine_291 (by rw [e291_24]; decide) (by rw [e291_24]; decide) (by rw [e291_24]; rfl) (by decide) ?_
                    refine lv_aload_n G.1 G.2.1 d_Mo_codeLine_572 rfl (lv_at hl 3 rfl) ?_
                    obtain ⟨mc_154, ms_155, hr_156, h⟩ := h
                    refine uxVi (As := []) (rest := []) G hP hD hS (cx_Mo_usedLabel l D g ad mc_154 ms_155 y_j272 _ _ s_9 a0 H.size (us H) h_a0 h) (fun _ h => absurd h List.not_mem_nil) w9_Mo_usedLabel q3641 ⟨Nat.le_of_ble_eq_true rfl, Nat.le_of_ble_eq_true rfl⟩ rfl rfl h_a0 (q := (RMo, TMo, 131)) rfl rfl hl.1 rfl (Nat.le_of_ble_eq_true rfl) rfl hr_156 d_Mo_codeLine_573 (fun y_151 s_150 d_152 e_153 H locs q9 ce h hP hD hS hce hcv hcl => ?_) (fun r_149 y_151 s_150 d_152 e_153 H locs h hP hD hS => ?_)
                    · skip
                      obtain ⟨hd, h⟩ := h
                      exact hretX h hP hD hS hd.1 hd.2 hce hcv hcl
                    have hl := lv_sub (l' := [(5, .int 0), (4, .int 0), (0, .ref (ad a0)), (1, .int x1j272), (2, .int x2j272)]) hl [0, 1, 3, 4, 5] rfl
                    obtain ⟨hd, h⟩ := h
                    refine lv_istore_n (lv' := [(3, .int r_149), (5, .int 0), (4, .int 0), (0, .ref (ad a0)), (1, .int x1j272), (2, .int x2j272)]) G.1 G.2.1 d_Mo_codeLine_576 rfl hl (by decide) rfl (fun ls hl => ?_)
                    refine lv_goto (tgt := 789) G.1 G.2.1 d_Mo_codeLine_577 (by decide) ?_
                    exact J_789 y_151 s_150 (d_j272 + d_152) (e_j272 + e_153) x1j272 x2j272 r_149 0 0 H locs h hP hD hS ls (lv_sub hl [3, 4, 5, 0, 2, 1] rfl)
                  replace h := h.2 e291_24
                  by_cases e291_25 : x2j272 = 25
                  · skip
                    have h := h.1 e291_25
                    refine lv_tableIn (off := 281) (tgt := 572) G.1 G.2.1 d_Mo_codeLine_291 (by rw [e291_25]; decide) (by rw [e291_25]; decide) (by rw [e291_25]; rfl) (by decide) ?_
                    refine lv_aload_n G.1 G.2.1 d_Mo_codeLine_572 rfl (lv_at hl 3 rfl) ?_
                    obtain ⟨mc_162, ms_163, hr_164, h⟩ := h
                    refine uxVi (As := []) (rest := []) G hP hD hS (cx_Mo_usedLabel l D g ad mc_162 ms_163 y_j272 _ _ s_9 a0 H.size (us H) h_a0 h) (fun _ h => absurd h List.not_mem_nil) w9_Mo_usedLabel q3641 ⟨Nat.le_of_ble_eq_true rfl, Nat.le_of_ble_eq_true rfl⟩ rfl rfl h_a0 (q := (RMo, TMo, 131)) rfl rfl hl.1 rfl (Nat.le_of_ble_eq_true rfl) rfl hr_164 d_Mo_codeLine_573 (fun y_159 s_158 d_160 e_161 H locs q9 ce h hP hD hS hce hcv hcl => ?_) (fun r_157 y_159 s_158 d_160 e_161 H locs h hP hD hS => ?_)
                    · skip
                      obtain ⟨hd, h⟩ := h
                      exact hretX h hP hD hS hd.1 hd.2 hce hcv hcl
                    have hl := lv_sub (l' := [(5, .int 0), (4, .int 0), (0, .ref (ad a0)), (1, .int x1j272), (2, .int x2j272)]) hl [0, 1, 3, 4, 5] rfl
                    obtain ⟨hd, h⟩ := h
                    refine lv_istore_n (lv' := [(3, .int r_157), (5, .int 0), (4, .int 0), (0, .ref (ad a0)), (1, .int x1j272), (2, .int x2j272)]) G.1 G.2.1 d_Mo_codeLine_576 rfl hl (by decide) rfl (fun ls hl => ?_)
                    refine lv_goto (tgt := 789) G.1 G.2.1 d_Mo_codeLine_577 (by decide) ?_
                    exact J_789 y_159 s_158 (d_j272 + d_160) (e_j272 + e_161) x1j272 x2j272 r_157 0 0 H locs h hP hD hS ls (lv_sub hl [3, 4, 5, 0, 2, 1] rfl)
                  replace h := h.2 e291_25
                  by_cases e291_26 : x2j272 = 26
                  · skip
                    have h := h.1 e291_26
                    refine lv_tableIn (off := 281) (tgt := 572) G.1 G.2.1 d_Mo_codeLine_291 (by rw [e291_26]; decide) (by rw [e291_26]; decide) (by rw [e291_26]; rfl) (by decide) ?_
                    refine lv_aload_n G.1 G.2.1 d_Mo_codeLine_572 rfl (lv_at hl 3 rfl) ?_
                    obtain ⟨mc_170, ms_171, hr_172, h⟩ := h
                    refine uxVi (As := []) (rest := []) G hP hD hS (cx_Mo_usedLabel l D g ad mc_170 ms_171 y_j272 _ _ s_9 a0 H.size (us H) h_a0 h) (fun _ h => absurd h List.not_mem_nil) w9_Mo_usedLabel q3641 ⟨Nat.le_of_ble_eq_true rfl, Nat.le_of_ble_eq_true rfl⟩ rfl rfl h_a0 (q := (RMo, TMo, 131)) rfl rfl hl.1 rfl (Nat.le_of_ble_eq_true rfl) rfl hr_172 d_Mo_codeLine_573 (fun y_167 s_166 d_168 e_169 H locs q9 ce h hP hD hS hce hcv hcl => ?_) (fun r_165 y_167 s_166 d_168 e_169 H locs h hP hD hS => ?_)
                    · skip
                      obtain ⟨hd, h⟩ := h
                      exact hretX h hP hD hS hd.1 hd.2 hce hcv hcl
                    have hl := lv_sub (l' := [(5, .int 0), (4, .int 0), (0, .ref (ad a0)), (1, .int x1j272), (2, .int x2j272)]) hl [0, 1, 3, 4, 5] rfl
                    obtain ⟨hd, h⟩ := h
                    refine lv_istore_n (lv' := [(3, .int r_165), (5, .int 0), (4, .int 0), (0, .ref (ad a0)), (1, .int x1j272), (2, .int x2j272)]) G.1 G.2.1 d_Mo_codeLine_576 rfl hl (by decide) rfl (fun ls hl => ?_)
                    refine lv_goto (tgt := 789) G.1 G.2.1 d_Mo_codeLine_577 (by decide) ?_
                    exact J_789 y_167 s_166 (d_j272 + d_168) (e_j272 + e_169) x1j272 x2j272 r_165 0 0 H locs h hP hD hS ls (lv_sub hl [3, 4, 5, 0, 2, 1] rfl)
                  replace h := h.2 e291_26
                  by_cases e291_27 : x2j272 = 27
                  · skip
                    have h := h.1 e291_27
                    refine lv_tableIn (off := 281) (tgt := 572) G.1 G.2.1 d_Mo_codeLine_291 (by rw [e291_27]; decide) (by rw [e291_27]; decide) (by rw [e291_27]; rfl) (by decide) ?_
                    refine lv_aload_n G.1 G.2.1 d_Mo_codeLine_572 rfl (lv_at hl 3 rfl) ?_
                    obtain ⟨mc_178, ms_179, hr_180, h⟩ := h
                    refine uxVi (As := []) (rest := []) G hP hD hS (cx_Mo_usedLabel l D g ad mc_178 ms_179 y_j272 _ _ s_9 a0 H.size (us H) h_a0 h) (fun _ h => absurd h List.not_mem_nil) w9_Mo_usedLabel q3641 ⟨Nat.le_of_ble_eq_true rfl, Nat.le_of_ble_eq_true rfl⟩ rfl rfl h_a0 (q := (RMo, TMo, 131)) rfl rfl hl.1 rfl (Nat.le_of_ble_eq_true rfl) rfl hr_180 d_Mo_codeLine_573 (fun y_175 s_174 d_176 e_177 H locs q9 ce h hP hD hS hce hcv hcl => ?_) (fun r_173 y_175 s_174 d_176 e_177 H locs h hP hD hS => ?_)
                    · skip
                      obtain ⟨hd, h⟩ := h
                      exact hretX h hP hD hS hd.1 hd.2 hce hcv hcl
                    have hl := lv_sub (l' := [(5, .int 0), (4, .int 0), (0, .ref (ad a0)), (1, .int x1j272), (2, .int x2j272)]) hl [0, 1, 3, 4, 5] rfl
                    obtain ⟨hd, h⟩ := h
                    refine lv_istore_n (lv' := [(3, .int r_173), (5, .int 0), (4, .int 0), (0, .ref (ad a0)), (1, .int x1j272), (2, .int x2j272)]) G.1 G.2.1 d_Mo_codeLine_576 rfl hl (by decide) rfl (fun ls hl => ?_)
                    refine lv_goto (tgt := 789) G.1 G.2.1 d_Mo_codeLine_577 (by decide) ?_
                    exact J_789 y_175 s_174 (d_j272 + d_176) (e_j272 + e_177) x1j272 x2j272 r_173 0 0 H locs h hP hD hS ls (lv_sub hl [3, 4, 5, 0, 2, 1] rfl)
                  replace h := h.2 e291_27
                  by_cases e291_28 : x2j272 = 28
                  · skip
                    have h := h.1 e291_28
                    refine lv_tableIn (off := 281) (tgt := 572) G.1 G.2.1 d_Mo_codeLine_291 (by rw [e291_28]; decide) (by rw [e291_28]; decide) (by rw [e291_28]; rfl) (by decide) ?_
                    refine lv_aload_n G.1 G.2.1 d_Mo_codeLine_572 rfl (lv_at hl 3 rfl) ?_
                    obtain ⟨mc_186, ms_187, hr_188, h⟩ := h
                    refine uxVi (As := []) (rest := []) G hP hD hS (cx_Mo_usedLabel l D g ad mc_186 ms_187 y_j272 _ _ s_9 a0 H.size (us H) h_a0 h) (fun _ h => absurd h List.not_mem_nil) w9_Mo_usedLabel q3641 ⟨Nat.le_of_ble_eq_true rfl, Nat.le_of_ble_eq_true rfl⟩ rfl rfl h_a0 (q := (RMo, TMo, 131)) rfl rfl hl.1 rfl (Nat.le_of_ble_eq_true rfl) rfl hr_188 d_Mo_codeLine_573 (fun y_183 s_182 d_184 e_185 H locs q9 ce h hP hD hS hce hcv hcl => ?_) (fun r_181 y_183 s_182 d_184 e_185 H locs h hP hD hS => ?_)
                    · skip
                      obtain ⟨hd, h⟩ := h
                      exact hretX h hP hD hS hd.1 hd.2 hce hcv hcl
                    have hl := lv_sub (l' := [(5, .int 0), (4, .int 0), (0, .ref (ad a0)), (1, .int x1j272), (2, .int x2j272)]) hl [0, 1, 3, 4, 5] rfl
                    obtain ⟨hd, h⟩ := h
                    refine lv_istore_n (lv' := [(3, .int r_181), (5, .int 0), (4, .int 0), (0, .ref (ad a0)), (1, .int x1j272), (2, .int x2j272)]) G.1 G.2.1 d_Mo_codeLine_576 rfl hl (by decide) rfl (fun ls hl => ?_)
                    refine lv_goto (tgt := 789) G.1 G.2.1 d_Mo_codeLine_577 (by decide) ?_
                    exact J_789 y_183 s_182 (d_j272 + d_184) (e_j272 + e_185) x1j272 x2j272 r_181 0 0 H locs h hP hD hS ls (lv_sub hl [3, 4, 5, 0, 2, 1] rfl)
                  replace h := h.2 e291_28
                  by_cases e291_29 : x2j272 = 29
                  · skip
                    have h := h.1 e291_29
                    refine lv_tableIn (off := 281) (tgt := 572) G.1 G.2.1 d_Mo_codeLine_291 (by rw [e291_29]; decide) (by rw [e291_29]; decide) (by rw [e291_29]; rfl) (by decide) ?_
                    refine lv_aload_n G.1 G.2.1 d_Mo_codeLine_572 rfl (lv_at hl 3 rfl) ?_
                    obtain ⟨mc_194, ms_195, hr_196, h⟩ := h
                    refine uxVi (As := []) (rest := []) G hP hD hS (cx_Mo_usedLabel l D g ad mc_194 ms_195 y_j272 _ _ s_9 a0 H.size (us H) h_a0 h) (fun _ h => absurd h List.not_mem_nil) w9_Mo_usedLabel q3641 ⟨Nat.le_of_ble_eq_true rfl, Nat.le_of_ble_eq_true rfl⟩ rfl rfl h_a0 (q := (RMo, TMo, 131)) rfl rfl hl.1 rfl (Nat.le_of_ble_eq_true rfl) rfl hr_196 d_Mo_codeLine_573 (fun y_191 s_190 d_192 e_193 H locs q9 ce h hP hD hS hce hcv hcl => ?_) (fun r_189 y_191 s_190 d_192 e_193 H locs h hP hD hS => ?_)
                    · skip
                      obtain ⟨hd, h⟩ := h
                      exact hretX h hP hD hS hd.1 hd.2 hce hcv hcl
                    have hl := lv_sub (l' := [(5, .int 0), (4, .int 0), (0, .ref (ad a0)), (1, .int x1j272), (2, .int x2j272)]) hl [0, 1, 3, 4, 5] rfl
                    obtain ⟨hd, h⟩ := h
                    refine lv_istore_n (lv' := [(3, .int r_189), (5, .int 0), (4, .int 0), (0, .ref (ad a0)), (1, .int x1j272), (2, .int x2j272)]) G.1 G.2.1 d_Mo_codeLine_576 rfl hl (by decide) rfl (fun ls hl => ?_)
                    refine lv_goto (tgt := 789) G.1 G.2.1 d_Mo_codeLine_577 (by decide) ?_
                    exact J_789 y_191 s_190 (d_j272 + d_192) (e_j272 + e_193) x1j272 x2j272 r_189 0 0 H locs h hP hD hS ls (lv_sub hl [3, 4, 5, 0, 2, 1] rfl)
                  replace h := h.2 e291_29
                  by_cases e291_30 : x2j272 = 30
                  · skip
                    have h := h.1 e291_30
                    refine lv_tableIn (off := 281) (tgt := 572) G.1 G.2.1 d_Mo_codeLine_291 (by rw [e291_30]; decide) (by rw [e291_30]; decide) (by rw [e291_30]; rfl) (by decide) ?_
                    refine lv_aload_n G.1 G.2.1 d_Mo_codeLine_572 rfl (lv_at hl 3 rfl) ?_
                    obtain ⟨mc_202, ms_203, hr_204, h⟩ := h
                    refine uxVi (As := []) (rest := []) G hP hD hS (cx_Mo_usedLabel l D g ad mc_202 ms_203 y_j272 _ _ s_9 a0 H.size (us H) h_a0 h) (fun _ h => absurd h List.not_mem_nil) w9_Mo_usedLabel q3641 ⟨Nat.le_of_ble_eq_true rfl, Nat.le_of_ble_eq_true rfl⟩ rfl rfl h_a0 (q := (RMo, TMo, 131)) rfl rfl hl.1 rfl (Nat.le_of_ble_eq_true rfl) rfl hr_204 d_Mo_codeLine_573 (fun y_199 s_198 d_200 e_201 H locs q9 ce h hP hD hS hce hcv hcl => ?_) (fun r_197 y_199 s_198 d_200 e_201 H locs h hP hD hS => ?_)
                    · skip
                      obtain ⟨hd, h⟩ := h
                      exact hretX h hP hD hS hd.1 hd.2 hce hcv hcl
                    have hl := lv_sub (l' := [(5, .int 0), (4, .int 0), (0, .ref (ad a0)), (1, .int x1j272), (2, .int x2j272)]) hl [0, 1, 3, 4, 5] rfl
                    obtain ⟨hd, h⟩ := h
                    refine lv_istore_n (lv' := [(3, .int r_197), (5, .int 0), (4, .int 0), (0, .ref (ad a0)), (1, .int x1j272), (2, .int x2j272)]) G.1 G.2.1 d_Mo_codeLine_576 rfl hl (by decide) rfl (fun ls hl => ?_)
                    refine lv_goto (tgt := 789) G.1 G.2.1 d_Mo_codeLine_577 (by decide) ?_
                    exact J_789 y_199 s_198 (d_j272 + d_200) (e_j272 + e_201) x1j272 x2j272 r_197 0 0 H locs h hP hD hS ls (lv_sub hl [3, 4, 5, 0, 2, 1] rfl)
                  replace h := h.2 e291_30
                  by_cases e291_31 : x2j272 = 31
                  · skip
                    have h := h.1 e291_31
                    refine lv_tableIn (off := 281) (tgt := 572) G.1 G.2.1 d_Mo_codeLine_291 (by rw [e291_31]; decide) (by rw [e291_31]; decide) (by rw [e291_31]; rfl) (by decide) ?_
                    refine lv_aload_n G.1 G.2.1 d_Mo_codeLine_572 rfl (lv_at hl 3 rfl) ?_
                    obtain ⟨mc_210, ms_211, hr_212, h⟩ := h
                    refine uxVi (As := []) (rest := []) G hP hD hS (cx_Mo_usedLabel l D g ad mc_210 ms_211 y_j272 _ _ s_9 a0 H.size (us H) h_a0 h) (fun _ h => absurd h List.not_mem_nil) w9_Mo_usedLabel q3641 ⟨Nat.le_of_ble_eq_true rfl, Nat.le_of_ble_eq_true rfl⟩ rfl rfl h_a0 (q := (RMo, TMo, 131)) rfl rfl hl.1 rfl (Nat.le_of_ble_eq_true rfl) rfl hr_212 d_Mo_codeLine_573 (fun y_207 s_206 d_208 e_209 H locs q9 ce h hP hD hS hce hcv hcl => ?_) (fun r_205 y_207 s_206 d_208 e_209 H locs h hP hD hS => ?_)
                    · skip
                      obtain ⟨hd, h⟩ := h
                      exact hretX h hP hD hS hd.1 hd.2 hce hcv hcl
                    have hl := lv_sub (l' := [(5, .int 0), (4, .int 0), (0, .ref (ad a0)), (1, .int x1j272), (2, .int x2j272)]) hl [0, 1, 3, 4, 5] rfl
                    obtain ⟨hd, h⟩ := h
                    refine lv_istore_n (lv' := [(3, .int r_205), (5, .int 0), (4, .int 0), (0, .ref (ad a0)), (1, .int x1j272), (2, .int x2j272)]) G.1 G.2.1 d_Mo_codeLine_576 rfl hl (by decide) rfl (fun ls hl => ?_)
                    refine lv_goto (tgt := 789) G.1 G.2.1 d_Mo_codeLine_577 (by decide) ?_
                    exact J_789 y_207 s_206 (d_j272 + d_208) (e_j272 + e_209) x1j272 x2j272 r_205 0 0 H locs h hP hD hS ls (lv_sub hl [3, 4, 5, 0, 2, 1] rfl)
                  replace h := h.2 e291_31
                  by_cases e291_32 : x2j272 = 32
                  · skip
                    have h := h.1 e291_32
                    refine lv_tableIn (off := 281) (tgt := 572) G.1 G.2.1 d_Mo_codeLine_291 (by rw [e291_32]; decide) (by rw [e291_32]; decide) (by rw [e291_32]; rfl) (by decide) ?_
                    refine lv_aload_n G.1 G.2.1 d_Mo_codeLine_572 rfl (lv_at hl 3 rfl) ?_
                    obtain ⟨mc_218, ms_219, hr_220, h⟩ := h
                    refine uxVi (As := []) (rest := []) G hP hD hS (cx_Mo_usedLabel l D g ad mc_218 ms_219 y_j272 _ _ s_9 a0 H.size (us H) h_a0 h) (fun _ h => absurd h List.not_mem_nil) w9_Mo_usedLabel q3641 ⟨Nat.le_of_ble_eq_true rfl, Nat.le_of_ble_eq_true rfl⟩ rfl rfl h_a0 (q := (RMo, TMo, 131)) rfl rfl hl.1 rfl (Nat.le_of_ble_eq_true rfl) rfl hr_220 d_Mo_codeLine_573 (fun y_215 s_214 d_216 e_217 H locs q9 ce h hP hD hS hce hcv hcl => ?_) (fun r_213 y_215 s_214 d_216 e_217 H locs h hP hD hS => ?_)
                    · skip
                      obtain ⟨hd, h⟩ := h
                      exact hretX h hP hD hS hd.1 hd.2 hce hcv hcl
                    have hl := lv_sub (l' := [(5, .int 0), (4, .int 0), (0, .ref (ad a0)), (1, .int x1j272), (2, .int x2j272)]) hl [0, 1, 3, 4, 5] rfl
                    obtain ⟨hd, h⟩ := h
                    refine lv_istore_n (lv' := [(3, .int r_213), (5, .int 0), (4, .int 0), (0, .ref (ad a0)), (1, .int x1j272), (2, .int x2j272)]) G.1 G.2.1 d_Mo_codeLine_576 rfl hl (by decide) rfl (fun ls hl => ?_)
                    refine lv_goto (tgt := 789) G.1 G.2.1 d_Mo_codeLine_577 (by decide) ?_
                    exact J_789 y_215 s_214 (d_j272 + d_216) (e_j272 + e_217) x1j272 x2j272 r_213 0 0 H locs h hP hD hS ls (lv_sub hl [3, 4, 5, 0, 2, 1] rfl)
                  replace h := h.2 e291_32
                  by_cases e291_33 : x2j272 = 33
                  · skip
                    have h := h.1 e291_33
                    refine lv_tableIn (off := 281) (tgt := 572) G.1 G.2.1 d_Mo_codeLine_291 (by rw [e291_33]; decide) (by rw [e291_33]; decide) (by rw [e291_33]; rfl) (by decide) ?_
                    refine lv_aload_n G.1 G.2.1 d_Mo_codeLine_572 rfl (lv_at hl 3 rfl) ?_
                    obtain ⟨mc_226, ms_227, hr_228, h⟩ := h
                    refine uxVi (As := []) (rest := []) G hP hD hS (cx_Mo_usedLabel l D g ad mc_226 ms_227 y_j272 _ _ s_9 a0 H.size (us H) h_a0 h) (fun _ h => absurd h List.not_mem_nil) w9_Mo_usedLabel q3641 ⟨Nat.le_of_ble_eq_true rfl, Nat.le_of_ble_eq_true rfl⟩ rfl rfl h_a0 (q := (RMo, TMo, 131)) rfl rfl hl.1 rfl (Nat.le_of_ble_eq_true rfl) rfl hr_228 d_Mo_codeLine_573 (fun y_223 s_222 d_224 e_225 H locs q9 ce h hP hD hS hce hcv hcl => ?_) (fun r_221 y_223 s_222 d_224 e_225 H locs h hP hD hS => ?_)
                    · skip
                      obtain ⟨hd, h⟩ := h
                      exact hretX h hP hD hS hd.1 hd.2 hce hcv hcl
                    have hl := lv_sub (l' := [(5, .int 0), (4, .int 0), (0, .ref (ad a0)), (1, .int x1j272), (2, .int x2j272)]) hl [0, 1, 3, 4, 5] rfl
                    obtain ⟨hd, h⟩ := h
                    refine lv_istore_n (lv' := [(3, .int r_221), (5, .int 0), (4, .int 0), (0, .ref (ad a0)), (1, .int x1j272), (2, .int x2j272)]) G.1 G.2.1 d_Mo_codeLine_576 rfl hl (by decide) rfl (fun ls hl => ?_)
                    refine lv_goto (tgt := 789) G.1 G.2.1 d_Mo_codeLine_577 (by decide) ?_
                    exact J_789 y_223 s_222 (d_j272 + d_224) (e_j272 + e_225) x1j272 x2j272 r_221 0 0 H locs h hP hD hS ls (lv_sub hl [3, 4, 5, 0, 2, 1] rfl)
                  replace h := h.2 e291_33
                  by_cases e291_34 : x2j272 = 34
                  · skip
                    have h := h.1 e291_34
                    refine lv_tableIn (off := 281) (tgt := 572) G.1 G.2.1 d_Mo_codeLine_291 (by rw [e291_34]; decide) (by rw [e291_34]; decide) (by rw [e291_34]; rfl) (by decide) ?_
                    refine lv_aload_n G.1 G.2.1 d_Mo_codeLine_572 rfl (lv_at hl 3 rfl) ?_
                    obtain ⟨mc_234, ms_235, hr_236, h⟩ := h
                    refine uxVi (As := []) (rest := []) G hP hD hS (cx_Mo_usedLabel l D g ad mc_234 ms_235 y_j272 _ _ s_9 a0 H.size (us H) h_a0 h) (fun _ h => absurd h List.not_mem_nil) w9_Mo_usedLabel q3641 ⟨Nat.le_of_ble_eq_true rfl, Nat.le_of_ble_eq_true rfl⟩ rfl rfl h_a0 (q := (RMo, TMo, 131)) rfl rfl hl.1 rfl (Nat.le_of_ble_eq_true rfl) rfl hr_236 d_Mo_codeLine_573 (fun y_231 s_230 d_232 e_233 H locs q9 ce h hP hD hS hce hcv hcl => ?_) (fun r_229 y_231 s_230 d_232 e_233 H locs h hP hD hS => ?_)
                    · skip
                      obtain ⟨hd, h⟩ := h
                      exact hretX h hP hD hS hd.1 hd.2 hce hcv hcl
                    have hl := lv_sub (l' := [(5, .int 0), (4, .int 0), (0, .ref (ad a0)), (1, .int x1j272), (2, .int x2j272)]) hl [0, 1, 3, 4, 5] rfl
                    obtain ⟨hd, h⟩ := h
                    refine lv_istore_n (lv' := [(3, .int r_229), (5, .int 0), (4, .int 0), (0, .ref (ad a0)), (1, .int x1j272), (2, .int x2j272)]) G.1 G.2.1 d_Mo_codeLine_576 rfl hl (by decide) rfl (fun ls hl => ?_)
                    refine lv_goto (tgt := 789) G.1 G.2.1 d_Mo_codeLine_577 (by decide) ?_
                    exact J_789 y_231 s_230 (d_j272 + d_232) (e_j272 + e_233) x1j272 x2j272 r_229 0 0 H locs h hP hD hS ls (lv_sub hl [3, 4, 5, 0, 2, 1] rfl)
                  replace h := h.2 e291_34
                  by_cases e291_35 : x2j272 = 35
                  · skip
                    have h := h.1 e291_35
                    refine lv_tableIn (off := 281) (tgt := 572) G.1 G.2.1 d_Mo_codeLine_291 (by rw [e291_35]; decide) (by rw [e291_35]; decide) (by rw [e291_35]; rfl) (by decide) ?_
                    refine lv_aload_n G.1 G.2.1 d_Mo_codeLine_572 rfl (lv_at hl 3 rfl) ?_
                    obtain ⟨mc_242, ms_243, hr_244, h⟩ := h
                    refine uxVi (As := []) (rest := []) G hP hD hS (cx_Mo_usedLabel l D g ad mc_242 ms_243 y_j272 _ _ s_9 a0 H.size (us H) h_a0 h) (fun _ h => absurd h List.not_mem_nil) w9_Mo_usedLabel q3641 ⟨Nat.le_of_ble_eq_true rfl, Nat.le_of_ble_eq_true rfl⟩ rfl rfl h_a0 (q := (RMo, TMo, 131)) rfl rfl hl.1 rfl (Nat.le_of_ble_eq_true rfl) rfl hr_244 d_Mo_codeLine_573 (fun y_239 s_238 d_240 e_241 H locs q9 ce h hP hD hS hce hcv hcl => ?_) (fun r_237 y_239 s_238 d_240 e_241 H locs h hP hD hS => ?_)
                    · skip
                      obtain ⟨hd, h⟩ := h
                      exact hretX h hP hD hS hd.1 hd.2 hce hcv hcl
                    have hl := lv_sub (l' := [(5, .int 0), (4, .int 0), (0, .ref (ad a0)), (1, .int x1j272), (2, .int x2j272)]) hl [0, 1, 3, 4, 5] rfl
                    obtain ⟨hd, h⟩ := h
                    refine lv_istore_n (lv' := [(3, .int r_237), (5, .int 0), (4, .int 0), (0, .ref (ad a0)), (1, .int x1j272), (2, .int x2j272)]) G.1 G.2.1 d_Mo_codeLine_576 rfl hl (by decide) rfl (fun ls hl => ?_)
                    refine lv_goto (tgt := 789) G.1 G.2.1 d_Mo_codeLine_577 (by decide) ?_
                    exact J_789 y_239 s_238 (d_j272 + d_240) (e_j272 + e_241) x1j272 x2j272 r_237 0 0 H locs h hP hD hS ls (lv_sub hl [3, 4, 5, 0, 2, 1] rfl)
                  replace h := h.2 e291_35
                  by_cases e291_36 : x2j272 = 36
                  · skip
                    have h := h.1 e291_36
                    refine lv_tableIn (off := 281) (tgt := 572) G.1 G.2.1 d_Mo_codeLine_291 (by rw [e291_36]; decide) (by rw [e291_36]; decide) (by rw [e291_36]; rfl) (by decide) ?_
                    refine lv_aload_n G.1 G.2.1 d_Mo_codeLine_572 rfl (lv_at hl 3 rfl) ?_
                    obtain ⟨mc_250, ms_251, hr_252, h⟩ := h
                    refine uxVi (As := []) (rest := []) G hP hD hS (cx_Mo_usedLabel l D g ad mc_250 ms_251 y_j272 _ _ s_9 a0 H.size (us H) h_a0 h) (fun _ h => absurd h List.not_mem_nil) w9_Mo_usedLabel q3641 ⟨Nat.le_of_ble_eq_true rfl, Nat.le_of_ble_eq_true rfl⟩ rfl rfl h_a0 (q := (RMo, TMo, 131)) rfl rfl hl.1 rfl (Nat.le_of_ble_eq_true rfl) rfl hr_252 d_Mo_codeLine_573 (fun y_247 s_246 d_248 e_249 H locs q9 ce h hP hD hS hce hcv hcl => ?_) (fun r_245 y_247 s_246 d_248 e_249 H locs h hP hD hS => ?_)
                    · skip
                      obtain ⟨hd, h⟩ := h
                      exact hretX h hP hD hS hd.1 hd.2 hce hcv hcl
                    have hl := lv_sub (l' := [(5, .int 0), (4, .int 0), (0, .ref (ad a0)), (1, .int x1j272), (2, .int x2j272)]) hl [0, 1, 3, 4, 5] rfl
                    obtain ⟨hd, h⟩ := h
                    refine lv_istore_n (lv' := [(3, .int r_245), (5, .int 0), (4, .int 0), (0, .ref (ad a0)), (1, .int x1j272), (2, .int x2j272)]) G.1 G.2.1 d_Mo_codeLine_576 rfl hl (by decide) rfl (fun ls hl => ?_)
                    refine lv_goto (tgt := 789) G.1 G.2.1 d_Mo_codeLine_577 (by decide) ?_
                    exact J_789 y_247 s_246 (d_j272 + d_248) (e_j272 + e_249) x1j272 x2j272 r_245 0 0 H locs h hP hD hS ls (lv_sub hl [3, 4, 5, 0, 2, 1] rfl)
                  replace h := h.2 e291_36
                  by_cases e291_37 : x2j272 = 37
                  · skip
                    have h := h.1 e291_37
                    refine lv_tableIn (off := 281) (tgt := 572) G.1 G.2.1 d_Mo_codeLine_291 (by rw [e291_37]; decide) (by rw [e291_37]; decide) (by rw [e291_37]; rfl) (by decide) ?_
                    refine lv_aload_n G.1 G.2.1 d_Mo_codeLine_572 rfl (lv_at hl 3 rfl) ?_
                    obtain ⟨mc_258, ms_259, hr_260, h⟩ := h
                    refine uxVi (As := []) (rest := []) G hP hD hS (cx_Mo_usedLabel l D g ad mc_258 ms_259 y_j272 _ _ s_9 a0 H.size (us H) h_a0 h) (fun _ h => absurd h List.not_mem_nil) w9_Mo_usedLabel q3641 ⟨Nat.le_of_ble_eq_true rfl, Nat.le_of_ble_eq_true rfl⟩ rfl rfl h_a0 (q := (RMo, TMo, 131)) rfl rfl hl.1 rfl (Nat.le_of_ble_eq_true rfl) rfl hr_260 d_Mo_codeLine_573 (fun y_255 s_254 d_256 e_257 H locs q9 ce h hP hD hS hce hcv hcl => ?_) (fun r_253 y_255 s_254 d_256 e_257 H locs h hP hD hS => ?_)
                    · skip
                      obtain ⟨hd, h⟩ := h
                      exact hretX h hP hD hS hd.1 hd.2 hce hcv hcl
                    have hl := lv_sub (l' := [(5, .int 0), (4, .int 0), (0, .ref (ad a0)), (1, .int x1j272), (2, .int x2j272)]) hl [0, 1, 3, 4, 5] rfl
                    obtain ⟨hd, h⟩ := h
                    refine lv_istore_n (lv' := [(3, .int r_253), (5, .int 0), (4, .int 0), (0, .ref (ad a0)), (1, .int x1j272), (2, .int x2j272)]) G.1 G.2.1 d_Mo_codeLine_576 rfl hl (by decide) rfl (fun ls hl => ?_)
                    refine lv_goto (tgt := 789) G.1 G.2.1 d_Mo_codeLine_577 (by decide) ?_
                    exact J_789 y_255 s_254 (d_j272 + d_256) (e_j272 + e_257) x1j272 x2j272 r_253 0 0 H locs h hP hD hS ls (lv_sub hl [3, 4, 5, 0, 2, 1] rfl)
                  replace h := h.2 e291_37
                  by_cases e291_38 : x2j272 = 38
                  · skip
                    have h := h.1 e291_38
                    refine lv_tableIn (off := 281) (tgt := 572) G.1 G.2.1 d_Mo_codeLine_291 (by rw [e291_38]; decide) (by rw [e291_38]; decide) (by rw [e291_38]; rfl) (by decide) ?_
                    refine lv_aload_n G.1 G.2.1 d_Mo_codeLine_572 rfl (lv_at hl 3 rfl) ?_
                    obtain ⟨mc_266, ms_267, hr_268, h⟩ := h
                    refine uxVi (As := []) (rest := []) G hP hD hS (cx_Mo_usedLabel l D g ad mc_266 ms_267 y_j272 _ _ s_9 a0 H.size (us H) h_a0 h) (fun _ h => absurd h List.not_mem_nil) w9_Mo_usedLabel q3641 ⟨Nat.le_of_ble_eq_true rfl, Nat.le_of_ble_eq_true rfl⟩ rfl rfl h_a0 (q := (RMo, TMo, 131)) rfl rfl hl.1 rfl (Nat.le_of_ble_eq_true rfl) rfl hr_268 d_Mo_codeLine_573 (fun y_263 s_262 d_264 e_265 H locs q9 ce h hP hD hS hce hcv hcl => ?_) (fun r_261 y_263 s_262 d_264 e_265 H locs h hP hD hS => ?_)
                    · skip
                      obtain ⟨hd, h⟩ := h
                      exact hretX h hP hD hS hd.1 hd.2 hce hcv hcl
                    have hl := lv_sub (l' := [(5, .int 0), (4, .int 0), (0, .ref (ad a0)), (1, .int x1j272), (2, .int x2j272)]) hl [0, 1, 3, 4, 5] rfl
                    obtain ⟨hd, h⟩ := h
                    refine lv_istore_n (lv' := [(3, .int r_261), (5, .int 0), (4, .int 0), (0, .ref (ad a0)), (1, .int x1j272), (2, .int x2j272)]) G.1 G.2.1 d_Mo_codeLine_576 rfl hl (by decide) rfl (fun ls hl => ?_)
                    refine lv_goto (tgt := 789) G.1 G.2.1 d_Mo_codeLine_577 (by decide) ?_
                    exact J_789 y_263 s_262 (d_j272 + d_264) (e_j272 + e_265) x1j272 x2j272 r_261 0 0 H locs h hP hD hS ls (lv_sub hl [3, 4, 5, 0, 2, 1] rfl)
                  replace h := h.2 e291_38
                  by_cases e291_39 : x2j272 = 39
                  · skip
                    have h := h.1 e291_39
                    refine lv_tableIn (off := 281) (tgt := 572) G.1 G.2.1 d_Mo_codeLine_291 (by rw [e291_39]; decide) (by rw [e291_39]; decide) (by rw [e291_39]; rfl) (by decide) ?_
                    refine lv_aload_n G.1 G.2.1 d_Mo_codeLine_572 rfl (lv_at hl 3 rfl) ?_
                    obtain ⟨mc_274, ms_275, hr_276, h⟩ := h
                    refine uxVi (As := []) (rest := []) G hP hD hS (cx_Mo_usedLabel l D g ad mc_274 ms_275 y_j272 _ _ s_9 a0 H.size (us H) h_a0 h) (fun _ h => absurd h List.not_mem_nil) w9_Mo_usedLabel q3641 ⟨Nat.le_of_ble_eq_true rfl, Nat.le_of_ble_eq_true rfl⟩ rfl rfl h_a0 (q := (RMo, TMo, 131)) rfl rfl hl.1 rfl (Nat.le_of_ble_eq_true rfl) rfl hr_276 d_Mo_codeLine_573 (fun y_271 s_270 d_272 e_273 H locs q9 ce h hP hD hS hce hcv hcl => ?_) (fun r_269 y_271 s_270 d_272 e_273 H locs h hP hD hS => ?_)
                    · skip
                      obtain ⟨hd, h⟩ := h
                      exact hretX h hP hD hS hd.1 hd.2 hce hcv hcl
                    have hl := lv_sub (l' := [(5, .int 0), (4, .int 0), (0, .ref (ad a0)), (1, .int x1j272), (2, .int x2j272)]) hl [0, 1, 3, 4, 5] rfl
                    obtain ⟨hd, h⟩ := h
                    refine lv_istore_n (lv' := [(3, .int r_269), (5, .int 0), (4, .int 0), (0, .ref (ad a0)), (1, .int x1j272), (2, .int x2j272)]) G.1 G.2.1 d_Mo_codeLine_576 rfl hl (by decide) rfl (fun ls hl => ?_)
                    refine lv_goto (tgt := 789) G.1 G.2.1 d_Mo_codeLine_577 (by decide) ?_
                    exact J_789 y_271 s_270 (d_j272 + d_272) (e_j272 + e_273) x1j272 x2j272 r_269 0 0 H locs h hP hD hS ls (lv_sub hl [3, 4, 5, 0, 2, 1] rfl)
                  replace h := h.2 e291_39
                  by_cases e291_40 : x2j272 = 40
                  · skip
                    have h := h.1 e291_40
                    refine lv_tableIn (off := 289) (tgt := 580) G.1 G.2.1 d_Mo_codeLine_291 (by rw [e291_40]; decide) (by rw [e291_40]; decide) (by rw [e291_40]; rfl) (by decide) ?_
                    refine lv_aload_n G.1 G.2.1 d_Mo_codeLine_580 rfl (lv_at hl 3 rfl) ?_
                    refine lv_ldcw (v := (-2147483648)) G.1 G.2.1 G.2.2.2.2.2.2.1 (G.2.2.2.2.2.1 _ q3534) d_Mo_codeLine_581 ?_
                    refine lv_ldcw (v := 2147483647) G.1 G.2.1 G.2.2.2.2.2.2.1 (G.2.2.2.2.2.1 _ q3591) d_Mo_codeLine_584 ?_
                    obtain ⟨mc_282, ms_283, hr_284, h⟩ := h
                    refine uxVi (As := [.int (-2147483648), .int 2147483647]) (rest := []) G hP hD hS (cx_Mo_numberIn l D g ad mc_282 ms_283 y_j272 _ _ s_9 a0 (-2147483648) 2147483647 H.size (us H) h_a0 h) (fun _ h => absurd h List.not_mem_nil) w9_Mo_numberIn q3592 ⟨Nat.le_of_ble_eq_true rfl, Nat.le_of_ble_eq_true rfl⟩ rfl rfl h_a0 (q := (RMo, TMo, 131)) rfl rfl hl.1 rfl (Nat.le_of_ble_eq_true rfl) rfl hr_284 d_Mo_codeLine_587 (fun y_279 s_278 d_280 e_281 H locs q9 ce h hP hD hS hce hcv hcl => ?_) (fun r_277 y_279 s_278 d_280 e_281 H locs h hP hD hS => ?_)
                    · skip
                      obtain ⟨hd, h⟩ := h
                      exact hretX h hP hD hS hd.1 hd.2 hce hcv hcl
                    have hl := lv_sub (l' := [(0, .ref (ad a0)), (1, .int x1j272), (2, .int x2j272)]) hl [3, 4, 5] rfl
                    obtain ⟨hd, h⟩ := h
                    refine lv_istore_n (lv' := [(3, .int r_277), (0, .ref (ad a0)), (1, .int x1j272), (2, .int x2j272)]) G.1 G.2.1 d_Mo_codeLine_590 rfl hl (by decide) rfl (fun ls hl => ?_)
                    refine lv_aload_n G.1 G.2.1 d_Mo_codeLine_591 rfl (lv_at hl 1 rfl) ?_
                    obtain ⟨b_285, e_286, c_287, h⟩ := h
                    refine ugf (v := .ref (ad b_285)) G hP h_a0 iMo rfl 45 (by decide) rfl q3109 rfl (by show va_rf ((sO s_278 a0 45).map ad) = _; rw [e_286]; rfl) d_Mo_codeLine_592 ?_
                    refine ugfN (v := .int (sV s_278 b_285 37)) G hP c_287 iMw rfl 37 (by decide) rfl q2776 rfl rfl d_Mo_codeLine_595 ?_
                    refine lv_istore (lv' := [(4, .int (sV s_278 b_285 37)), (3, .int r_277), (0, .ref (ad a0)), (1, .int x1j272), (2, .int x2j272)]) G.1 G.2.1 d_Mo_codeLine_598 hl (by decide) rfl (fun ls hl => ?_)
                    refine W.eq (g2 := F0 m 600 ls []) rfl ?_
                    refine lv_aload_n G.1 G.2.1 d_Mo_codeLine_600 rfl (lv_at hl 2 rfl) ?_
                    refine lv_aload_n G.1 G.2.1 d_Mo_codeLine_601 rfl (lv_at hl 2 rfl) ?_
                    obtain ⟨mc_293, ms_294, hr_295, h⟩ := h
                    refine uxVi (As := []) (rest := [.ref (ad a0)]) G hP hD hS (cx_Mo_usedLabel l D g ad mc_293 ms_294 y_279 _ _ s_278 a0 H.size (us H) h_a0 h) (fun _ h => absurd h List.not_mem_nil) w9_Mo_usedLabel q3641 ⟨Nat.le_of_ble_eq_true rfl, Nat.le_of_ble_eq_true rfl⟩ rfl rfl h_a0 (q := (RMo, TMo, 131)) rfl rfl hl.1 rfl (Nat.le_of_ble_eq_true rfl) rfl hr_295 d_Mo_codeLine_602 (fun y_290 s_289 d_291 e_292 H locs q9 ce h hP hD hS hce hcv hcl => ?_) (fun r_288 y_290 s_289 d_291 e_292 H locs h hP hD hS => ?_)
                    · skip
                      obtain ⟨hd, h⟩ := h
                      exact hretX h hP hD hS hd.1 hd.2 hce hcv hcl
                    obtain ⟨hd, h⟩ := h
                    obtain ⟨mc_301, ms_302, hr_303, h⟩ := h
                    refine uaVv (As := [.int r_288]) (rest := []) G hP hD hS (ca_Mo_addList l D g ad mc_301 ms_302 y_290 _ s_289 a0 r_288 H.size (us H) h_a0 h) w9_Mo_addList q3645 ⟨Nat.le_of_ble_eq_true rfl, Nat.le_of_ble_eq_true rfl⟩ rfl rfl h_a0 (q := (RMo, TMo, 131)) rfl rfl hl.1 rfl (Nat.le_of_ble_eq_true rfl) rfl hr_303 d_Mo_codeLine_605 (fun y_298 s_297 d_299 e_300 H locs h hP hD hS => ?_)
                    obtain ⟨hd, h⟩ := h
                    unfold wla_Mo_codeLine_608 at h
                    obtain ⟨I_608, μ_608, hI_608, hB_608⟩ := h
                    have L_608 : ∀ (n_608 : Nat) (y_h608 : Ly) (s_h608 : St) (d_h608 e_h608 : Nat) (x1h608 : Int32) (x2h608 : Int32) (x3h608 : Int32) (x4h608 : Int32), μ_608 y_h608 s_h608 d_h608 e_h608 x1h608 x2h608 x3h608 x4h608 < n_608 → I_608 y_h608 s_h608 d_h608 e_h608 x1h608 x2h608 x3h608 x4h608 → ∀ (H : Heap) (locs : List Loc), va_P D CL (ws g ad y_h608 s_h608) H → va_D A (ws g ad y_h608 s_h608) → va_S A s.heap H locs → ∀ ls, lv_has ls 7 [(0, .ref (ad a0)), (1, .int x1h608), (2, .int x2h608), (3, .int x3h608), (4, .int x4h608)] → W p l e (ra_Mo_codeLine mc ms) s m args below meth c H locs d_h608 e_h608 Q (F0 m 608 ls []) := by
                      intro n_608
                      induction n_608 with
                      | zero => intro y_h608 s_h608 d_h608 e_h608 x1h608 x2h608 x3h608 x4h608 hμ; exact absurd hμ (Nat.not_lt_zero _)
                      | succ n_608 ih_608 =>
                        intro y_h608 s_h608 d_h608 e_h608 x1h608 x2h608 x3h608 x4h608 hμ_608 hJ H locs hP hD hS ls hl
                        obtain ⟨K_608, hK_608, h⟩ : ∃ K : Ly → St → Nat → Nat → Int32 → Int32 → Int32 → Int32 → Prop, (∀ z1 z2 z3 z4 (t0 : Int32) (t1 : Int32) (t2 : Int32) (t3 : Int32), K z1 z2 z3 z4 t0 t1 t2 t3 → I_608 z1 z2 z3 z4 t0 t1 t2 t3 ∧ μ_608 z1 z2 z3 z4 t0 t1 t2 t3 < μ_608 y_h608 s_h608 d_h608 e_h608 x1h608 x2h608 x3h608 x4h608) ∧ wba_Mo_codeLine_608 mc ms Post PX K a0 y_h608 s_h608 d_h608 e_h608 x1h608 x2h608 x3h608 x4h608 := ⟨_, fun _ _ _ _ _ _ _ _ h => h, hB_608 y_h608 s_h608 d_h608 e_h608 x1h608 x2h608 x3h608 x4h608 hJ⟩
                        unfold wba_Mo_codeLine_608 at h
                        obtain ⟨hd, h⟩ := h
                        refine lv_aload_n G.1 G.2.1 d_Mo_codeLine_608 rfl (lv_at hl 0 rfl) ?_
                        refine ugf (v := .ref (yP y_h608 a0 39)) G hP h_a0 iMo rfl 39 (by decide) rfl q3103 rfl rfl d_Mo_codeLine_609 ?_
                        refine lv_aload_n G.1 G.2.1 d_Mo_codeLine_612 rfl (lv_at hl 0 rfl) ?_
                        refine ugf (v := .int (sV s_h608 a0 43)) G hP h_a0 iMo rfl 43 (by decide) rfl q3107 rfl rfl d_Mo_codeLine_613 ?_
                        refine ubald G hP (kdp h_a0 rfl) (typ h_a0 rfl) h d_Mo_codeLine_616 (fun x_304 h => ?_)
                        refine lv_bipush (v := 44) G.1 G.2.1 d_Mo_codeLine_617 (by decide) ?_
                        refine lv_icmp_ne (tgt := 643) G.1 G.2.1 d_Mo_codeLine_619 (by decide) (fun c619 => ?_) (fun c619 => ?_)
                        · skip
                          have h := h.1 c619
                          refine lv_aload_n G.1 G.2.1 d_Mo_codeLine_643 rfl (lv_at hl 0 rfl) ?_
                          obtain ⟨b_305, e_306, c_307, h⟩ := h
                          refine ugf (v := .ref (ad b_305)) G hP h_a0 iMo rfl 45 (by decide) rfl q3109 rfl (by show va_rf ((sO s_h608 a0 45).map ad) = _; rw [e_306]; rfl) d_Mo_codeLine_644 ?_
                          refine ugfN (v := .int (sV s_h608 b_305 37)) G hP c_307 iMw rfl 37 (by decide) rfl q2776 rfl rfl d_Mo_codeLine_647 ?_
                          refine lv_iload G.1 G.2.1 d_Mo_codeLine_650 (lv_at hl 4 rfl) ?_
                          refine W.eq (g2 := F0 m 652 ls [.int x4h608, .int (sV s_h608 b_305 37)]) rfl ?_
                          refine lv_isub G.1 G.2.1 d_Mo_codeLine_652 ?_
                          refine lv_istore (lv' := [(5, .int ((sV s_h608 b_305 37) - x4h608)), (0, .ref (ad a0)), (1, .int x1h608), (2, .int x2h608), (3, .int x3h608), (4, .int x4h608)]) G.1 G.2.1 d_Mo_codeLine_653 hl (by decide) rfl (fun ls hl => ?_)
                          refine lv_goto (tgt := 789) G.1 G.2.1 d_Mo_codeLine_655 (by decide) ?_
                          exact J_789 y_h608 s_h608 d_h608 e_h608 x1h608 x2h608 x3h608 x4h608 ((sV s_h608 b_305 37) - x4h608) H locs h hP hD hS ls (lv_sub hl [1, 2, 3, 4, 5, 0] rfl)
                        · skip
                          have h := h.2 c619
                          refine lv_aload_n G.1 G.2.1 d_Mo_codeLine_622 rfl (lv_at hl 0 rfl) ?_
                          refine lv_dup G.1 G.2.1 d_Mo_codeLine_623 rfl ?_
                          refine ugf (v := .int (sV s_h608 a0 43)) G hP h_a0 iMo rfl 43 (by decide) rfl q3107 rfl rfl d_Mo_codeLine_624 ?_
                          refine lv_iconst (v := 1) G.1 G.2.1 d_Mo_codeLine_627 (by decide) ?_
                          refine W.eq (g2 := F0 m 628 ls [.int 1, .int (sV s_h608 a0 43), .ref (ad a0)]) rfl ?_
                          refine lv_iadd G.1 G.2.1 d_Mo_codeLine_628 ?_
                          refine upf G hP hD hS h 43 putV h_a0 iMo tMo tMo_ok nMo rfl (by decide) rfl q3107 rfl rfl fV rfl rfl d_Mo_codeLine_629 (fun s_308 H locs h hP hD hS => ?_)
                          refine lv_aload_n G.1 G.2.1 d_Mo_codeLine_632 rfl (lv_at hl 0 rfl) ?_
                          refine lv_aload_n G.1 G.2.1 d_Mo_codeLine_633 rfl (lv_at hl 0 rfl) ?_
                          obtain ⟨mc_314, ms_315, hr_316, h⟩ := h
                          refine uxVi (As := []) (rest := [.ref (ad a0)]) G hP hD hS (cx_Mo_usedLabel l D g ad mc_314 ms_315 y_h608 _ _ s_308 a0 H.size (us H) h_a0 h) (fun _ h => absurd h List.not_mem_nil) w9_Mo_usedLabel q3641 ⟨Nat.le_of_ble_eq_true rfl, Nat.le_of_ble_eq_true rfl⟩ rfl rfl h_a0 (q := (RMo, TMo, 131)) rfl rfl hl.1 rfl (Nat.le_of_ble_eq_true rfl) rfl hr_316 d_Mo_codeLine_634 (fun y_311 s_310 d_312 e_313 H locs q9 ce h hP hD hS hce hcv hcl => ?_) (fun r_309 y_311 s_310 d_312 e_313 H locs h hP hD hS => ?_)
                          · skip
                            obtain ⟨hd, h⟩ := h
                            exact hretX h hP hD hS hd.1 hd.2 hce hcv hcl
                          obtain ⟨hd, h⟩ := h
                          obtain ⟨mc_322, ms_323, hr_324, h⟩ := h
                          refine uaVv (As := [.int r_309]) (rest := []) G hP hD hS (ca_Mo_addList l D g ad mc_322 ms_323 y_311 _ s_310 a0 r_309 H.size (us H) h_a0 h) w9_Mo_addList q3645 ⟨Nat.le_of_ble_eq_true rfl, Nat.le_of_ble_eq_true rfl⟩ rfl rfl h_a0 (q := (RMo, TMo, 131)) rfl rfl hl.1 rfl (Nat.le_of_ble_eq_true rfl) rfl hr_324 d_Mo_codeLine_637 (fun y_319 s_318 d_320 e_321 H locs h hP hD hS => ?_)
                          obtain ⟨hd, h⟩ := h
                          refine lv_goto (tgt := 608) G.1 G.2.1 d_Mo_codeLine_640 (by decide) ?_
                          have h := hK_608 y_319 s_318 (d_h608 + d_312 + d_320) (e_h608 + e_313 + e_321) x1h608 x2h608 x3h608 x4h608 h
                          exact ih_608 y_319 s_318 (d_h608 + d_312 + d_320) (e_h608 + e_313 + e_321) x1h608 x2h608 x3h608 x4h608 (Nat.lt_of_lt_of_le h.2 (Nat.le_of_lt_succ hμ_608)) h.1 H locs hP hD hS ls (lv_sub hl [0, 1, 2, 3, 4] rfl)
                    exact L_608 _ y_298 s_297 (d_j272 + d_280 + d_291 + d_299) (e_j272 + e_281 + e_292 + e_300) x1j272 x2j272 r_277 (sV s_278 b_285 37) (Nat.lt_succ_self _) hI_608 H locs hP hD hS ls (lv_sub hl [2, 3, 4, 1, 0] rfl)
                  replace h := h.2 e291_40
                  by_cases e291_41 : x2j272 = 41
                  · skip
                    have h := h.1 e291_41
                    refine lv_tableIn (off := 367) (tgt := 658) G.1 G.2.1 d_Mo_codeLine_291 (by rw [e291_41]; decide) (by rw [e291_41]; decide) (by rw [e291_41]; rfl) (by decide) ?_
                    refine lv_aload_n G.1 G.2.1 d_Mo_codeLine_658 rfl (lv_at hl 3 rfl) ?_
                    obtain ⟨mc_330, ms_331, hr_332, h⟩ := h
                    refine uxVi (As := []) (rest := []) G hP hD hS (cx_Mo_className l D g ad mc_330 ms_331 y_j272 _ _ s_9 a0 H.size (us H) h_a0 h) (fun _ h => absurd h List.not_mem_nil) w9_Mo_className q3555 ⟨Nat.le_of_ble_eq_true rfl, Nat.le_of_ble_eq_true rfl⟩ rfl rfl h_a0 (q := (RMo, TMo, 131)) rfl rfl hl.1 rfl (Nat.le_of_ble_eq_true rfl) rfl hr_332 d_Mo_codeLine_659 (fun y_327 s_326 d_328 e_329 H locs q9 ce h hP hD hS hce hcv hcl => ?_) (fun r_325 y_327 s_326 d_328 e_329 H locs h hP hD hS => ?_)
                    · skip
                      obtain ⟨hd, h⟩ := h
                      exact hretX h hP hD hS hd.1 hd.2 hce hcv hcl
                    have hl := lv_sub (l' := [(5, .int 0), (4, .int 0), (0, .ref (ad a0)), (1, .int x1j272), (2, .int x2j272)]) hl [0, 1, 3, 4, 5] rfl
                    obtain ⟨hd, h⟩ := h
                    refine lv_istore_n (lv' := [(3, .int r_325), (5, .int 0), (4, .int 0), (0, .ref (ad a0)), (1, .int x1j272), (2, .int x2j272)]) G.1 G.2.1 d_Mo_codeLine_662 rfl hl (by decide) rfl (fun ls hl => ?_)
                    refine lv_goto (tgt := 789) G.1 G.2.1 d_Mo_codeLine_663 (by decide) ?_
                    exact J_789 y_327 s_326 (d_j272 + d_328) (e_j272 + e_329) x1j272 x2j272 r_325 0 0 H locs h hP hD hS ls (lv_sub hl [3, 4, 5, 0, 2, 1] rfl)
                  replace h := h.2 e291_41
                  by_cases e291_42 : x2j272 = 42
                  · skip
                    have h := h.1 e291_42
                    refine lv_tableIn (off := 498) (tgt := 789) G.1 G.2.1 d_Mo_codeLine_291 (by rw [e291_42]; decide) (by rw [e291_42]; decide) (by rw [e291_42]; rfl) (by decide) ?_
                    exact J_789 y_j272 s_9 d_j272 e_j272 x1j272 x2j272 0 0 0 H locs h hP hD hS ls (lv_sub hl [3, 4, 5, 2, 1, 0] rfl)
                  replace h := h.2 e291_42
                  by_cases e291_43 : x2j272 = 43
                  · skip
                    have h := h.1 e291_43
                    refine lv_tableIn (off := 498) (tgt := 789) G.1 G.2.1 d_Mo_codeLine_291 (by rw [e291_43]; decide) (by rw [e291_43]; decide) (by rw [e291_43]; rfl) (by decide) ?_
                    exact J_789 y_j272 s_9 d_j272 e_j272 x1j272 x2j272 0 0 0 H locs h hP hD hS ls (lv_sub hl [3, 4, 5, 2, 1, 0] rfl)
                  replace h := h.2 e291_43
                  by_cases e291_44 : x2j272 = 44
                  · skip
                    have h := h.1 e291_44
                    refine lv_tableIn (off := 498) (tgt := 789) G.1 G.2.1 d_Mo_codeLine_291 (by rw [e291_44]; decide) (by rw [e291_44]; decide) (by rw [e291_44]; rfl) (by decide) ?_
                    exact J_789 y_j272 s_9 d_j272 e_j272 x1j272 x2j272 0 0 0 H locs h hP hD hS ls (lv_sub hl [3, 4, 5, 2, 1, 0] rfl)
                  replace h := h.2 e291_44
                  by_cases e291_45 : x2j272 = 45
                  · skip
                    have h := h.1 e291_45
                    refine lv_tableIn (off := 498) (tgt := 789) G.1 G.2.1 d_Mo_codeLine_291 (by rw [e291_45]; decide) (by rw [e291_45]; decide) (by rw [e291_45]; rfl) (by decide) ?_
                    exact J_789 y_j272 s_9 d_j272 e_j272 x1j272 x2j272 0 0 0 H locs h hP hD hS ls (lv_sub hl [3, 4, 5, 2, 1, 0] rfl)
                  replace h := h.2 e291_45
                  by_cases e291_46 : x2j272 = 46
                  · skip
                    have h := h.1 e291_46
                    refine lv_tableIn (off := 375) (tgt := 666) G.1 G.2.1 d_Mo_codeLine_291 (by rw [e291_46]; decide) (by rw [e291_46]; decide) (by rw [e291_46]; rfl) (by decide) ?_
                    refine lv_aload_n G.1 G.2.1 d_Mo_codeLine_666 rfl (lv_at hl 3 rfl) ?_
                    obtain ⟨mc_338, ms_339, hr_340, h⟩ := h
                    refine uxVi (As := []) (rest := []) G hP hD hS (cx_Mo_className l D g ad mc_338 ms_339 y_j272 _ _ s_9 a0 H.size (us H) h_a0 h) (fun _ h => absurd h List.not_mem_nil) w9_Mo_className q3555 ⟨Nat.le_of_ble_eq_true rfl, Nat.le_of_ble_eq_true rfl⟩ rfl rfl h_a0 (q := (RMo, TMo, 131)) rfl rfl hl.1 rfl (Nat.le_of_ble_eq_true rfl) rfl hr_340 d_Mo_codeLine_667 (fun y_335 s_334 d_336 e_337 H locs q9 ce h hP hD hS hce hcv hcl => ?_) (fun r_333 y_335 s_334 d_336 e_337 H locs h hP hD hS => ?_)
                    · skip
                      obtain ⟨hd, h⟩ := h
                      exact hretX h hP hD hS hd.1 hd.2 hce hcv hcl
                    have hl := lv_sub (l' := [(0, .ref (ad a0)), (1, .int x1j272), (2, .int x2j272)]) hl [3, 4, 5] rfl
                    obtain ⟨hd, h⟩ := h
                    refine lv_istore_n (lv' := [(3, .int r_333), (0, .ref (ad a0)), (1, .int x1j272), (2, .int x2j272)]) G.1 G.2.1 d_Mo_codeLine_670 rfl hl (by decide) rfl (fun ls hl => ?_)
                    refine lv_aload_n G.1 G.2.1 d_Mo_codeLine_671 rfl (lv_at hl 1 rfl) ?_
                    refine lv_bipush (v := 46) G.1 G.2.1 d_Mo_codeLine_672 (by decide) ?_
                    obtain ⟨mc_346, ms_347, hr_348, h⟩ := h
                    refine uxVv (As := [.int 46]) (rest := []) G hP hD hS (cx_Mo_need l D g ad mc_346 ms_347 y_335 _ _ s_334 a0 46 H.size (us H) h_a0 h) (fun _ h => absurd h List.not_mem_nil) w9_Mo_need q3567 ⟨Nat.le_of_ble_eq_true rfl, Nat.le_of_ble_eq_true rfl⟩ rfl rfl h_a0 (q := (RMo, TMo, 131)) rfl rfl hl.1 rfl (Nat.le_of_ble_eq_true rfl) rfl hr_348 d_Mo_codeLine_674 (fun y_343 s_342 d_344 e_345 H locs q9 ce h hP hD hS hce hcv hcl => ?_) (fun y_343 s_342 d_344 e_345 H locs h hP hD hS => ?_)
                    · skip
                      obtain ⟨hd, h⟩ := h
                      exact hretX h hP hD hS hd.1 hd.2 hce hcv hcl
                    obtain ⟨hd, h⟩ := h
                    refine lv_aload_n G.1 G.2.1 d_Mo_codeLine_677 rfl (lv_at hl 1 rfl) ?_
                    obtain ⟨mc_354, ms_355, hr_356, h⟩ := h
                    refine uxVi (As := []) (rest := []) G hP hD hS (cx_Mo_plainName l D g ad mc_354 ms_355 y_343 _ _ s_342 a0 H.size (us H) h_a0 h) (fun _ h => absurd h List.not_mem_nil) w9_Mo_plainName q3563 ⟨Nat.le_of_ble_eq_true rfl, Nat.le_of_ble_eq_true rfl⟩ rfl rfl h_a0 (q := (RMo, TMo, 131)) rfl rfl hl.1 rfl (Nat.le_of_ble_eq_true rfl) rfl hr_356 d_Mo_codeLine_678 (fun y_351 s_350 d_352 e_353 H locs q9 ce h hP hD hS hce hcv hcl => ?_) (fun r_349 y_351 s_350 d_352 e_353 H locs h hP hD hS => ?_)
                    · skip
                      obtain ⟨hd, h⟩ := h
                      exact hretX h hP hD hS hd.1 hd.2 hce hcv hcl
                    obtain ⟨hd, h⟩ := h
                    refine lv_istore (lv' := [(4, .int r_349), (3, .int r_333), (0, .ref (ad a0)), (1, .int x1j272), (2, .int x2j272)]) G.1 G.2.1 d_Mo_codeLine_681 hl (by decide) rfl (fun ls hl => ?_)
                    refine W.eq (g2 := F0 m 683 ls []) rfl ?_
                    refine lv_aload_n G.1 G.2.1 d_Mo_codeLine_683 rfl (lv_at hl 2 rfl) ?_
                    obtain ⟨mc_362, ms_363, hr_364, h⟩ := h
                    refine uxVi (As := []) (rest := []) G hP hD hS (cx_Mo_type l D g ad mc_362 ms_363 y_351 _ _ s_350 a0 H.size (us H) h_a0 h) (fun _ h => absurd h List.not_mem_nil) w9_Mo_type q3587 ⟨Nat.le_of_ble_eq_true rfl, Nat.le_of_ble_eq_true rfl⟩ rfl rfl h_a0 (q := (RMo, TMo, 131)) rfl rfl hl.1 rfl (Nat.le_of_ble_eq_true rfl) rfl hr_364 d_Mo_codeLine_684 (fun y_359 s_358 d_360 e_361 H locs q9 ce h hP hD hS hce hcv hcl => ?_) (fun r_357 y_359 s_358 d_360 e_361 H locs h hP hD hS => ?_)
                    · skip
                      obtain ⟨hd, h⟩ := h
                      exact hretX h hP hD hS hd.1 hd.2 hce hcv hcl
                    obtain ⟨hd, h⟩ := h
                    refine lv_istore (lv' := [(5, .int r_357), (4, .int r_349), (3, .int r_333), (0, .ref (ad a0)), (1, .int x1j272), (2, .int x2j272)]) G.1 G.2.1 d_Mo_codeLine_687 hl (by decide) rfl (fun ls hl => ?_)
                    refine lv_goto (tgt := 789) G.1 G.2.1 d_Mo_codeLine_689 (by decide) ?_
                    exact J_789 y_359 s_358 (d_j272 + d_336 + d_344 + d_352 + d_360) (e_j272 + e_337 + e_345 + e_353 + e_361) x1j272 x2j272 r_333 r_349 r_357 H locs h hP hD hS ls (lv_sub hl [3, 4, 5, 2, 1, 0] rfl)
                  replace h := h.2 e291_46
                  by_cases e291_47 : x2j272 = 47
                  · skip
                    have h := h.1 e291_47
                    refine lv_tableIn (off := 375) (tgt := 666) G.1 G.2.1 d_Mo_codeLine_291 (by rw [e291_47]; decide) (by rw [e291_47]; decide) (by rw [e291_47]; rfl) (by decide) ?_
                    refine lv_aload_n G.1 G.2.1 d_Mo_codeLine_666 rfl (lv_at hl 3 rfl) ?_
                    obtain ⟨mc_370, ms_371, hr_372, h⟩ := h
                    refine uxVi (As := []) (rest := []) G hP hD hS (cx_Mo_className l D g ad mc_370 ms_371 y_j272 _ _ s_9 a0 H.size (us H) h_a0 h) (fun _ h => absurd h List.not_mem_nil) w9_Mo_className q3555 ⟨Nat.le_of_ble_eq_true rfl, Nat.le_of_ble_eq_true rfl⟩ rfl rfl h_a0 (q := (RMo, TMo, 131)) rfl rfl hl.1 rfl (Nat.le_of_ble_eq_true rfl) rfl hr_372 d_Mo_codeLine_667 (fun y_367 s_366 d_368 e_369 H locs q9 ce h hP hD hS hce hcv hcl => ?_) (fun r_365 y_367 s_366 d_368 e_369 H locs h hP hD hS => ?_)
                    · skip
                      obtain ⟨hd, h⟩ := h
                      exact hretX h hP hD hS hd.1 hd.2 hce hcv hcl
                    have hl := lv_sub (l' := [(0, .ref (ad a0)), (1, .int x1j272), (2, .int x2j272)]) hl [3, 4, 5] rfl
                    obtain ⟨hd, h⟩ := h
                    refine lv_istore_n (lv' := [(3, .int r_365), (0, .ref (ad a0)), (1, .int x1j272), (2, .int x2j272)]) G.1 G.2.1 d_Mo_codeLine_670 rfl hl (by decide) rfl (fun ls hl => ?_)
                    refine lv_aload_n G.1 G.2.1 d_Mo_codeLine_671 rfl (lv_at hl 1 rfl) ?_
                    refine lv_bipush (v := 46) G.1 G.2.1 d_Mo_codeLine_672 (by decide) ?_
                    obtain ⟨mc_378, ms_379, hr_380, h⟩ := h
                    refine uxVv (As := [.int 46]) (rest := []) G hP hD hS (cx_Mo_need l D g ad mc_378 ms_379 y_367 _ _ s_366 a0 46 H.size (us H) h_a0 h) (fun _ h => absurd h List.not_mem_nil) w9_Mo_need q3567 ⟨Nat.le_of_ble_eq_true rfl, Nat.le_of_ble_eq_true rfl⟩ rfl rfl h_a0 (q := (RMo, TMo, 131)) rfl rfl hl.1 rfl (Nat.le_of_ble_eq_true rfl) rfl hr_380 d_Mo_codeLine_674 (fun y_375 s_374 d_376 e_377 H locs q9 ce h hP hD hS hce hcv hcl => ?_) (fun y_375 s_374 d_376 e_377 H locs h hP hD hS => ?_)
                    · skip
                      obtain ⟨hd, h⟩ := h
                      exact hretX h hP hD hS hd.1 hd.2 hce hcv hcl
                    obtain ⟨hd, h⟩ := h
                    refine lv_aload_n G.1 G.2.1 d_Mo_codeLine_677 rfl (lv_at hl 1 rfl) ?_
                    obtain ⟨mc_386, ms_387, hr_388, h⟩ := h
                    refine uxVi (As := []) (rest := []) G hP hD hS (cx_Mo_plainName l D g ad mc_386 ms_387 y_375 _ _ s_374 a0 H.size (us H) h_a0 h) (fun _ h => absurd h List.not_mem_nil) w9_Mo_plainName q3563 ⟨Nat.le_of_ble_eq_true rfl, Nat.le_of_ble_eq_true rfl⟩ rfl rfl h_a0 (q := (RMo, TMo, 131)) rfl rfl hl.1 rfl (Nat.le_of_ble_eq_true rfl) rfl hr_388 d_Mo_codeLine_678 (fun y_383 s_382 d_384 e_385 H locs q9 ce h hP hD hS hce hcv hcl => ?_) (fun r_381 y_383 s_382 d_384 e_385 H locs h hP hD hS => ?_)
                    · skip
                      obtain ⟨hd, h⟩ := h
                      exact hretX h hP hD hS hd.1 hd.2 hce hcv hcl
                    obtain ⟨hd, h⟩ := h
                    refine lv_istore (lv' := [(4, .int r_381), (3, .int r_365), (0, .ref (ad a0)), (1, .int x1j272), (2, .int x2j272)]) G.1 G.2.1 d_Mo_codeLine_681 hl (by decide) rfl (fun ls hl => ?_)
                    refine W.eq (g2 := F0 m 683 ls []) rfl ?_
                    refine lv_aload_n G.1 G.2.1 d_Mo_codeLine_683 rfl (lv_at hl 2 rfl) ?_
                    obtain ⟨mc_394, ms_395, hr_396, h⟩ := h
                    refine uxVi (As := []) (rest := []) G hP hD hS (cx_Mo_type l D g ad mc_394 ms_395 y_383 _ _ s_382 a0 H.size (us H) h_a0 h) (fun _ h => absurd h List.not_mem_nil) w9_Mo_type q3587 ⟨Nat.le_of_ble_eq_true rfl, Nat.le_of_ble_eq_true rfl⟩ rfl rfl h_a0 (q := (RMo, TMo, 131)) rfl rfl hl.1 rfl (Nat.le_of_ble_eq_true rfl) rfl hr_396 d_Mo_codeLine_684 (fun y_391 s_390 d_392 e_393 H locs q9 ce h hP hD hS hce hcv hcl => ?_) (fun r_389 y_391 s_390 d_392 e_393 H locs h hP hD hS => ?_)
                    · skip
                      obtain ⟨hd, h⟩ := h
                      exact hretX h hP hD hS hd.1 hd.2 hce hcv hcl
                    obtain ⟨hd, h⟩ := h
                    refine lv_istore (lv' := [(5, .int r_389), (4, .int r_381), (3, .int r_365), (0, .ref (ad a0)), (1, .int x1j272), (2, .int x2j272)]) G.1 G.2.1 d_Mo_codeLine_687 hl (by decide) rfl (fun ls hl => ?_)
                    refine lv_goto (tgt := 789) G.1 G.2.1 d_Mo_codeLine_689 (by decide) ?_
                    exact J_789 y_391 s_390 (d_j272 + d_368 + d_376 + d_384 + d_392) (e_j272 + e_369 + e_377 + e_385 + e_393) x1j272 x2j272 r_365 r_381 r_389 H locs h hP hD hS ls (lv_sub hl [3, 4, 5, 2, 1, 0] rfl)
                  replace h := h.2 e291_47
                  by_cases e291_48 : x2j272 = 48
                  · skip
                    have h := h.1 e291_48
                    refine lv_tableIn (off := 375) (tgt := 666) G.1 G.2.1 d_Mo_codeLine_291 (by rw [e291_48]; decide) (by rw [e291_48]; decide) (by rw [e291_48]; rfl) (by decide) ?_
                    refine lv_aload_n G.1 G.2.1 d_Mo_codeLine_666 rfl (lv_at hl 3 rfl) ?_
                    obtain ⟨mc_402, ms_403, hr_404, h⟩ := h
                    refine uxVi (As := []) (rest := []) G hP hD hS (cx_Mo_className l D g ad mc_402 ms_403 y_j272 _ _ s_9 a0 H.size (us H) h_a0 h) (fun _ h => absurd h List.not_mem_nil) w9_Mo_className q3555 ⟨Nat.le_of_ble_eq_true rfl, Nat.le_of_ble_eq_true rfl⟩ rfl rfl h_a0 (q := (RMo, TMo, 131)) rfl rfl hl.1 rfl (Nat.le_of_ble_eq_true rfl) rfl hr_404 d_Mo_codeLine_667 (fun y_399 s_398 d_400 e_401 H locs q9 ce h hP hD hS hce hcv hcl => ?_) (fun r_397 y_399 s_398 d_400 e_401 H locs h hP hD hS => ?_)
                    · skip
                      obtain ⟨hd, h⟩ := h
                      exact hretX h hP hD hS hd.1 hd.2 hce hcv hcl
                    have hl := lv_sub (l' := [(0, .ref (ad a0)), (1, .int x1j272), (2, .int x2j272)]) hl [3, 4, 5] rfl
                    obtain ⟨hd, h⟩ := h
                    refine lv_istore_n (lv' := [(3, .int r_397), (0, .ref (ad a0)), (1, .int x1j272), (2, .int x2j272)]) G.1 G.2.1 d_Mo_codeLine_670 rfl hl (by decide) rfl (fun ls hl => ?_)
                    refine lv_aload_n G.1 G.2.1 d_Mo_codeLine_671 rfl (lv_at hl 1 rfl) ?_
                    refine lv_bipush (v := 46) G.1 G.2.1 d_Mo_codeLine_672 (by decide) ?_
                    obtain ⟨mc_410, ms_411, hr_412, h⟩ := h
                    refine uxVv (As := [.int 46]) (rest := []) G hP hD hS (cx_Mo_need l D g ad mc_410 ms_411 y_399 _ _ s_398 a0 46 H.size (us H) h_a0 h) (fun _ h => absurd h List.not_mem_nil) w9_Mo_need q3567 ⟨Nat.le_of_ble_eq_true rfl, Nat.le_of_ble_eq_true rfl⟩ rfl rfl h_a0 (q := (RMo, TMo, 131)) rfl rfl hl.1 rfl (Nat.le_of_ble_eq_true rfl) rfl hr_412 d_Mo_codeLine_674 (fun y_407 s_406 d_408 e_409 H locs q9 ce h hP hD hS hce hcv hcl => ?_) (fun y_407 s_406 d_408 e_409 H locs h hP hD hS => ?_)
                    · skip
                      obtain ⟨hd, h⟩ := h
                      exact hretX h hP hD hS hd.1 hd.2 hce hcv hcl
                    obtain ⟨hd, h⟩ := h
                    refine lv_aload_n G.1 G.2.1 d_Mo_codeLine_677 rfl (lv_at hl 1 rfl) ?_
                    obtain ⟨mc_418, ms_419, hr_420, h⟩ := h
                    refine uxVi (As := []) (rest := []) G hP hD hS (cx_Mo_plainName l D g ad mc_418 ms_419 y_407 _ _ s_406 a0 H.size (us H) h_a0 h) (fun _ h => absurd h List.not_mem_nil) w9_Mo_plainName q3563 ⟨Nat.le_of_ble_eq_true rfl, Nat.le_of_ble_eq_true rfl⟩ rfl rfl h_a0 (q := (RMo, TMo, 131)) rfl rfl hl.1 rfl (Nat.le_of_ble_eq_true rfl) rfl hr_420 d_Mo_codeLine_678 (fun y_415 s_414 d_416 e_417 H locs q9 ce h hP hD hS hce hcv hcl => ?_) (fun r_413 y_415 s_414 d_416 e_417 H locs h hP hD hS => ?_)
                    · skip
                      obtain ⟨hd, h⟩ := h
                      exact hretX h hP hD hS hd.1 hd.2 hce hcv hcl
                    obtain ⟨hd, h⟩ := h
                    refine lv_istore (lv' := [(4, .int r_413), (3, .int r_397), (0, .ref (ad a0)), (1, .int x1j272), (2, .int x2j272)]) G.1 G.2.1 d_Mo_codeLine_681 hl (by decide) rfl (fun ls hl => ?_)
                    refine W.eq (g2 := F0 m 683 ls []) rfl ?_
                    refine lv_aload_n G.1 G.2.1 d_Mo_codeLine_683 rfl (lv_at hl 2 rfl) ?_
                    obtain ⟨mc_426, ms_427, hr_428, h⟩ := h
                    refine uxVi (As := []) (rest := []) G hP hD hS (cx_Mo_type l D g ad mc_426 ms_427 y_415 _ _ s_414 a0 H.size (us H) h_a0 h) (fun _ h => absurd h List.not_mem_nil) w9_Mo_type q3587 ⟨Nat.le_of_ble_eq_true rfl, Nat.le_of_ble_eq_true rfl⟩ rfl rfl h_a0 (q := (RMo, TMo, 131)) rfl rfl hl.1 rfl (Nat.le_of_ble_eq_true rfl) rfl hr_428 d_Mo_codeLine_684 (fun y_423 s_422 d_424 e_425 H locs q9 ce h hP hD hS hce hcv hcl => ?_) (fun r_421 y_423 s_422 d_424 e_425 H locs h hP hD hS => ?_)
                    · skip
                      obtain ⟨hd, h⟩ := h
                      exact hretX h hP hD hS hd.1 hd.2 hce hcv hcl
                    obtain ⟨hd, h⟩ := h
                    refine lv_istore (lv' := [(5, .int r_421), (4, .int r_413), (3, .int r_397), (0, .ref (ad a0)), (1, .int x1j272), (2, .int x2j272)]) G.1 G.2.1 d_Mo_codeLine_687 hl (by decide) rfl (fun ls hl => ?_)
                    refine lv_goto (tgt := 789) G.1 G.2.1 d_Mo_codeLine_689 (by decide) ?_
                    exact J_789 y_423 s_422 (d_j272 + d_400 + d_408 + d_416 + d_424) (e_j272 + e_401 + e_409 + e_417 + e_425) x1j272 x2j272 r_397 r_413 r_421 H locs h hP hD hS ls (lv_sub hl [3, 4, 5, 2, 1, 0] rfl)
                  replace h := h.2 e291_48
                  by_cases e291_49 : x2j272 = 49
                  · skip
                    have h := h.1 e291_49
                    refine lv_tableIn (off := 375) (tgt := 666) G.1 G.2.1 d_Mo_codeLine_291 (by rw [e291_49]; decide) (by rw [e291_49]; decide) (by rw [e291_49]; rfl) (by decide) ?_
                    refine lv_aload_n G.1 G.2.1 d_Mo_codeLine_666 rfl (lv_at hl 3 rfl) ?_
                    obtain ⟨mc_434, ms_435, hr_436, h⟩ := h
                    refine uxVi (As := []) (rest := []) G hP hD hS (cx_Mo_className l D g ad mc_434 ms_435 y_j272 _ _ s_9 a0 H.size (us H) h_a0 h) (fun _ h => absurd h List.not_mem_nil) w9_Mo_className q3555 ⟨Nat.le_of_ble_eq_true rfl, Nat.le_of_ble_eq_true rfl⟩ rfl rfl h_a0 (q := (RMo, TMo, 131)) rfl rfl hl.1 rfl (Nat.le_of_ble_eq_true rfl) rfl hr_436 d_Mo_codeLine_667 (fun y_431 s_430 d_432 e_433 H locs q9 ce h hP hD hS hce hcv hcl => ?_) (fun r_429 y_431 s_430 d_432 e_433 H locs h hP hD hS => ?_)
                    · skip
                      obtain ⟨hd, h⟩ := h
                      exact hretX h hP hD hS hd.1 hd.2 hce hcv hcl
                    have hl := lv_sub (l' := [(0, .ref (ad a0)), (1, .int x1j272), (2, .int x2j272)]) hl [3, 4, 5] rfl
                    obtain ⟨hd, h⟩ := h
                    refine lv_istore_n (lv' := [(3, .int r_429), (0, .ref (ad a0)), (1, .int x1j272), (2, .int x2j272)]) G.1 G.2.1 d_Mo_codeLine_670 rfl hl (by decide) rfl (fun ls hl => ?_)
                    refine lv_aload_n G.1 G.2.1 d_Mo_codeLine_671 rfl (lv_at hl 1 rfl) ?_
                    refine lv_bipush (v := 46) G.1 G.2.1 d_Mo_codeLine_672 (by decide) ?_
                    obtain ⟨mc_442, ms_443, hr_444, h⟩ := h
                    refine uxVv (As := [.int 46]) (rest := []) G hP hD hS (cx_Mo_need l D g ad mc_442 ms_443 y_431 _ _ s_430 a0 46 H.size (us H) h_a0 h) (fun _ h => absurd h List.not_mem_nil) w9_Mo_need q3567 ⟨Nat.le_of_ble_eq_true rfl, Nat.le_of_ble_eq_true rfl⟩ rfl rfl h_a0 (q := (RMo, TMo, 131)) rfl rfl hl.1 rfl (Nat.le_of_ble_eq_true rfl) rfl hr_444 d_Mo_codeLine_674 (fun y_439 s_438 d_440 e_441 H locs q9 ce h hP hD hS hce hcv hcl => ?_) (fun y_439 s_438 d_440 e_441 H locs h hP hD hS => ?_)
                    · skip
                      obtain ⟨hd, h⟩ := h
                      exact hretX h hP hD hS hd.1 hd.2 hce hcv hcl
                    obtain ⟨hd, h⟩ := h
                    refine lv_aload_n G.1 G.2.1 d_Mo_codeLine_677 rfl (lv_at hl 1 rfl) ?_
                    obtain ⟨mc_450, ms_451, hr_452, h⟩ := h
                    refine uxVi (As := []) (rest := []) G hP hD hS (cx_Mo_plainName l D g ad mc_450 ms_451 y_439 _ _ s_438 a0 H.size (us H) h_a0 h) (fun _ h => absurd h List.not_mem_nil) w9_Mo_plainName q3563 ⟨Nat.le_of_ble_eq_true rfl, Nat.le_of_ble_eq_true rfl⟩ rfl rfl h_a0 (q := (RMo, TMo, 131)) rfl rfl hl.1 rfl (Nat.le_of_ble_eq_true rfl) rfl hr_452 d_Mo_codeLine_678 (fun y_447 s_446 d_448 e_449 H locs q9 ce h hP hD hS hce hcv hcl => ?_) (fun r_445 y_447 s_446 d_448 e_449 H locs h hP hD hS => ?_)
                    · skip
                      obtain ⟨hd, h⟩ := h
                      exact hretX h hP hD hS hd.1 hd.2 hce hcv hcl
                    obtain ⟨hd, h⟩ := h
                    refine lv_istore (lv' := [(4, .int r_445), (3, .int r_429), (0, .ref (ad a0)), (1, .int x1j272), (2, .int x2j272)]) G.1 G.2.1 d_Mo_codeLine_681 hl (by decide) rfl (fun ls hl => ?_)
                    refine W.eq (g2 := F0 m 683 ls []) rfl ?_
                    refine lv_aload_n G.1 G.2.1 d_Mo_codeLine_683 rfl (lv_at hl 2 rfl) ?_
                    obtain ⟨mc_458, ms_459, hr_460, h⟩ := h
                    refine uxVi (As := []) (rest := []) G hP hD hS (cx_Mo_type l D g ad mc_458 ms_459 y_447 _ _ s_446 a0 H.size (us H) h_a0 h) (fun _ h => absurd h List.not_mem_nil) w9_Mo_type q3587 ⟨Nat.le_of_ble_eq_true rfl, Nat.le_of_ble_eq_true rfl⟩ rfl rfl h_a0 (q := (RMo, TMo, 131)) rfl rfl hl.1 rfl (Nat.le_of_ble_eq_true rfl) rfl hr_460 d_Mo_codeLine_684 (fun y_455 s_454 d_456 e_457 H locs q9 ce h hP hD hS hce hcv hcl => ?_) (fun r_453 y_455 s_454 d_456 e_457 H locs h hP hD hS => ?_)
                    · skip
                      obtain ⟨hd, h⟩ := h
                      exact hretX h hP hD hS hd.1 hd.2 hce hcv hcl
                    obtain ⟨hd, h⟩ := h
                    refine lv_istore (lv' := [(5, .int r_453), (4, .int r_445), (3, .int r_429), (0, .ref (ad a0)), (1, .int x1j272), (2, .int x2j272)]) G.1 G.2.1 d_Mo_codeLine_687 hl (by decide) rfl (fun ls hl => ?_)
                    refine lv_goto (tgt := 789) G.1 G.2.1 d_Mo_codeLine_689 (by decide) ?_
                    exact J_789 y_455 s_454 (d_j272 + d_432 + d_440 + d_448 + d_456) (e_j272 + e_433 + e_441 + e_449 + e_457) x1j272 x2j272 r_429 r_445 r_453 H locs h hP hD hS ls (lv_sub hl [3, 4, 5, 2, 1, 0] rfl)
                  replace h := h.2 e291_49
                  by_cases e291_50 : x2j272 = 50
                  · skip
                    have h := h.1 e291_50
                    refine lv_tableIn (off := 401) (tgt := 692) G.1 G.2.1 d_Mo_codeLine_291 (by rw [e291_50]; decide) (by rw [e291_50]; decide) (by rw [e291_50]; rfl) (by decide) ?_
                    refine lv_aload_n G.1 G.2.1 d_Mo_codeLine_692 rfl (lv_at hl 3 rfl) ?_
                    obtain ⟨mc_466, ms_467, hr_468, h⟩ := h
                    refine uxVi (As := []) (rest := []) G hP hD hS (cx_Mo_className l D g ad mc_466 ms_467 y_j272 _ _ s_9 a0 H.size (us H) h_a0 h) (fun _ h => absurd h List.not_mem_nil) w9_Mo_className q3555 ⟨Nat.le_of_ble_eq_true rfl, Nat.le_of_ble_eq_true rfl⟩ rfl rfl h_a0 (q := (RMo, TMo, 131)) rfl rfl hl.1 rfl (Nat.le_of_ble_eq_true rfl) rfl hr_468 d_Mo_codeLine_693 (fun y_463 s_462 d_464 e_465 H locs q9 ce h hP hD hS hce hcv hcl => ?_) (fun r_461 y_463 s_462 d_464 e_465 H locs h hP hD hS => ?_)
                    · skip
                      obtain ⟨hd, h⟩ := h
                      exact hretX h hP hD hS hd.1 hd.2 hce hcv hcl
                    have hl := lv_sub (l' := [(0, .ref (ad a0)), (1, .int x1j272), (2, .int x2j272)]) hl [3, 4, 5] rfl
                    obtain ⟨hd, h⟩ := h
                    refine lv_istore_n (lv' := [(3, .int r_461), (0, .ref (ad a0)), (1, .int x1j272), (2, .int x2j272)]) G.1 G.2.1 d_Mo_codeLine_696 rfl hl (by decide) rfl (fun ls hl => ?_)
                    refine lv_aload_n G.1 G.2.1 d_Mo_codeLine_697 rfl (lv_at hl 1 rfl) ?_
                    refine lv_bipush (v := 46) G.1 G.2.1 d_Mo_codeLine_698 (by decide) ?_
                    obtain ⟨mc_474, ms_475, hr_476, h⟩ := h
                    refine uxVv (As := [.int 46]) (rest := []) G hP hD hS (cx_Mo_need l D g ad mc_474 ms_475 y_463 _ _ s_462 a0 46 H.size (us H) h_a0 h) (fun _ h => absurd h List.not_mem_nil) w9_Mo_need q3567 ⟨Nat.le_of_ble_eq_true rfl, Nat.le_of_ble_eq_true rfl⟩ rfl rfl h_a0 (q := (RMo, TMo, 131)) rfl rfl hl.1 rfl (Nat.le_of_ble_eq_true rfl) rfl hr_476 d_Mo_codeLine_700 (fun y_471 s_470 d_472 e_473 H locs q9 ce h hP hD hS hce hcv hcl => ?_) (fun y_471 s_470 d_472 e_473 H locs h hP hD hS => ?_)
                    · skip
                      obtain ⟨hd, h⟩ := h
                      exact hretX h hP hD hS hd.1 hd.2 hce hcv hcl
                    obtain ⟨hd, h⟩ := h
                    refine lv_aload_n G.1 G.2.1 d_Mo_codeLine_703 rfl (lv_at hl 1 rfl) ?_
                    refine ugf (v := .ref (yP y_471 a0 39)) G hP h_a0 iMo rfl 39 (by decide) rfl q3103 rfl rfl d_Mo_codeLine_704 ?_
                    refine lv_aload_n G.1 G.2.1 d_Mo_codeLine_707 rfl (lv_at hl 1 rfl) ?_
                    refine W.eq (g2 := F0 m 708 ls [.ref (ad a0), .ref (yP y_471 a0 39)]) rfl ?_
                    refine ugf (v := .int (sV s_470 a0 43)) G hP h_a0 iMo rfl 43 (by decide) rfl q3107 rfl rfl d_Mo_codeLine_708 ?_
                    refine ubald G hP (kdp h_a0 rfl) (typ h_a0 rfl) h d_Mo_codeLine_711 (fun x_477 h => ?_)
                    refine lv_iconst (v := 3) G.1 G.2.1 d_Mo_codeLine_712 (by decide) ?_
                    have J_757 : ∀ (y_j757 : Ly) (s_j757 : St) (d_j757 e_j757 : Nat) (x1j757 : Int32) (x2j757 : Int32) (x3j757 : Int32) (x4j757 : Int32) (H : Heap) (locs : List Loc), wja_Mo_codeLine_757 mc ms Post PX a0 y_j757 s_j757 d_j757 e_j757 x1j757 x2j757 x3j757 x4j757 → va_P D CL (ws g ad y_j757 s_j757) H → va_D A (ws g ad y_j757 s_j757) → va_S A s.heap H locs → ∀ ls, lv_has ls 7 [(0, .ref (ad a0)), (1, .int x1j757), (2, .int x2j757), (3, .int x3j757), (4, .int x4j757)] → W p l e (ra_Mo_codeLine mc ms) s m args below meth c H locs d_j757 e_j757 Q (F0 m 757 ls []) := by
                      intro y_j757 s_j757 d_j757 e_j757 x1j757 x2j757 x3j757 x4j757 H locs h hP hD hS ls hl
                      unfold wja_Mo_codeLine_757 at h
                      obtain ⟨hd, h⟩ := h
                      refine lv_aload_n G.1 G.2.1 d_Mo_codeLine_757 rfl (lv_at hl 0 rfl) ?_
                      obtain ⟨mc_483, ms_484, hr_485, h⟩ := h
                      refine uxVi (As := []) (rest := []) G hP hD hS (cx_Mo_wholeSignature l D g ad mc_483 ms_484 y_j757 _ _ s_j757 a0 H.size (us H) h_a0 h) (fun _ h => absurd h List.not_mem_nil) w9_Mo_wholeSignature q3600 ⟨Nat.le_of_ble_eq_true rfl, Nat.le_of_ble_eq_true rfl⟩ rfl rfl h_a0 (q := (RMo, TMo, 131)) rfl rfl hl.1 rfl (Nat.le_of_ble_eq_true rfl) rfl hr_485 d_Mo_codeLine_758 (fun y_480 s_479 d_481 e_482 H locs q9 ce h hP hD hS hce hcv hcl => ?_) (fun r_478 y_480 s_479 d_481 e_482 H locs h hP hD hS => ?_)
                      · skip
                        obtain ⟨hd, h⟩ := h
                        exact hretX h hP hD hS hd.1 hd.2 hce hcv hcl
                      obtain ⟨hd, h⟩ := h
                      refine lv_istore (lv' := [(5, .int r_478), (0, .ref (ad a0)), (1, .int x1j757), (2, .int x2j757), (3, .int x3j757), (4, .int x4j757)]) G.1 G.2.1 d_Mo_codeLine_761 hl (by decide) rfl (fun ls hl => ?_)
                      refine lv_aload_n G.1 G.2.1 d_Mo_codeLine_763 rfl (lv_at hl 1 rfl) ?_
                      refine lv_bipush (v := 12) G.1 G.2.1 d_Mo_codeLine_764 (by decide) ?_
                      refine lv_aload_n G.1 G.2.1 d_Mo_codeLine_766 rfl (lv_at hl 1 rfl) ?_
                      refine ugf (v := .ref (yP y_480 a0 31)) G hP h_a0 iMo rfl 31 (by decide) rfl q3095 rfl rfl d_Mo_codeLine_767 ?_
                      refine lv_iload G.1 G.2.1 d_Mo_codeLine_770 (lv_at hl 0 rfl) ?_
                      refine uiald G hP (kdp h_a0 rfl) (typ h_a0 rfl) h d_Mo_codeLine_772 (fun x_486 h => ?_)
                      refine lv_bipush (v := 6) G.1 G.2.1 d_Mo_codeLine_773 (by decide) ?_
                      have J_783 : ∀ (y_j783 : Ly) (s_j783 : St) (d_j783 e_j783 : Nat) (x1j783 : Int32) (x2j783 : Int32) (x3j783 : Int32) (x4j783 : Int32) (x5j783 : Int32) (z1j783 : Int32) (z2j783 : Int32) (H : Heap) (locs : List Loc), wja_Mo_codeLine_783 mc ms Post PX a0 y_j783 s_j783 d_j783 e_j783 x1j783 x2j783 x3j783 x4j783 x5j783 z1j783 z2j783 → va_P D CL (ws g ad y_j783 s_j783) H → va_D A (ws g ad y_j783 s_j783) → va_S A s.heap H locs → ∀ ls, lv_has ls 7 [(0, .ref (ad a0)), (1, .int x1j783), (2, .int x2j783), (3, .int x3j783), (4, .int x4j783), (5, .int x5j783)] → W p l e (ra_Mo_codeLine mc ms) s m args below meth c H locs d_j783 e_j783 Q (F0 m 783 ls [.int z2j783, .int z1j783, .ref (ad a0)]) := by
                        intro y_j783 s_j783 d_j783 e_j783 x1j783 x2j783 x3j783 x4j783 x5j783 z1j783 z2j783 H locs h hP hD hS ls hl
                        unfold wja_Mo_codeLine_783 at h
                        obtain ⟨hd, h⟩ := h
                        refine ucVv (As := [.int z1j783, .int z2j783]) (rest := []) G hP hD hS (cu_Mo_asks l D g ad y_j783 _ s_j783 a0 z1j783 z2j783 H.size h_a0 h) w9_Mo_asks q3575 ⟨Nat.le_of_ble_eq_true rfl, Nat.le_of_ble_eq_true rfl⟩ rfl rfl h_a0 (q := (RMo, TMo, 131)) rfl rfl hl.1 rfl (Nat.le_of_ble_eq_true rfl) rfl hd d_Mo_codeLine_783 (fun s_488 H locs h hP hD hS => ?_)
                        refine lv_goto (tgt := 789) G.1 G.2.1 d_Mo_codeLine_786 (by decide) ?_
                        exact J_789 y_j783 s_488 d_j783 e_j783 x1j783 x2j783 x3j783 x4j783 x5j783 H locs h hP hD hS ls (lv_sub hl [0, 1, 2, 3, 4, 5] rfl)
                      refine lv_icmp_le (tgt := 782) G.1 G.2.1 d_Mo_codeLine_775 (by decide) (fun c775 => ?_) (fun c775 => ?_)
                      · skip
                        have h := h.1 c775
                        refine W.eq (g2 := F0 m 782 ls [.int 12, .ref (ad a0)]) rfl ?_
                        refine lv_iconst (v := 0) G.1 G.2.1 d_Mo_codeLine_782 (by decide) ?_
                        exact J_783 y_480 s_479 (d_j757 + d_481) (e_j757 + e_482) x1j757 x2j757 x3j757 x4j757 r_478 12 0 H locs h hP hD hS ls (lv_sub hl [1, 2, 3, 4, 5, 0] rfl)
                      · skip
                        have h := h.2 c775
                        refine W.eq (g2 := F0 m 778 ls [.int 12, .ref (ad a0)]) rfl ?_
                        refine lv_iconst (v := 1) G.1 G.2.1 d_Mo_codeLine_778 (by decide) ?_
                        refine lv_goto (tgt := 783) G.1 G.2.1 d_Mo_codeLine_779 (by decide) ?_
                        exact J_783 y_480 s_479 (d_j757 + d_481) (e_j757 + e_482) x1j757 x2j757 x3j757 x4j757 r_478 12 1 H locs h hP hD hS ls (lv_sub hl [1, 2, 3, 4, 5, 0] rfl)
                    have J_751 : ∀ (y_j751 : Ly) (s_j751 : St) (d_j751 e_j751 : Nat) (x1j751 : Int32) (x2j751 : Int32) (x3j751 : Int32) (H : Heap) (locs : List Loc), wja_Mo_codeLine_751 mc ms Post PX a0 y_j751 s_j751 d_j751 e_j751 x1j751 x2j751 x3j751 → va_P D CL (ws g ad y_j751 s_j751) H → va_D A (ws g ad y_j751 s_j751) → va_S A s.heap H locs → ∀ ls, lv_has ls 7 [(0, .ref (ad a0)), (1, .int x1j751), (2, .int x2j751), (3, .int x3j751)] → W p l e (ra_Mo_codeLine mc ms) s m args below meth c H locs d_j751 e_j751 Q (F0 m 751 ls []) := by
                      intro y_j751 s_j751 d_j751 e_j751 x1j751 x2j751 x3j751 H locs h hP hD hS ls hl
                      unfold wja_Mo_codeLine_751 at h
                      obtain ⟨hd, h⟩ := h
                      refine lv_aload_n G.1 G.2.1 d_Mo_codeLine_751 rfl (lv_at hl 0 rfl) ?_
                      obtain ⟨mc_494, ms_495, hr_496, h⟩ := h
                      refine uxVi (As := []) (rest := []) G hP hD hS (cx_Mo_plainName l D g ad mc_494 ms_495 y_j751 _ _ s_j751 a0 H.size (us H) h_a0 h) (fun _ h => absurd h List.not_mem_nil) w9_Mo_plainName q3563 ⟨Nat.le_of_ble_eq_true rfl, Nat.le_of_ble_eq_true rfl⟩ rfl rfl h_a0 (q := (RMo, TMo, 131)) rfl rfl hl.1 rfl (Nat.le_of_ble_eq_true rfl) rfl hr_496 d_Mo_codeLine_752 (fun y_491 s_490 d_492 e_493 H locs q9 ce h hP hD hS hce hcv hcl => ?_) (fun r_489 y_491 s_490 d_492 e_493 H locs h hP hD hS => ?_)
                      · skip
                        obtain ⟨hd, h⟩ := h
                        exact hretX h hP hD hS hd.1 hd.2 hce hcv hcl
                      obtain ⟨hd, h⟩ := h
                      refine lv_istore (lv' := [(4, .int r_489), (0, .ref (ad a0)), (1, .int x1j751), (2, .int x2j751), (3, .int x3j751)]) G.1 G.2.1 d_Mo_codeLine_755 hl (by decide) rfl (fun ls hl => ?_)
                      exact J_757 y_491 s_490 (d_j751 + d_492) (e_j751 + e_493) x1j751 x2j751 x3j751 r_489 H locs h hP hD hS ls (lv_sub hl [1, 2, 3, 4, 0] rfl)
                    refine lv_icmp_ne (tgt := 751) G.1 G.2.1 d_Mo_codeLine_713 (by decide) (fun c713 => ?_) (fun c713 => ?_)
                    · skip
                      have h := h.1 c713
                      exact J_751 y_471 s_470 (d_j272 + d_464 + d_472) (e_j272 + e_465 + e_473) x1j272 x2j272 r_461 H locs h hP hD hS ls (lv_sub hl [1, 2, 3, 0] rfl)
                    · skip
                      have h := h.2 c713
                      refine lv_aload_n G.1 G.2.1 d_Mo_codeLine_716 rfl (lv_at hl 1 rfl) ?_
                      refine ugf (v := .ref (yP y_471 a0 40)) G hP h_a0 iMo rfl 40 (by decide) rfl q3104 rfl rfl d_Mo_codeLine_717 ?_
                      refine lv_aload_n G.1 G.2.1 d_Mo_codeLine_720 rfl (lv_at hl 1 rfl) ?_
                      refine ugf (v := .int (sV s_470 a0 43)) G hP h_a0 iMo rfl 43 (by decide) rfl q3107 rfl rfl d_Mo_codeLine_721 ?_
                      refine uiald G hP (kdp h_a0 rfl) (typ h_a0 rfl) h d_Mo_codeLine_724 (fun x_497 h => ?_)
                      refine lv_aload_n G.1 G.2.1 d_Mo_codeLine_725 rfl (lv_at hl 1 rfl) ?_
                      refine ugf (v := .int (sV s_470 a0 6)) G hP h_a0 iMo rfl 6 (by decide) rfl q3070 rfl rfl d_Mo_codeLine_726 ?_
                      refine lv_icmp_ne (tgt := 751) G.1 G.2.1 d_Mo_codeLine_729 (by decide) (fun c729 => ?_) (fun c729 => ?_)
                      · skip
                        have h := h.1 c729
                        exact J_751 y_471 s_470 (d_j272 + d_464 + d_472) (e_j272 + e_465 + e_473) x1j272 x2j272 r_461 H locs h hP hD hS ls (lv_sub hl [1, 2, 3, 0] rfl)
                      · skip
                        have h := h.2 c729
                        refine W.eq (g2 := F0 m 732 ls []) rfl ?_
                        refine lv_aload_n G.1 G.2.1 d_Mo_codeLine_732 rfl (lv_at hl 1 rfl) ?_
                        refine lv_dup G.1 G.2.1 d_Mo_codeLine_733 rfl ?_
                        refine ugf (v := .int (sV s_470 a0 43)) G hP h_a0 iMo rfl 43 (by decide) rfl q3107 rfl rfl d_Mo_codeLine_734 ?_
                        refine lv_iconst (v := 1) G.1 G.2.1 d_Mo_codeLine_737 (by decide) ?_
                        refine lv_iadd G.1 G.2.1 d_Mo_codeLine_738 ?_
                        refine upf G hP hD hS h 43 putV h_a0 iMo tMo tMo_ok nMo rfl (by decide) rfl q3107 rfl rfl fV rfl rfl d_Mo_codeLine_739 (fun s_498 H locs h hP hD hS => ?_)
                        refine lv_aload_n G.1 G.2.1 d_Mo_codeLine_742 rfl (lv_at hl 1 rfl) ?_
                        refine ugf (v := .int (sV s_498 a0 6)) G hP h_a0 iMo rfl 6 (by decide) rfl q3070 rfl rfl d_Mo_codeLine_743 ?_
                        refine lv_istore (lv' := [(4, .int (sV s_498 a0 6)), (3, .int r_461), (0, .ref (ad a0)), (1, .int x1j272), (2, .int x2j272)]) G.1 G.2.1 d_Mo_codeLine_746 hl (by decide) rfl (fun ls hl => ?_)
                        refine lv_goto (tgt := 757) G.1 G.2.1 d_Mo_codeLine_748 (by decide) ?_
                        exact J_757 y_471 s_498 (d_j272 + d_464 + d_472) (e_j272 + e_465 + e_473) x1j272 x2j272 r_461 (sV s_498 a0 6) H locs h hP hD hS ls (lv_sub hl [2, 3, 4, 1, 0] rfl)
                  replace h := h.2 e291_50
                  by_cases e291_51 : x2j272 = 51
                  · skip
                    have h := h.1 e291_51
                    refine lv_tableIn (off := 401) (tgt := 692) G.1 G.2.1 d_Mo_codeLine_291 (by rw [e291_51]; decide) (by rw [e291_51]; decide) (by rw [e291_51]; rfl) (by decide) ?_
                    refine lv_aload_n G.1 G.2.1 d_Mo_codeLine_692 rfl (lv_at hl 3 rfl) ?_
                    obtain ⟨mc_504, ms_505, hr_506, h⟩ := h
                    refine uxVi (As := []) (rest := []) G hP hD hS (cx_Mo_className l D g ad mc_504 ms_505 y_j272 _ _ s_9 a0 H.size (us H) h_a0 h) (fun _ h => absurd h List.not_mem_nil) w9_Mo_className q3555 ⟨Nat.le_of_ble_eq_true rfl, Nat.le_of_ble_eq_true rfl⟩ rfl rfl h_a0 (q := (RMo, TMo, 131)) rfl rfl hl.1 rfl (Nat.le_of_ble_eq_true rfl) rfl hr_506 d_Mo_codeLine_693 (fun y_501 s_500 d_502 e_503 H locs q9 ce h hP hD hS hce hcv hcl => ?_) (fun r_499 y_501 s_500 d_502 e_503 H locs h hP hD hS => ?_)
                    · skip
                      obtain ⟨hd, h⟩ := h
                      exact hretX h hP hD hS hd.1 hd.2 hce hcv hcl
                    have hl := lv_sub (l' := [(0, .ref (ad a0)), (1, .int x1j272), (2, .int x2j272)]) hl [3, 4, 5] rfl
                    obtain ⟨hd, h⟩ := h
                    refine lv_istore_n (lv' := [(3, .int r_499), (0, .ref (ad a0)), (1, .int x1j272), (2, .int x2j272)]) G.1 G.2.1 d_Mo_codeLine_696 rfl hl (by decide) rfl (fun ls hl => ?_)
                    refine lv_aload_n G.1 G.2.1 d_Mo_codeLine_697 rfl (lv_at hl 1 rfl) ?_
                    refine lv_bipush (v := 46) G.1 G.2.1 d_Mo_codeLine_698 (by decide) ?_
                    obtain ⟨mc_512, ms_513, hr_514, h⟩ := h
                    refine uxVv (As := [.int 46]) (rest := []) G hP hD hS (cx_Mo_need l D g ad mc_512 ms_513 y_501 _ _ s_500 a0 46 H.size (us H) h_a0 h) (fun _ h => absurd h List.not_mem_nil) w9_Mo_need q3567 ⟨Nat.le_of_ble_eq_true rfl, Nat.le_of_ble_eq_true rfl⟩ rfl rfl h_a0 (q := (RMo, TMo, 131)) rfl rfl hl.1 rfl (Nat.le_of_ble_eq_true rfl) rfl hr_514 d_Mo_codeLine_700 (fun y_509 s_508 d_510 e_511 H locs q9 ce h hP hD hS hce hcv hcl => ?_) (fun y_509 s_508 d_510 e_511 H locs h hP hD hS => ?_)
                    · skip
                      obtain ⟨hd, h⟩ := h
                      exact hretX h hP hD hS hd.1 hd.2 hce hcv hcl
                    obtain ⟨hd, h⟩ := h
                    refine lv_aload_n G.1 G.2.1 d_Mo_codeLine_703 rfl (lv_at hl 1 rfl) ?_
                    refine ugf (v := .ref (yP y_509 a0 39)) G hP h_a0 iMo rfl 39 (by decide) rfl q3103 rfl rfl d_Mo_codeLine_704 ?_
                    refine lv_aload_n G.1 G.2.1 d_Mo_codeLine_707 rfl (lv_at hl 1 rfl) ?_
                    refine W.eq (g2 := F0 m 708 ls [.ref (ad a0), .ref (yP y_509 a0 39)]) rfl ?_
                    refine ugf (v := .int (sV s_508 a0 43)) G hP h_a0 iMo rfl 43 (by decide) rfl q3107 rfl rfl d_Mo_codeLine_708 ?_
                    refine ubald G hP (kdp h_a0 rfl) (typ h_a0 rfl) h d_Mo_codeLine_711 (fun x_515 h => ?_)
                    refine lv_iconst (v := 3) G.1 G.2.1 d_Mo_codeLine_712 (by decide) ?_
                    have J_757 : ∀ (y_j757 : Ly) (s_j757 : St) (d_j757 e_j757 : Nat) (x1j757 : Int32) (x2j757 : Int32) (x3j757 : Int32) (x4j757 : Int32) (H : Heap) (locs : List Loc), wja_Mo_codeLine_757 mc ms Post PX a0 y_j757 s_j757 d_j757 e_j757 x1j757 x2j757 x3j757 x4j757 → va_P D CL (ws g ad y_j757 s_j757) H → va_D A (ws g ad y_j757 s_j757) → va_S A s.heap H locs → ∀ ls, lv_has ls 7 [(0, .ref (ad a0)), (1, .int x1j757), (2, .int x2j757), (3, .int x3j757), (4, .int x4j757)] → W p l e (ra_Mo_codeLine mc ms) s m args below meth c H locs d_j757 e_j757 Q (F0 m 757 ls []) := by
                      intro y_j757 s_j757 d_j757 e_j757 x1j757 x2j757 x3j757 x4j757 H locs h hP hD hS ls hl
                      unfold wja_Mo_codeLine_757 at h
                      obtain ⟨hd, h⟩ := h
                      refine lv_aload_n G.1 G.2.1 d_Mo_codeLine_757 rfl (lv_at hl 0 rfl) ?_
                      obtain ⟨mc_521, ms_522, hr_523, h⟩ := h
                      refine uxVi (As := []) (rest := []) G hP hD hS (cx_Mo_wholeSignature l D g ad mc_521 ms_522 y_j757 _ _ s_j757 a0 H.size (us H) h_a0 h) (fun _ h => absurd h List.not_mem_nil) w9_Mo_wholeSignature q3600 ⟨Nat.le_of_ble_eq_true rfl, Nat.le_of_ble_eq_true rfl⟩ rfl rfl h_a0 (q := (RMo, TMo, 131)) rfl rfl hl.1 rfl (Nat.le_of_ble_eq_true rfl) rfl hr_523 d_Mo_codeLine_758 (fun y_518 s_517 d_519 e_520 H locs q9 ce h hP hD hS hce hcv hcl => ?_) (fun r_516 y_518 s_517 d_519 e_520 H locs h hP hD hS => ?_)
                      · skip
                        obtain ⟨hd, h⟩ := h
                        exact hretX h hP hD hS hd.1 hd.2 hce hcv hcl
                      obtain ⟨hd, h⟩ := h
                      refine lv_istore (lv' := [(5, .int r_516), (0, .ref (ad a0)), (1, .int x1j757), (2, .int x2j757), (3, .int x3j757), (4, .int x4j757)]) G.1 G.2.1 d_Mo_codeLine_761 hl (by decide) rfl (fun ls hl => ?_)
                      refine lv_aload_n G.1 G.2.1 d_Mo_codeLine_763 rfl (lv_at hl 1 rfl) ?_
                      refine lv_bipush (v := 12) G.1 G.2.1 d_Mo_codeLine_764 (by decide) ?_
                      refine lv_aload_n G.1 G.2.1 d_Mo_codeLine_766 rfl (lv_at hl 1 rfl) ?_
                      refine ugf (v := .ref (yP y_518 a0 31)) G hP h_a0 iMo rfl 31 (by decide) rfl q3095 rfl rfl d_Mo_codeLine_767 ?_
                      refine lv_iload G.1 G.2.1 d_Mo_codeLine_770 (lv_at hl 0 rfl) ?_
                      refine uiald G hP (kdp h_a0 rfl) (typ h_a0 rfl) h d_Mo_codeLine_772 (fun x_524 h => ?_)
                      refine lv_bipush (v := 6) G.1 G.2.1 d_Mo_codeLine_773 (by decide) ?_
                      have J_783 : ∀ (y_j783 : Ly) (s_j783 : St) (d_j783 e_j783 : Nat) (x1j783 : Int32) (x2j783 : Int32) (x3j783 : Int32) (x4j783 : Int32) (x5j783 : Int32) (z1j783 : Int32) (z2j783 : Int32) (H : Heap) (locs : List Loc), wja_Mo_codeLine_783 mc ms Post PX a0 y_j783 s_j783 d_j783 e_j783 x1j783 x2j783 x3j783 x4j783 x5j783 z1j783 z2j783 → va_P D CL (ws g ad y_j783 s_j783) H → va_D A (ws g ad y_j783 s_j783) → va_S A s.heap H locs → ∀ ls, lv_has ls 7 [(0, .ref (ad a0)), (1, .int x1j783), (2, .int x2j783), (3, .int x3j783), (4, .int x4j783), (5, .int x5j783)] → W p l e (ra_Mo_codeLine mc ms) s m args below meth c H locs d_j783 e_j783 Q (F0 m 783 ls [.int z2j783, .int z1j783, .ref (ad a0)]) := by
                        intro y_j783 s_j783 d_j783 e_j783 x1j783 x2j783 x3j783 x4j783 x5j783 z1j783 z2j783 H locs h hP hD hS ls hl
                        unfold wja_Mo_codeLine_783 at h
                        obtain ⟨hd, h⟩ := h
                        refine ucVv (As := [.int z1j783, .int z2j783]) (rest := []) G hP hD hS (cu_Mo_asks l D g ad y_j783 _ s_j783 a0 z1j783 z2j783 H.size h_a0 h) w9_Mo_asks q3575 ⟨Nat.le_of_ble_eq_true rfl, Nat.le_of_ble_eq_true rfl⟩ rfl rfl h_a0 (q := (RMo, TMo, 131)) rfl rfl hl.1 rfl (Nat.le_of_ble_eq_true rfl) rfl hd d_Mo_codeLine_783 (fun s_526 H locs h hP hD hS => ?_)
                        refine lv_goto (tgt := 789) G.1 G.2.1 d_Mo_codeLine_786 (by decide) ?_
                        exact J_789 y_j783 s_526 d_j783 e_j783 x1j783 x2j783 x3j783 x4j783 x5j783 H locs h hP hD hS ls (lv_sub hl [0, 1, 2, 3, 4, 5] rfl)
                      refine lv_icmp_le (tgt := 782) G.1 G.2.1 d_Mo_codeLine_775 (by decide) (fun c775 => ?_) (fun c775 => ?_)
                      · skip
                        have h := h.1 c775
                        refine W.eq (g2 := F0 m 782 ls [.int 12, .ref (ad a0)]) rfl ?_
                        refine lv_iconst (v := 0) G.1 G.2.1 d_Mo_codeLine_782 (by decide) ?_
                        exact J_783 y_518 s_517 (d_j757 + d_519) (e_j757 + e_520) x1j757 x2j757 x3j757 x4j757 r_516 12 0 H locs h hP hD hS ls (lv_sub hl [1, 2, 3, 4, 5, 0] rfl)
                      · skip
                        have h := h.2 c775
                        refine W.eq (g2 := F0 m 778 ls [.int 12, .ref (ad a0)]) rfl ?_
                        refine lv_iconst (v := 1) G.1 G.2.1 d_Mo_codeLine_778 (by decide) ?_
                        refine lv_goto (tgt := 783) G.1 G.2.1 d_Mo_codeLine_779 (by decide) ?_
                        exact J_783 y_518 s_517 (d_j757 + d_519) (e_j757 + e_520) x1j757 x2j757 x3j757 x4j757 r_516 12 1 H locs h hP hD hS ls (lv_sub hl [1, 2, 3, 4, 5, 0] rfl)
                    have J_751 : ∀ (y_j751 : Ly) (s_j751 : St) (d_j751 e_j751 : Nat) (x1j751 : Int32) (x2j751 : Int32) (x3j751 : Int32) (H : Heap) (locs : List Loc), wja_Mo_codeLine_751 mc ms Post PX a0 y_j751 s_j751 d_j751 e_j751 x1j751 x2j751 x3j751 → va_P D CL (ws g ad y_j751 s_j751) H → va_D A (ws g ad y_j751 s_j751) → va_S A s.heap H locs → ∀ ls, lv_has ls 7 [(0, .ref (ad a0)), (1, .int x1j751), (2, .int x2j751), (3, .int x3j751)] → W p l e (ra_Mo_codeLine mc ms) s m args below meth c H locs d_j751 e_j751 Q (F0 m 751 ls []) := by
                      intro y_j751 s_j751 d_j751 e_j751 x1j751 x2j751 x3j751 H locs h hP hD hS ls hl
                      unfold wja_Mo_codeLine_751 at h
                      obtain ⟨hd, h⟩ := h
                      refine lv_aload_n G.1 G.2.1 d_Mo_codeLine_751 rfl (lv_at hl 0 rfl) ?_
                      obtain ⟨mc_532, ms_533, hr_534, h⟩ := h
                      refine uxVi (As := []) (rest := []) G hP hD hS (cx_Mo_plainName l D g ad mc_532 ms_533 y_j751 _ _ s_j751 a0 H.size (us H) h_a0 h) (fun _ h => absurd h List.not_mem_nil) w9_Mo_plainName q3563 ⟨Nat.le_of_ble_eq_true rfl, Nat.le_of_ble_eq_true rfl⟩ rfl rfl h_a0 (q := (RMo, TMo, 131)) rfl rfl hl.1 rfl (Nat.le_of_ble_eq_true rfl) rfl hr_534 d_Mo_codeLine_752 (fun y_529 s_528 d_530 e_531 H locs q9 ce h hP hD hS hce hcv hcl => ?_) (fun r_527 y_529 s_528 d_530 e_531 H locs h hP hD hS => ?_)
                      · skip
                        obtain ⟨hd, h⟩ := h
                        exact hretX h hP hD hS hd.1 hd.2 hce hcv hcl
                      obtain ⟨hd, h⟩ := h
                      refine lv_istore (lv' := [(4, .int r_527), (0, .ref (ad a0)), (1, .int x1j751), (2, .int x2j751), (3, .int x3j751)]) G.1 G.2.1 d_Mo_codeLine_755 hl (by decide) rfl (fun ls hl => ?_)
                      exact J_757 y_529 s_528 (d_j751 + d_530) (e_j751 + e_531) x1j751 x2j751 x3j751 r_527 H locs h hP hD hS ls (lv_sub hl [1, 2, 3, 4, 0] rfl)
                    refine lv_icmp_ne (tgt := 751) G.1 G.2.1 d_Mo_codeLine_713 (by decide) (fun c713 => ?_) (fun c713 => ?_)
                    · skip
                      have h := h.1 c713
                      exact J_751 y_509 s_508 (d_j272 + d_502 + d_510) (e_j272 + e_503 + e_511) x1j272 x2j272 r_499 H locs h hP hD hS ls (lv_sub hl [1, 2, 3, 0] rfl)
                    · skip
                      have h := h.2 c713
                      refine lv_aload_n G.1 G.2.1 d_Mo_codeLine_716 rfl (lv_at hl 1 rfl) ?_
                      refine ugf (v := .ref (yP y_509 a0 40)) G hP h_a0 iMo rfl 40 (by decide) rfl q3104 rfl rfl d_Mo_codeLine_717 ?_
                      refine lv_aload_n G.1 G.2.1 d_Mo_codeLine_720 rfl (lv_at hl 1 rfl) ?_
                      refine ugf (v := .int (sV s_508 a0 43)) G hP h_a0 iMo rfl 43 (by decide) rfl q3107 rfl rfl d_Mo_codeLine_721 ?_
                      refine uiald G hP (kdp h_a0 rfl) (typ h_a0 rfl) h d_Mo_codeLine_724 (fun x_535 h => ?_)
                      refine lv_aload_n G.1 G.2.1 d_Mo_codeLine_725 rfl (lv_at hl 1 rfl) ?_
                      refine ugf (v := .int (sV s_508 a0 6)) G hP h_a0 iMo rfl 6 (by decide) rfl q3070 rfl rfl d_Mo_codeLine_726 ?_
                      refine lv_icmp_ne (tgt := 751) G.1 G.2.1 d_Mo_codeLine_729 (by decide) (fun c729 => ?_) (fun c729 => ?_)
                      · skip
                        have h := h.1 c729
                        exact J_751 y_509 s_508 (d_j272 + d_502 + d_510) (e_j272 + e_503 + e_511) x1j272 x2j272 r_499 H locs h hP hD hS ls (lv_sub hl [1, 2, 3, 0] rfl)
                      · skip
                        have h := h.2 c729
                        refine W.eq (g2 := F0 m 732 ls []) rfl ?_
                        refine lv_aload_n G.1 G.2.1 d_Mo_codeLine_732 rfl (lv_at hl 1 rfl) ?_
                        refine lv_dup G.1 G.2.1 d_Mo_codeLine_733 rfl ?_
                        refine ugf (v := .int (sV s_508 a0 43)) G hP h_a0 iMo rfl 43 (by decide) rfl q3107 rfl rfl d_Mo_codeLine_734 ?_
                        refine lv_iconst (v := 1) G.1 G.2.1 d_Mo_codeLine_737 (by decide) ?_
                        refine lv_iadd G.1 G.2.1 d_Mo_codeLine_738 ?_
                        refine upf G hP hD hS h 43 putV h_a0 iMo tMo tMo_ok nMo rfl (by decide) rfl q3107 rfl rfl fV rfl rfl d_Mo_codeLine_739 (fun s_536 H locs h hP hD hS => ?_)
                        refine lv_aload_n G.1 G.2.1 d_Mo_codeLine_742 rfl (lv_at hl 1 rfl) ?_
                        refine ugf (v := .int (sV s_536 a0 6)) G hP h_a0 iMo rfl 6 (by decide) rfl q3070 rfl rfl d_Mo_codeLine_743 ?_
                        refine lv_istore (lv' := [(4, .int (sV s_536 a0 6)), (3, .int r_499), (0, .ref (ad a0)), (1, .int x1j272), (2, .int x2j272)]) G.1 G.2.1 d_Mo_codeLine_746 hl (by decide) rfl (fun ls hl => ?_)
                        refine lv_goto (tgt := 757) G.1 G.2.1 d_Mo_codeLine_748 (by decide) ?_
                        exact J_757 y_509 s_536 (d_j272 + d_502 + d_510) (e_j272 + e_503 + e_511) x1j272 x2j272 r_499 (sV s_536 a0 6) H locs h hP hD hS ls (lv_sub hl [2, 3, 4, 1, 0] rfl)
                  replace h := h.2 e291_51
                  by_cases e291_52 : x2j272 = 52
                  · skip
                    have h := h.1 e291_52
                    refine lv_tableIn (off := 401) (tgt := 692) G.1 G.2.1 d_Mo_codeLine_291 (by rw [e291_52]; decide) (by rw [e291_52]; decide) (by rw [e291_52]; rfl) (by decide) ?_
                    refine lv_aload_n G.1 G.2.1 d_Mo_codeLine_692 rfl (lv_at hl 3 rfl) ?_
                    obtain ⟨mc_542, ms_543, hr_544, h⟩ := h
                    refine uxVi (As := []) (rest := []) G hP hD hS (cx_Mo_className l D g ad mc_542 ms_543 y_j272 _ _ s_9 a0 H.size (us H) h_a0 h) (fun _ h => absurd h List.not_mem_nil) w9_Mo_className q3555 ⟨Nat.le_of_ble_eq_true rfl, Nat.le_of_ble_eq_true rfl⟩ rfl rfl h_a0 (q := (RMo, TMo, 131)) rfl rfl hl.1 rfl (Nat.le_of_ble_eq_true rfl) rfl hr_544 d_Mo_codeLine_693 (fun y_539 s_538 d_540 e_541 H locs q9 ce h hP hD hS hce hcv hcl => ?_) (fun r_537 y_539 s_538 d_540 e_541 H locs h hP hD hS => ?_)
                    · skip
                      obtain ⟨hd, h⟩ := h
                      exact hretX h hP hD hS hd.1 hd.2 hce hcv hcl
                    have hl := lv_sub (l' := [(0, .ref (ad a0)), (1, .int x1j272), (2, .int x2j272)]) hl [3, 4, 5] rfl
                    obtain ⟨hd, h⟩ := h
                    refine lv_istore_n (lv' := [(3, .int r_537), (0, .ref (ad a0)), (1, .int x1j272), (2, .int x2j272)]) G.1 G.2.1 d_Mo_codeLine_696 rfl hl (by decide) rfl (fun ls hl => ?_)
                    refine lv_aload_n G.1 G.2.1 d_Mo_codeLine_697 rfl (lv_at hl 1 rfl) ?_
                    refine lv_bipush (v := 46) G.1 G.2.1 d_Mo_codeLine_698 (by decide) ?_
                    obtain ⟨mc_550, ms_551, hr_552, h⟩ := h
                    refine uxVv (As := [.int 46]) (rest := []) G hP hD hS (cx_Mo_need l D g ad mc_550 ms_551 y_539 _ _ s_538 a0 46 H.size (us H) h_a0 h) (fun _ h => absurd h List.not_mem_nil) w9_Mo_need q3567 ⟨Nat.le_of_ble_eq_true rfl, Nat.le_of_ble_eq_true rfl⟩ rfl rfl h_a0 (q := (RMo, TMo, 131)) rfl rfl hl.1 rfl (Nat.le_of_ble_eq_true rfl) rfl hr_552 d_Mo_codeLine_700 (fun y_547 s_546 d_548 e_549 H locs q9 ce h hP hD hS hce hcv hcl => ?_) (fun y_547 s_546 d_548 e_549 H locs h hP hD hS => ?_)
                    · skip
                      obtain ⟨hd, h⟩ := h
                      exact hretX h hP hD hS hd.1 hd.2 hce hcv hcl
                    obtain ⟨hd, h⟩ := h
                    refine lv_aload_n G.1 G.2.1 d_Mo_codeLine_703 rfl (lv_at hl 1 rfl) ?_
                    refine ugf (v := .ref (yP y_547 a0 39)) G hP h_a0 iMo rfl 39 (by decide) rfl q3103 rfl rfl d_Mo_codeLine_704 ?_
                    refine lv_aload_n G.1 G.2.1 d_Mo_codeLine_707 rfl (lv_at hl 1 rfl) ?_
                    refine W.eq (g2 := F0 m 708 ls [.ref (ad a0), .ref (yP y_547 a0 39)]) rfl ?_
                    refine ugf (v := .int (sV s_546 a0 43)) G hP h_a0 iMo rfl 43 (by decide) rfl q3107 rfl rfl d_Mo_codeLine_708 ?_
                    refine ubald G hP (kdp h_a0 rfl) (typ h_a0 rfl) h d_Mo_codeLine_711 (fun x_553 h => ?_)
                    refine lv_iconst (v := 3) G.1 G.2.1 d_Mo_codeLine_712 (by decide) ?_
                    have J_757 : ∀ (y_j757 : Ly) (s_j757 : St) (d_j757 e_j757 : Nat) (x1j757 : Int32) (x2j757 : Int32) (x3j757 : Int32) (x4j757 : Int32) (H : Heap) (locs : List Loc), wja_Mo_codeLine_757 mc ms Post PX a0 y_j757 s_j757 d_j757 e_j757 x1j757 x2j757 x3j757 x4j757 → va_P D CL (ws g ad y_j757 s_j757) H → va_D A (ws g ad y_j757 s_j757) → va_S A s.heap H locs → ∀ ls, lv_has ls 7 [(0, .ref (ad a0)), (1, .int x1j757), (2, .int x2j757), (3, .int x3j757), (4, .int x4j757)] → W p l e (ra_Mo_codeLine mc ms) s m args below meth c H locs d_j757 e_j757 Q (F0 m 757 ls []) := by
                      intro y_j757 s_j757 d_j757 e_j757 x1j757 x2j757 x3j757 x4j757 H locs h hP hD hS ls hl
                      unfold wja_Mo_codeLine_757 at h
                      obtain ⟨hd, h⟩ := h
                      refine lv_aload_n G.1 G.2.1 d_Mo_codeLine_757 rfl (lv_at hl 0 rfl) ?_
                      obtain ⟨mc_559, ms_560, hr_561, h⟩ := h
                      refine uxVi (As := []) (rest := []) G hP hD hS (cx_Mo_wholeSignature l D g ad mc_559 ms_560 y_j757 _ _ s_j757 a0 H.size (us H) h_a0 h) (fun _ h => absurd h List.not_mem_nil) w9_Mo_wholeSignature q3600 ⟨Nat.le_of_ble_eq_true rfl, Nat.le_of_ble_eq_true rfl⟩ rfl rfl h_a0 (q := (RMo, TMo, 131)) rfl rfl hl.1 rfl (Nat.le_of_ble_eq_true rfl) rfl hr_561 d_Mo_codeLine_758 (fun y_556 s_555 d_557 e_558 H locs q9 ce h hP hD hS hce hcv hcl => ?_) (fun r_554 y_556 s_555 d_557 e_558 H locs h hP hD hS => ?_)
                      · skip
                        obtain ⟨hd, h⟩ := h
                        exact hretX h hP hD hS hd.1 hd.2 hce hcv hcl
                      obtain ⟨hd, h⟩ := h
                      refine lv_istore (lv' := [(5, .int r_554), (0, .ref (ad a0)), (1, .int x1j757), (2, .int x2j757), (3, .int x3j757), (4, .int x4j757)]) G.1 G.2.1 d_Mo_codeLine_761 hl (by decide) rfl (fun ls hl => ?_)
                      refine lv_aload_n G.1 G.2.1 d_Mo_codeLine_763 rfl (lv_at hl 1 rfl) ?_
                      refine lv_bipush (v := 12) G.1 G.2.1 d_Mo_codeLine_764 (by decide) ?_
                      refine lv_aload_n G.1 G.2.1 d_Mo_codeLine_766 rfl (lv_at hl 1 rfl) ?_
                      refine ugf (v := .ref (yP y_556 a0 31)) G hP h_a0 iMo rfl 31 (by decide) rfl q3095 rfl rfl d_Mo_codeLine_767 ?_
                      refine lv_iload G.1 G.2.1 d_Mo_codeLine_770 (lv_at hl 0 rfl) ?_
                      refine uiald G hP (kdp h_a0 rfl) (typ h_a0 rfl) h d_Mo_codeLine_772 (fun x_562 h => ?_)
                      refine lv_bipush (v := 6) G.1 G.2.1 d_Mo_codeLine_773 (by decide) ?_
                      have J_783 : ∀ (y_j783 : Ly) (s_j783 : St) (d_j783 e_j783 : Nat) (x1j783 : Int32) (x2j783 : Int32) (x3j783 : Int32) (x4j783 : Int32) (x5j783 : Int32) (z1j783 : Int32) (z2j783 : Int32) (H : Heap) (locs : List Loc), wja_Mo_codeLine_783 mc ms Post PX a0 y_j783 s_j783 d_j783 e_j783 x1j783 x2j783 x3j783 x4j783 x5j783 z1j783 z2j783 → va_P D CL (ws g ad y_j783 s_j783) H → va_D A (ws g ad y_j783 s_j783) → va_S A s.heap H locs → ∀ ls, lv_has ls 7 [(0, .ref (ad a0)), (1, .int x1j783), (2, .int x2j783), (3, .int x3j783), (4, .int x4j783), (5, .int x5j783)] → W p l e (ra_Mo_codeLine mc ms) s m args below meth c H locs d_j783 e_j783 Q (F0 m 783 ls [.int z2j783, .int z1j783, .ref (ad a0)]) := by
                        intro y_j783 s_j783 d_j783 e_j783 x1j783 x2j783 x3j783 x4j783 x5j783 z1j783 z2j783 H locs h hP hD hS ls hl
                        unfold wja_Mo_codeLine_783 at h
                        obtain ⟨hd, h⟩ := h
                        refine ucVv (As := [.int z1j783, .int z2j783]) (rest := []) G hP hD hS (cu_Mo_asks l D g ad y_j783 _ s_j783 a0 z1j783 z2j783 H.size h_a0 h) w9_Mo_asks q3575 ⟨Nat.le_of_ble_eq_true rfl, Nat.le_of_ble_eq_true rfl⟩ rfl rfl h_a0 (q := (RMo, TMo, 131)) rfl rfl hl.1 rfl (Nat.le_of_ble_eq_true rfl) rfl hd d_Mo_codeLine_783 (fun s_564 H locs h hP hD hS => ?_)
                        refine lv_goto (tgt := 789) G.1 G.2.1 d_Mo_codeLine_786 (by decide) ?_
                        exact J_789 y_j783 s_564 d_j783 e_j783 x1j783 x2j783 x3j783 x4j783 x5j783 H locs h hP hD hS ls (lv_sub hl [0, 1, 2, 3, 4, 5] rfl)
                      refine lv_icmp_le (tgt := 782) G.1 G.2.1 d_Mo_codeLine_775 (by decide) (fun c775 => ?_) (fun c775 => ?_)
                      · skip
                        have h := h.1 c775
                        refine W.eq (g2 := F0 m 782 ls [.int 12, .ref (ad a0)]) rfl ?_
                        refine lv_iconst (v := 0) G.1 G.2.1 d_Mo_codeLine_782 (by decide) ?_
                        exact J_783 y_556 s_555 (d_j757 + d_557) (e_j757 + e_558) x1j757 x2j757 x3j757 x4j757 r_554 12 0 H locs h hP hD hS ls (lv_sub hl [1, 2, 3, 4, 5, 0] rfl)
                      · skip
                        have h := h.2 c775
                        refine W.eq (g2 := F0 m 778 ls [.int 12, .ref (ad a0)]) rfl ?_
                        refine lv_iconst (v := 1) G.1 G.2.1 d_Mo_codeLine_778 (by decide) ?_
                        refine lv_goto (tgt := 783) G.1 G.2.1 d_Mo_codeLine_779 (by decide) ?_
                        exact J_783 y_556 s_555 (d_j757 + d_557) (e_j757 + e_558) x1j757 x2j757 x3j757 x4j757 r_554 12 1 H locs h hP hD hS ls (lv_sub hl [1, 2, 3, 4, 5, 0] rfl)
                    have J_751 : ∀ (y_j751 : Ly) (s_j751 : St) (d_j751 e_j751 : Nat) (x1j751 : Int32) (x2j751 : Int32) (x3j751 : Int32) (H : Heap) (locs : List Loc), wja_Mo_codeLine_751 mc ms Post PX a0 y_j751 s_j751 d_j751 e_j751 x1j751 x2j751 x3j751 → va_P D CL (ws g ad y_j751 s_j751) H → va_D A (ws g ad y_j751 s_j751) → va_S A s.heap H locs → ∀ ls, lv_has ls 7 [(0, .ref (ad a0)), (1, .int x1j751), (2, .int x2j751), (3, .int x3j751)] → W p l e (ra_Mo_codeLine mc ms) s m args below meth c H locs d_j751 e_j751 Q (F0 m 751 ls []) := by
                      intro y_j751 s_j751 d_j751 e_j751 x1j751 x2j751 x3j751 H locs h hP hD hS ls hl
                      unfold wja_Mo_codeLine_751 at h
                      obtain ⟨hd, h⟩ := h
                      refine lv_aload_n G.1 G.2.1 d_Mo_codeLine_751 rfl (lv_at hl 0 rfl) ?_
                      obtain ⟨mc_570, ms_571, hr_572, h⟩ := h
                      refine uxVi (As := []) (rest := []) G hP hD hS (cx_Mo_plainName l D g ad mc_570 ms_571 y_j751 _ _ s_j751 a0 H.size (us H) h_a0 h) (fun _ h => absurd h List.not_mem_nil) w9_Mo_plainName q3563 ⟨Nat.le_of_ble_eq_true rfl, Nat.le_of_ble_eq_true rfl⟩ rfl rfl h_a0 (q := (RMo, TMo, 131)) rfl rfl hl.1 rfl (Nat.le_of_ble_eq_true rfl) rfl hr_572 d_Mo_codeLine_752 (fun y_567 s_566 d_568 e_569 H locs q9 ce h hP hD hS hce hcv hcl => ?_) (fun r_565 y_567 s_566 d_568 e_569 H locs h hP hD hS => ?_)
                      · skip
                        obtain ⟨hd, h⟩ := h
                        exact hretX h hP hD hS hd.1 hd.2 hce hcv hcl
                      obtain ⟨hd, h⟩ := h
                      refine lv_istore (lv' := [(4, .int r_565), (0, .ref (ad a0)), (1, .int x1j751), (2, .int x2j751), (3, .int x3j751)]) G.1 G.2.1 d_Mo_codeLine_755 hl (by decide) rfl (fun ls hl => ?_)
                      exact J_757 y_567 s_566 (d_j751 + d_568) (e_j751 + e_569) x1j751 x2j751 x3j751 r_565 H locs h hP hD hS ls (lv_sub hl [1, 2, 3, 4, 0] rfl)
                    refine lv_icmp_ne (tgt := 751) G.1 G.2.1 d_Mo_codeLine_713 (by decide) (fun c713 => ?_) (fun c713 => ?_)
                    · skip
                      have h := h.1 c713
                      exact J_751 y_547 s_546 (d_j272 + d_540 + d_548) (e_j272 + e_541 + e_549) x1j272 x2j272 r_537 H locs h hP hD hS ls (lv_sub hl [1, 2, 3, 0] rfl)
                    · skip
                      have h := h.2 c713
                      refine lv_aload_n G.1 G.2.1 d_Mo_codeLine_716 rfl (lv_at hl 1 rfl) ?_
                      refine ugf (v := .ref (yP y_547 a0 40)) G hP h_a0 iMo rfl 40 (by decide) rfl q3104 rfl rfl d_Mo_codeLine_717 ?_
                      refine lv_aload_n G.1 G.2.1 d_Mo_codeLine_720 rfl (lv_at hl 1 rfl) ?_
                      refine ugf (v := .int (sV s_546 a0 43)) G hP h_a0 iMo rfl 43 (by decide) rfl q3107 rfl rfl d_Mo_codeLine_721 ?_
                      refine uiald G hP (kdp h_a0 rfl) (typ h_a0 rfl) h d_Mo_codeLine_724 (fun x_573 h => ?_)
                      refine lv_aload_n G.1 G.2.1 d_Mo_codeLine_725 rfl (lv_at hl 1 rfl) ?_
                      refine ugf (v := .int (sV s_546 a0 6)) G hP h_a0 iMo rfl 6 (by decide) rfl q3070 rfl rfl d_Mo_codeLine_726 ?_
                      refine lv_icmp_ne (tgt := 751) G.1 G.2.1 d_Mo_codeLine_729 (by decide) (fun c729 => ?_) (fun c729 => ?_)
                      · skip
                        have h := h.1 c729
                        exact J_751 y_547 s_546 (d_j272 + d_540 + d_548) (e_j272 + e_541 + e_549) x1j272 x2j272 r_537 H locs h hP hD hS ls (lv_sub hl [1, 2, 3, 0] rfl)
                      · skip
                        have h := h.2 c729
                        refine W.eq (g2 := F0 m 732 ls []) rfl ?_
                        refine lv_aload_n G.1 G.2.1 d_Mo_codeLine_732 rfl (lv_at hl 1 rfl) ?_
                        refine lv_dup G.1 G.2.1 d_Mo_codeLine_733 rfl ?_
                        refine ugf (v := .int (sV s_546 a0 43)) G hP h_a0 iMo rfl 43 (by decide) rfl q3107 rfl rfl d_Mo_codeLine_734 ?_
                        refine lv_iconst (v := 1) G.1 G.2.1 d_Mo_codeLine_737 (by decide) ?_
                        refine lv_iadd G.1 G.2.1 d_Mo_codeLine_738 ?_
                        refine upf G hP hD hS h 43 putV h_a0 iMo tMo tMo_ok nMo rfl (by decide) rfl q3107 rfl rfl fV rfl rfl d_Mo_codeLine_739 (fun s_574 H locs h hP hD hS => ?_)
                        refine lv_aload_n G.1 G.2.1 d_Mo_codeLine_742 rfl (lv_at hl 1 rfl) ?_
                        refine ugf (v := .int (sV s_574 a0 6)) G hP h_a0 iMo rfl 6 (by decide) rfl q3070 rfl rfl d_Mo_codeLine_743 ?_
                        refine lv_istore (lv' := [(4, .int (sV s_574 a0 6)), (3, .int r_537), (0, .ref (ad a0)), (1, .int x1j272), (2, .int x2j272)]) G.1 G.2.1 d_Mo_codeLine_746 hl (by decide) rfl (fun ls hl => ?_)
                        refine lv_goto (tgt := 757) G.1 G.2.1 d_Mo_codeLine_748 (by decide) ?_
                        exact J_757 y_547 s_574 (d_j272 + d_540 + d_548) (e_j272 + e_541 + e_549) x1j272 x2j272 r_537 (sV s_574 a0 6) H locs h hP hD hS ls (lv_sub hl [2, 3, 4, 1, 0] rfl)
                  replace h := h.2 e291_52
                  by_cases e291_53 : x2j272 = 53
                  · skip
                    have h := h.1 e291_53
                    refine lv_tableIn (off := 401) (tgt := 692) G.1 G.2.1 d_Mo_codeLine_291 (by rw [e291_53]; decide) (by rw [e291_53]; decide) (by rw [e291_53]; rfl) (by decide) ?_
                    refine lv_aload_n G.1 G.2.1 d_Mo_codeLine_692 rfl (lv_at hl 3 rfl) ?_
                    obtain ⟨mc_580, ms_581, hr_582, h⟩ := h
                    refine uxVi (As := []) (rest := []) G hP hD hS (cx_Mo_className l D g ad mc_580 ms_581 y_j272 _ _ s_9 a0 H.size (us H) h_a0 h) (fun _ h => absurd h List.not_mem_nil) w9_Mo_className q3555 ⟨Nat.le_of_ble_eq_true rfl, Nat.le_of_ble_eq_true rfl⟩ rfl rfl h_a0 (q := (RMo, TMo, 131)) rfl rfl hl.1 rfl (Nat.le_of_ble_eq_true rfl) rfl hr_582 d_Mo_codeLine_693 (fun y_577 s_576 d_578 e_579 H locs q9 ce h hP hD hS hce hcv hcl => ?_) (fun r_575 y_577 s_576 d_578 e_579 H locs h hP hD hS => ?_)
                    · skip
                      obtain ⟨hd, h⟩ := h
                      exact hretX h hP hD hS hd.1 hd.2 hce hcv hcl
                    have hl := lv_sub (l' := [(0, .ref (ad a0)), (1, .int x1j272), (2, .int x2j272)]) hl [3, 4, 5] rfl
                    obtain ⟨hd, h⟩ := h
                    refine lv_istore_n (lv' := [(3, .int r_575), (0, .ref (ad a0)), (1, .int x1j272), (2, .int x2j272)]) G.1 G.2.1 d_Mo_codeLine_696 rfl hl (by decide) rfl (fun ls hl => ?_)
                    refine lv_aload_n G.1 G.2.1 d_Mo_codeLine_697 rfl (lv_at hl 1 rfl) ?_
                    refine lv_bipush (v := 46) G.1 G.2.1 d_Mo_codeLine_698 (by decide) ?_
                    obtain ⟨mc_588, ms_589, hr_590, h⟩ := h
                    refine uxVv (As := [.int 46]) (rest := []) G hP hD hS (cx_Mo_need l D g ad mc_588 ms_589 y_577 _ _ s_576 a0 46 H.size (us H) h_a0 h) (fun _ h => absurd h List.not_mem_nil) w9_Mo_need q3567 ⟨Nat.le_of_ble_eq_true rfl, Nat.le_of_ble_eq_true rfl⟩ rfl rfl h_a0 (q := (RMo, TMo, 131)) rfl rfl hl.1 rfl (Nat.le_of_ble_eq_true rfl) rfl hr_590 d_Mo_codeLine_700 (fun y_585 s_584 d_586 e_587 H locs q9 ce h hP hD hS hce hcv hcl => ?_) (fun y_585 s_584 d_586 e_587 H locs h hP hD hS => ?_)
                    · skip
                      obtain ⟨hd, h⟩ := h
                      exact hretX h hP hD hS hd.1 hd.2 hce hcv hcl
                    obtain ⟨hd, h⟩ := h
                    refine lv_aload_n G.1 G.2.1 d_Mo_codeLine_703 rfl (lv_at hl 1 rfl) ?_
                    refine ugf (v := .ref (yP y_585 a0 39)) G hP h_a0 iMo rfl 39 (by decide) rfl q3103 rfl rfl d_Mo_codeLine_704 ?_
                    refine lv_aload_n G.1 G.2.1 d_Mo_codeLine_707 rfl (lv_at hl 1 rfl) ?_
                    refine W.eq (g2 := F0 m 708 ls [.ref (ad a0), .ref (yP y_585 a0 39)]) rfl ?_
                    refine ugf (v := .int (sV s_584 a0 43)) G hP h_a0 iMo rfl 43 (by decide) rfl q3107 rfl rfl d_Mo_codeLine_708 ?_
                    refine ubald G hP (kdp h_a0 rfl) (typ h_a0 rfl) h d_Mo_codeLine_711 (fun x_591 h => ?_)
                    refine lv_iconst (v := 3) G.1 G.2.1 d_Mo_codeLine_712 (by decide) ?_
                    have J_757 : ∀ (y_j757 : Ly) (s_j757 : St) (d_j757 e_j757 : Nat) (x1j757 : Int32) (x2j757 : Int32) (x3j757 : Int32) (x4j757 : Int32) (H : Heap) (locs : List Loc), wja_Mo_codeLine_757 mc ms Post PX a0 y_j757 s_j757 d_j757 e_j757 x1j757 x2j757 x3j757 x4j757 → va_P D CL (ws g ad y_j757 s_j757) H → va_D A (ws g ad y_j757 s_j757) → va_S A s.heap H locs → ∀ ls, lv_has ls 7 [(0, .ref (ad a0)), (1, .int x1j757), (2, .int x2j757), (3, .int x3j757), (4, .int x4j757)] → W p l e (ra_Mo_codeLine mc ms) s m args below meth c H locs d_j757 e_j757 Q (F0 m 757 ls []) := by
                      intro y_j757 s_j757 d_j757 e_j757 x1j757 x2j757 x3j757 x4j757 H locs h hP hD hS ls hl
                      unfold wja_Mo_codeLine_757 at h
                      obtain ⟨hd, h⟩ := h
                      refine lv_aload_n G.1 G.2.1 d_Mo_codeLine_757 rfl (lv_at hl 0 rfl) ?_
                      obtain ⟨mc_597, ms_598, hr_599, h⟩ := h
                      refine uxVi (As := []) (rest := []) G hP hD hS (cx_Mo_wholeSignature l D g ad mc_597 ms_598 y_j757 _ _ s_j757 a0 H.size (us H) h_a0 h) (fun _ h => absurd h List.not_mem_nil) w9_Mo_wholeSignature q3600 ⟨Nat.le_of_ble_eq_true rfl, Nat.le_of_ble_eq_true rfl⟩ rfl rfl h_a0 (q := (RMo, TMo, 131)) rfl rfl hl.1 rfl (Nat.le_of_ble_eq_true rfl) rfl hr_599 d_Mo_codeLine_758 (fun y_594 s_593 d_595 e_596 H locs q9 ce h hP hD hS hce hcv hcl => ?_) (fun r_592 y_594 s_593 d_595 e_596 H locs h hP hD hS => ?_)
                      · skip
                        obtain ⟨hd, h⟩ := h
                        exact hretX h hP hD hS hd.1 hd.2 hce hcv hcl
                      obtain ⟨hd, h⟩ := h
                      refine lv_istore (lv' := [(5, .int r_592), (0, .ref (ad a0)), (1, .int x1j757), (2, .int x2j757), (3, .int x3j757), (4, .int x4j757)]) G.1 G.2.1 d_Mo_codeLine_761 hl (by decide) rfl (fun ls hl => ?_)
                      refine lv_aload_n G.1 G.2.1 d_Mo_codeLine_763 rfl (lv_at hl 1 rfl) ?_
                      refine lv_bipush (v := 12) G.1 G.2.1 d_Mo_codeLine_764 (by decide) ?_
                      refine lv_aload_n G.1 G.2.1 d_Mo_codeLine_766 rfl (lv_at hl 1 rfl) ?_
                      refine ugf (v := .ref (yP y_594 a0 31)) G hP h_a0 iMo rfl 31 (by decide) rfl q3095 rfl rfl d_Mo_codeLine_767 ?_
                      refine lv_iload G.1 G.2.1 d_Mo_codeLine_770 (lv_at hl 0 rfl) ?_
                      refine uiald G hP (kdp h_a0 rfl) (typ h_a0 rfl) h d_Mo_codeLine_772 (fun x_600 h => ?_)
                      refine lv_bipush (v := 6) G.1 G.2.1 d_Mo_codeLine_773 (by decide) ?_
                      have J_783 : ∀ (y_j783 : Ly) (s_j783 : St) (d_j783 e_j783 : Nat) (x1j783 : Int32) (x2j783 : Int32) (x3j783 : Int32) (x4j783 : Int32) (x5j783 : Int32) (z1j783 : Int32) (z2j783 : Int32) (H : Heap) (locs : List Loc), wja_Mo_codeLine_783 mc ms Post PX a0 y_j783 s_j783 d_j783 e_j783 x1j783 x2j783 x3j783 x4j783 x5j783 z1j783 z2j783 → va_P D CL (ws g ad y_j783 s_j783) H → va_D A (ws g ad y_j783 s_j783) → va_S A s.heap H locs → ∀ ls, lv_has ls 7 [(0, .ref (ad a0)), (1, .int x1j783), (2, .int x2j783), (3, .int x3j783), (4, .int x4j783), (5, .int x5j783)] → W p l e (ra_Mo_codeLine mc ms) s m args below meth c H locs d_j783 e_j783 Q (F0 m 783 ls [.int z2j783, .int z1j783, .ref (ad a0)]) := by
                        intro y_j783 s_j783 d_j783 e_j783 x1j783 x2j783 x3j783 x4j783 x5j783 z1j783 z2j783 H locs h hP hD hS ls hl
                        unfold wja_Mo_codeLine_783 at h
                        obtain ⟨hd, h⟩ := h
                        refine ucVv (As := [.int z1j783, .int z2j783]) (rest := []) G hP hD hS (cu_Mo_asks l D g ad y_j783 _ s_j783 a0 z1j783 z2j783 H.size h_a0 h) w9_Mo_asks q3575 ⟨Nat.le_of_ble_eq_true rfl, Nat.le_of_ble_eq_true rfl⟩ rfl rfl h_a0 (q := (RMo, TMo, 131)) rfl rfl hl.1 rfl (Nat.le_of_ble_eq_true rfl) rfl hd d_Mo_codeLine_783 (fun s_602 H locs h hP hD hS => ?_)
                        refine lv_goto (tgt := 789) G.1 G.2.1 d_Mo_codeLine_786 (by decide) ?_
                        exact J_789 y_j783 s_602 d_j783 e_j783 x1j783 x2j783 x3j783 x4j783 x5j783 H locs h hP hD hS ls (lv_sub hl [0, 1, 2, 3, 4, 5] rfl)
                      refine lv_icmp_le (tgt := 782) G.1 G.2.1 d_Mo_codeLine_775 (by decide) (fun c775 => ?_) (fun c775 => ?_)
                      · skip
                        have h := h.1 c775
                        refine W.eq (g2 := F0 m 782 ls [.int 12, .ref (ad a0)]) rfl ?_
                        refine lv_iconst (v := 0) G.1 G.2.1 d_Mo_codeLine_782 (by decide) ?_
                        exact J_783 y_594 s_593 (d_j757 + d_595) (e_j757 + e_596) x1j757 x2j757 x3j757 x4j757 r_592 12 0 H locs h hP hD hS ls (lv_sub hl [1, 2, 3, 4, 5, 0] rfl)
                      · skip
                        have h := h.2 c775
                        refine W.eq (g2 := F0 m 778 ls [.int 12, .ref (ad a0)]) rfl ?_
                        refine lv_iconst (v := 1) G.1 G.2.1 d_Mo_codeLine_778 (by decide) ?_
                        refine lv_goto (tgt := 783) G.1 G.2.1 d_Mo_codeLine_779 (by decide) ?_
                        exact J_783 y_594 s_593 (d_j757 + d_595) (e_j757 + e_596) x1j757 x2j757 x3j757 x4j757 r_592 12 1 H locs h hP hD hS ls (lv_sub hl [1, 2, 3, 4, 5, 0] rfl)
                    have J_751 : ∀ (y_j751 : Ly) (s_j751 : St) (d_j751 e_j751 : Nat) (x1j751 : Int32) (x2j751 : Int32) (x3j751 : Int32) (H : Heap) (locs : List Loc), wja_Mo_codeLine_751 mc ms Post PX a0 y_j751 s_j751 d_j751 e_j751 x1j751 x2j751 x3j751 → va_P D CL (ws g ad y_j751 s_j751) H → va_D A (ws g ad y_j751 s_j751) → va_S A s.heap H locs → ∀ ls, lv_has ls 7 [(0, .ref (ad a0)), (1, .int x1j751), (2, .int x2j751), (3, .int x3j751)] → W p l e (ra_Mo_codeLine mc ms) s m args below meth c H locs d_j751 e_j751 Q (F0 m 751 ls []) := by
                      intro y_j751 s_j751 d_j751 e_j751 x1j751 x2j751 x3j751 H locs h hP hD hS ls hl
                      unfold wja_Mo_codeLine_751 at h
                      obtain ⟨hd, h⟩ := h
                      refine lv_aload_n G.1 G.2.1 d_Mo_codeLine_751 rfl (lv_at hl 0 rfl) ?_
                      obtain ⟨mc_608, ms_609, hr_610, h⟩ := h
                      refine uxVi (As := []) (rest := []) G hP hD hS (cx_Mo_plainName l D g ad mc_608 ms_609 y_j751 _ _ s_j751 a0 H.size (us H) h_a0 h) (fun _ h => absurd h List.not_mem_nil) w9_Mo_plainName q3563 ⟨Nat.le_of_ble_eq_true rfl, Nat.le_of_ble_eq_true rfl⟩ rfl rfl h_a0 (q := (RMo, TMo, 131)) rfl rfl hl.1 rfl (Nat.le_of_ble_eq_true rfl) rfl hr_610 d_Mo_codeLine_752 (fun y_605 s_604 d_606 e_607 H locs q9 ce h hP hD hS hce hcv hcl => ?_) (fun r_603 y_605 s_604 d_606 e_607 H locs h hP hD hS => ?_)
                      · skip
                        obtain ⟨hd, h⟩ := h
                        exact hretX h hP hD hS hd.1 hd.2 hce hcv hcl
                      obtain ⟨hd, h⟩ := h
                      refine lv_istore (lv' := [(4, .int r_603), (0, .ref (ad a0)), (1, .int x1j751), (2, .int x2j751), (3, .int x3j751)]) G.1 G.2.1 d_Mo_codeLine_755 hl (by decide) rfl (fun ls hl => ?_)
                      exact J_757 y_605 s_604 (d_j751 + d_606) (e_j751 + e_607) x1j751 x2j751 x3j751 r_603 H locs h hP hD hS ls (lv_sub hl [1, 2, 3, 4, 0] rfl)
                    refine lv_icmp_ne (tgt := 751) G.1 G.2.1 d_Mo_codeLine_713 (by decide) (fun c713 => ?_) (fun c713 => ?_)
                    · skip
                      have h := h.1 c713
                      exact J_751 y_585 s_584 (d_j272 + d_578 + d_586) (e_j272 + e_579 + e_587) x1j272 x2j272 r_575 H locs h hP hD hS ls (lv_sub hl [1, 2, 3, 0] rfl)
                    · skip
                      have h := h.2 c713
                      refine lv_aload_n G.1 G.2.1 d_Mo_codeLine_716 rfl (lv_at hl 1 rfl) ?_
                      refine ugf (v := .ref (yP y_585 a0 40)) G hP h_a0 iMo rfl 40 (by decide) rfl q3104 rfl rfl d_Mo_codeLine_717 ?_
                      refine lv_aload_n G.1 G.2.1 d_Mo_codeLine_720 rfl (lv_at hl 1 rfl) ?_
                      refine ugf (v := .int (sV s_584 a0 43)) G hP h_a0 iMo rfl 43 (by decide) rfl q3107 rfl rfl d_Mo_codeLine_721 ?_
                      refine uiald G hP (kdp h_a0 rfl) (typ h_a0 rfl) h d_Mo_codeLine_724 (fun x_611 h => ?_)
                      refine lv_aload_n G.1 G.2.1 d_Mo_codeLine_725 rfl (lv_at hl 1 rfl) ?_
                      refine ugf (v := .int (sV s_584 a0 6)) G hP h_a0 iMo rfl 6 (by decide) rfl q3070 rfl rfl d_Mo_codeLine_726 ?_
                      refine lv_icmp_ne (tgt := 751) G.1 G.2.1 d_Mo_codeLine_729 (by decide) (fun c729 => ?_) (fun c729 => ?_)
                      · skip
                        have h := h.1 c729
                        exact J_751 y_585 s_584 (d_j272 + d_578 + d_586) (e_j272 + e_579 + e_587) x1j272 x2j272 r_575 H locs h hP hD hS ls (lv_sub hl [1, 2, 3, 0] rfl)
                      · skip
                        have h := h.2 c729
                        refine W.eq (g2 := F0 m 732 ls []) rfl ?_
                        refine lv_aload_n G.1 G.2.1 d_Mo_codeLine_732 rfl (lv_at hl 1 rfl) ?_
                        refine lv_dup G.1 G.2.1 d_Mo_codeLine_733 rfl ?_
                        refine ugf (v := .int (sV s_584 a0 43)) G hP h_a0 iMo rfl 43 (by decide) rfl q3107 rfl rfl d_Mo_codeLine_734 ?_
                        refine lv_iconst (v := 1) G.1 G.2.1 d_Mo_codeLine_737 (by decide) ?_
                        refine lv_iadd G.1 G.2.1 d_Mo_codeLine_738 ?_
                        refine upf G hP hD hS h 43 putV h_a0 iMo tMo tMo_ok nMo rfl (by decide) rfl q3107 rfl rfl fV rfl rfl d_Mo_codeLine_739 (fun s_612 H locs h hP hD hS => ?_)
                        refine lv_aload_n G.1 G.2.1 d_Mo_codeLine_742 rfl (lv_at hl 1 rfl) ?_
                        refine ugf (v := .int (sV s_612 a0 6)) G hP h_a0 iMo rfl 6 (by decide) rfl q3070 rfl rfl d_Mo_codeLine_743 ?_
                        refine lv_istore (lv' := [(4, .int (sV s_612 a0 6)), (3, .int r_575), (0, .ref (ad a0)), (1, .int x1j272), (2, .int x2j272)]) G.1 G.2.1 d_Mo_codeLine_746 hl (by decide) rfl (fun ls hl => ?_)
                        refine lv_goto (tgt := 757) G.1 G.2.1 d_Mo_codeLine_748 (by decide) ?_
                        exact J_757 y_585 s_612 (d_j272 + d_578 + d_586) (e_j272 + e_579 + e_587) x1j272 x2j272 r_575 (sV s_612 a0 6) H locs h hP hD hS ls (lv_sub hl [2, 3, 4, 1, 0] rfl)
                  replace h := h.2 e291_53
                  by_cases e291_54 : x2j272 = 54
                  · skip
                    have h := h.1 e291_54
                    refine lv_tableIn (off := 367) (tgt := 658) G.1 G.2.1 d_Mo_codeLine_291 (by rw [e291_54]; decide) (by rw [e291_54]; decide) (by rw [e291_54]; rfl) (by decide) ?_
                    refine lv_aload_n G.1 G.2.1 d_Mo_codeLine_658 rfl (lv_at hl 3 rfl) ?_
                    obtain ⟨mc_618, ms_619, hr_620, h⟩ := h
                    refine uxVi (As := []) (rest := []) G hP hD hS (cx_Mo_className l D g ad mc_618 ms_619 y_j272 _ _ s_9 a0 H.size (us H) h_a0 h) (fun _ h => absurd h List.not_mem_nil) w9_Mo_className q3555 ⟨Nat.le_of_ble_eq_true rfl, Nat.le_of_ble_eq_true rfl⟩ rfl rfl h_a0 (q := (RMo, TMo, 131)) rfl rfl hl.1 rfl (Nat.le_of_ble_eq_true rfl) rfl hr_620 d_Mo_codeLine_659 (fun y_615 s_614 d_616 e_617 H locs q9 ce h hP hD hS hce hcv hcl => ?_) (fun r_613 y_615 s_614 d_616 e_617 H locs h hP hD hS => ?_)
                    · skip
                      obtain ⟨hd, h⟩ := h
                      exact hretX h hP hD hS hd.1 hd.2 hce hcv hcl
                    have hl := lv_sub (l' := [(5, .int 0), (4, .int 0), (0, .ref (ad a0)), (1, .int x1j272), (2, .int x2j272)]) hl [0, 1, 3, 4, 5] rfl
                    obtain ⟨hd, h⟩ := h
                    refine lv_istore_n (lv' := [(3, .int r_613), (5, .int 0), (4, .int 0), (0, .ref (ad a0)), (1, .int x1j272), (2, .int x2j272)]) G.1 G.2.1 d_Mo_codeLine_662 rfl hl (by decide) rfl (fun ls hl => ?_)
                    refine lv_goto (tgt := 789) G.1 G.2.1 d_Mo_codeLine_663 (by decide) ?_
                    exact J_789 y_615 s_614 (d_j272 + d_616) (e_j272 + e_617) x1j272 x2j272 r_613 0 0 H locs h hP hD hS ls (lv_sub hl [3, 4, 5, 0, 2, 1] rfl)
                  replace h := h.2 e291_54
                  by_cases e291_55 : x2j272 = 55
                  · skip
                    have h := h.1 e291_55
                    refine lv_tableIn (off := 367) (tgt := 658) G.1 G.2.1 d_Mo_codeLine_291 (by rw [e291_55]; decide) (by rw [e291_55]; decide) (by rw [e291_55]; rfl) (by decide) ?_
                    refine lv_aload_n G.1 G.2.1 d_Mo_codeLine_658 rfl (lv_at hl 3 rfl) ?_
                    obtain ⟨mc_626, ms_627, hr_628, h⟩ := h
                    refine uxVi (As := []) (rest := []) G hP hD hS (cx_Mo_className l D g ad mc_626 ms_627 y_j272 _ _ s_9 a0 H.size (us H) h_a0 h) (fun _ h => absurd h List.not_mem_nil) w9_Mo_className q3555 ⟨Nat.le_of_ble_eq_true rfl, Nat.le_of_ble_eq_true rfl⟩ rfl rfl h_a0 (q := (RMo, TMo, 131)) rfl rfl hl.1 rfl (Nat.le_of_ble_eq_true rfl) rfl hr_628 d_Mo_codeLine_659 (fun y_623 s_622 d_624 e_625 H locs q9 ce h hP hD hS hce hcv hcl => ?_) (fun r_621 y_623 s_622 d_624 e_625 H locs h hP hD hS => ?_)
                    · skip
                      obtain ⟨hd, h⟩ := h
                      exact hretX h hP hD hS hd.1 hd.2 hce hcv hcl
                    have hl := lv_sub (l' := [(5, .int 0), (4, .int 0), (0, .ref (ad a0)), (1, .int x1j272), (2, .int x2j272)]) hl [0, 1, 3, 4, 5] rfl
                    obtain ⟨hd, h⟩ := h
                    refine lv_istore_n (lv' := [(3, .int r_621), (5, .int 0), (4, .int 0), (0, .ref (ad a0)), (1, .int x1j272), (2, .int x2j272)]) G.1 G.2.1 d_Mo_codeLine_662 rfl hl (by decide) rfl (fun ls hl => ?_)
                    refine lv_goto (tgt := 789) G.1 G.2.1 d_Mo_codeLine_663 (by decide) ?_
                    exact J_789 y_623 s_622 (d_j272 + d_624) (e_j272 + e_625) x1j272 x2j272 r_621 0 0 H locs h hP hD hS ls (lv_sub hl [3, 4, 5, 0, 2, 1] rfl)
                  replace h := h.2 e291_55
                  have te291_1 := lv_neT (a := 1) e291_1 (by decide)
                  have te291_2 := lv_neT (a := 2) e291_2 (by decide)
                  have te291_3 := lv_neT (a := 3) e291_3 (by decide)
                  have te291_4 := lv_neT (a := 4) e291_4 (by decide)
                  have te291_5 := lv_neT (a := 5) e291_5 (by decide)
                  have te291_6 := lv_neT (a := 6) e291_6 (by decide)
                  have te291_7 := lv_neT (a := 7) e291_7 (by decide)
                  have te291_8 := lv_neT (a := 8) e291_8 (by decide)
                  have te291_9 := lv_neT (a := 9) e291_9 (by decide)
                  have te291_10 := lv_neT (a := 10) e291_10 (by decide)
                  have te291_11 := lv_neT (a := 11) e291_11 (by decide)
                  have te291_12 := lv_neT (a := 12) e291_12 (by decide)
                  have te291_13 := lv_neT (a := 13) e291_13 (by decide)
                  have te291_14 := lv_neT (a := 14) e291_14 (by decide)
                  have te291_15 := lv_neT (a := 15) e291_15 (by decide)
                  have te291_16 := lv_neT (a := 16) e291_16 (by decide)
                  have te291_17 := lv_neT (a := 17) e291_17 (by decide)
                  have te291_18 := lv_neT (a := 18) e291_18 (by decide)
                  have te291_19 := lv_neT (a := 19) e291_19 (by decide)
                  have te291_20 := lv_neT (a := 20) e291_20 (by decide)
                  have te291_21 := lv_neT (a := 21) e291_21 (by decide)
                  have te291_22 := lv_neT (a := 22) e291_22 (by decide)
                  have te291_23 := lv_neT (a := 23) e291_23 (by decide)
                  have te291_24 := lv_neT (a := 24) e291_24 (by decide)
                  have te291_25 := lv_neT (a := 25) e291_25 (by decide)
                  have te291_26 := lv_neT (a := 26) e291_26 (by decide)
                  have te291_27 := lv_neT (a := 27) e291_27 (by decide)
                  have te291_28 := lv_neT (a := 28) e291_28 (by decide)
                  have te291_29 := lv_neT (a := 29) e291_29 (by decide)
                  have te291_30 := lv_neT (a := 30) e291_30 (by decide)
                  have te291_31 := lv_neT (a := 31) e291_31 (by decide)
                  have te291_32 := lv_neT (a := 32) e291_32 (by decide)
                  have te291_33 := lv_neT (a := 33) e291_33 (by decide)
                  have te291_34 := lv_neT (a := 34) e291_34 (by decide)
                  have te291_35 := lv_neT (a := 35) e291_35 (by decide)
                  have te291_36 := lv_neT (a := 36) e291_36 (by decide)
                  have te291_37 := lv_neT (a := 37) e291_37 (by decide)
                  have te291_38 := lv_neT (a := 38) e291_38 (by decide)
                  have te291_39 := lv_neT (a := 39) e291_39 (by decide)
                  have te291_40 := lv_neT (a := 40) e291_40 (by decide)
                  have te291_41 := lv_neT (a := 41) e291_41 (by decide)
                  have te291_42 := lv_neT (a := 42) e291_42 (by decide)
                  have te291_43 := lv_neT (a := 43) e291_43 (by decide)
                  have te291_44 := lv_neT (a := 44) e291_44 (by decide)
                  have te291_45 := lv_neT (a := 45) e291_45 (by decide)
                  have te291_46 := lv_neT (a := 46) e291_46 (by decide)
                  have te291_47 := lv_neT (a := 47) e291_47 (by decide)
                  have te291_48 := lv_neT (a := 48) e291_48 (by decide)
                  have te291_49 := lv_neT (a := 49) e291_49 (by decide)
                  have te291_50 := lv_neT (a := 50) e291_50 (by decide)
                  have te291_51 := lv_neT (a := 51) e291_51 (by decide)
                  have te291_52 := lv_neT (a := 52) e291_52 (by decide)
                  have te291_53 := lv_neT (a := 53) e291_53 (by decide)
                  have te291_54 := lv_neT (a := 54) e291_54 (by decide)
                  have te291_55 := lv_neT (a := 55) e291_55 (by decide)
                  refine lv_tableOut (tgt := 789) G.1 G.2.1 d_Mo_codeLine_291 (by omega) (by decide) ?_
                  exact J_789 y_j272 s_9 d_j272 e_j272 x1j272 x2j272 0 0 0 H locs h hP hD hS ls (lv_sub hl [3, 4, 5, 2, 1, 0] rfl)
                have J_268 : ∀ (y_j268 : Ly) (s_j268 : St) (d_j268 e_j268 : Nat) (x1j268 : Int32) (x2j268 : Int32) (H : Heap) (locs : List Loc), wja_Mo_codeLine_268 mc ms Post PX a0 y_j268 s_j268 d_j268 e_j268 x1j268 x2j268 → va_P D CL (ws g ad y_j268 s_j268) H → va_D A (ws g ad y_j268 s_j268) → va_S A s.heap H locs → ∀ ls, lv_has ls 7 [(0, .ref (ad a0)), (1, .int x1j268), (2, .int x2j268)] → W p l e (ra_Mo_codeLine mc ms) s m args below meth c H locs d_j268 e_j268 Q (F0 m 268 ls []) := by
                  intro y_j268 s_j268 d_j268 e_j268 x1j268 x2j268 H locs h hP hD hS ls hl
                  unfold wja_Mo_codeLine_268 at h
                  obtain ⟨hd, h⟩ := h
                  refine lv_aload_n G.1 G.2.1 d_Mo_codeLine_268 rfl (lv_at hl 0 rfl) ?_
                  obtain ⟨mc_634, ms_635, hr_636, h⟩ := h
                  refine uxVv (As := []) (rest := []) G hP hD hS (cx_Mo_wrong l D g ad mc_634 ms_635 y_j268 _ _ s_j268 a0 H.size (us H) h_a0 h) (fun _ h => absurd h List.not_mem_nil) w9_Mo_wrong q3551 ⟨Nat.le_of_ble_eq_true rfl, Nat.le_of_ble_eq_true rfl⟩ rfl rfl h_a0 (q := (RMo, TMo, 131)) rfl rfl hl.1 rfl (Nat.le_of_ble_eq_true rfl) rfl hr_636 d_Mo_codeLine_269 (fun y_631 s_630 d_632 e_633 H locs q9 ce h hP hD hS hce hcv hcl => ?_) (fun y_631 s_630 d_632 e_633 H locs h hP hD hS => ?_)
                  · skip
                    obtain ⟨hd, h⟩ := h
                    exact hretX h hP hD hS hd.1 hd.2 hce hcv hcl
                  obtain ⟨hd, h⟩ := h
                  exact J_272 y_631 s_630 (d_j268 + d_632) (e_j268 + e_633) x1j268 x2j268 H locs h hP hD hS ls (lv_sub hl [0, 1, 2] rfl)
                refine lv_if_lt (tgt := 268) G.1 G.2.1 d_Mo_codeLine_259 (by decide) (fun c259 => ?_) (fun c259 => ?_)
                · skip
                  have h := h.1 c259
                  exact J_268 y_j257 s_j257 d_j257 e_j257 x1j257 z0j257 H locs h hP hD hS ls (lv_sub hl [1, 2, 0] rfl)
                · skip
                  have h := h.2 c259
                  refine lv_iload_n G.1 G.2.1 d_Mo_codeLine_262 rfl (lv_at hl 0 rfl) ?_
                  refine lv_bipush (v := 62) G.1 G.2.1 d_Mo_codeLine_263 (by decide) ?_
                  refine lv_icmp_lt (tgt := 272) G.1 G.2.1 d_Mo_codeLine_265 (by decide) (fun c265 => ?_) (fun c265 => ?_)
                  · skip
                    have h := h.1 c265
                    exact J_272 y_j257 s_j257 d_j257 e_j257 x1j257 z0j257 H locs h hP hD hS ls (lv_sub hl [1, 2, 0] rfl)
                  · skip
                    have h := h.2 c265
                    exact J_268 y_j257 s_j257 d_j257 e_j257 x1j257 z0j257 H locs h hP hD hS ls (lv_sub hl [1, 2, 0] rfl)
              refine lv_icmp_ne (tgt := 255) G.1 G.2.1 d_Mo_codeLine_235 (by decide) (fun c235 => ?_) (fun c235 => ?_)
              · skip
                have h := h.1 c235
                refine lv_bipush (v := 62) G.1 G.2.1 d_Mo_codeLine_255 (by decide) ?_
                exact J_257 y_j225 s_j225 d_j225 e_j225 x1j225 62 H locs h hP hD hS ls (lv_sub hl [0, 1] rfl)
              · skip
                have h := h.2 c235
                refine lv_aload_n G.1 G.2.1 d_Mo_codeLine_238 rfl (lv_at hl 0 rfl) ?_
                refine ugf (v := .ref (yP y_j225 a0 40)) G hP h_a0 iMo rfl 40 (by decide) rfl q3104 rfl rfl d_Mo_codeLine_239 ?_
                refine lv_aload_n G.1 G.2.1 d_Mo_codeLine_242 rfl (lv_at hl 0 rfl) ?_
                refine ugf (v := .int (sV s_j225 a0 43)) G hP h_a0 iMo rfl 43 (by decide) rfl q3107 rfl rfl d_Mo_codeLine_243 ?_
                refine W.eq (g2 := F0 m 246 ls [.int (sV s_j225 a0 43), .ref (yP y_j225 a0 40)]) rfl ?_
                refine uiald G hP (kdp h_a0 rfl) (typ h_a0 rfl) h d_Mo_codeLine_246 (fun x_637 h => ?_)
                refine lv_aload_n G.1 G.2.1 d_Mo_codeLine_247 rfl (lv_at hl 0 rfl) ?_
                refine ugf (v := .int (sV s_j225 a0 26)) G hP h_a0 iMo rfl 26 (by decide) rfl q3090 rfl rfl d_Mo_codeLine_248 ?_
                refine lv_isub G.1 G.2.1 d_Mo_codeLine_251 ?_
                refine lv_goto (tgt := 257) G.1 G.2.1 d_Mo_codeLine_252 (by decide) ?_
                exact J_257 y_j225 s_j225 d_j225 e_j225 x1j225 (x_637 - (sV s_j225 a0 26)) H locs h hP hD hS ls (lv_sub hl [0, 1] rfl)
            refine lv_if_le (tgt := 225) G.1 G.2.1 d_Mo_codeLine_209 (by decide) (fun c209 => ?_) (fun c209 => ?_)
            · skip
              have h := h.1 c209
              exact J_225 y_j205 s_j205 d_j205 e_j205 x1j205 H locs h hP hD hS ls (lv_sub hl [0, 1] rfl)
            · skip
              have h := h.2 c209
              refine lv_aload_n G.1 G.2.1 d_Mo_codeLine_212 rfl (lv_at hl 0 rfl) ?_
              refine ugf (v := .ref (yP y_j205 a0 39)) G hP h_a0 iMo rfl 39 (by decide) rfl q3103 rfl rfl d_Mo_codeLine_213 ?_
              refine lv_aload_n G.1 G.2.1 d_Mo_codeLine_216 rfl (lv_at hl 0 rfl) ?_
              refine ugf (v := .int (sV s_j205 a0 43)) G hP h_a0 iMo rfl 43 (by decide) rfl q3107 rfl rfl d_Mo_codeLine_217 ?_
              refine ubald G hP (kdp h_a0 rfl) (typ h_a0 rfl) h d_Mo_codeLine_220 (fun x_638 h => ?_)
              refine lv_if_ne (tgt := 225) G.1 G.2.1 d_Mo_codeLine_221 (by decide) (fun c221 => ?_) (fun c221 => ?_)
              · skip
                have h := h.1 c221
                exact J_225 y_j205 s_j205 d_j205 e_j205 x1j205 H locs h hP hD hS ls (lv_sub hl [0, 1] rfl)
              · skip
                have h := h.2 c221
                exact hret (y_j205, s_j205, d_j205, e_j205) _ _ _ _ _ ls h hP hD hS (Nat.le_refl _) (Nat.le_refl _) hd.1 hd.2 d_Mo_codeLine_224
          refine lv_icmp_ne (tgt := 205) G.1 G.2.1 d_Mo_codeLine_77 (by decide) (fun c77 => ?_) (fun c77 => ?_)
          · skip
            have h := h.1 c77
            exact J_205 y_h67 s_h67 d_h67 e_h67 x1h67 H locs h hP hD hS ls (lv_sub hl [0, 1] rfl)
          · skip
            have h := h.2 c77
            refine lv_aload_n G.1 G.2.1 d_Mo_codeLine_80 rfl (lv_at hl 0 rfl) ?_
            refine ugf (v := .ref (yP y_h67 a0 39)) G hP h_a0 iMo rfl 39 (by decide) rfl q3103 rfl rfl d_Mo_codeLine_81 ?_
            refine lv_aload_n G.1 G.2.1 d_Mo_codeLine_84 rfl (lv_at hl 0 rfl) ?_
            refine ugf (v := .int (sV s_h67 a0 43)) G hP h_a0 iMo rfl 43 (by decide) rfl q3107 rfl rfl d_Mo_codeLine_85 ?_
            refine W.eq (g2 := F0 m 88 ls [.int (sV s_h67 a0 43), .ref (yP y_h67 a0 39)]) rfl ?_
            refine lv_iconst (v := 1) G.1 G.2.1 d_Mo_codeLine_88 (by decide) ?_
            refine lv_iadd G.1 G.2.1 d_Mo_codeLine_89 ?_
            refine ubald G hP (kdp h_a0 rfl) (typ h_a0 rfl) h d_Mo_codeLine_90 (fun x_639 h => ?_)
            refine lv_bipush (v := 58) G.1 G.2.1 d_Mo_codeLine_91 (by decide) ?_
            refine lv_icmp_ne (tgt := 205) G.1 G.2.1 d_Mo_codeLine_93 (by decide) (fun c93 => ?_) (fun c93 => ?_)
            · skip
              have h := h.1 c93
              exact J_205 y_h67 s_h67 d_h67 e_h67 x1h67 H locs h hP hD hS ls (lv_sub hl [0, 1] rfl)
            · skip
              have h := h.2 c93
              refine lv_aload_n G.1 G.2.1 d_Mo_codeLine_96 rfl (lv_at hl 0 rfl) ?_
              refine lv_aload_n G.1 G.2.1 d_Mo_codeLine_97 rfl (lv_at hl 0 rfl) ?_
              refine ugf (v := .ref (yP y_h67 a0 40)) G hP h_a0 iMo rfl 40 (by decide) rfl q3104 rfl rfl d_Mo_codeLine_98 ?_
              refine lv_aload_n G.1 G.2.1 d_Mo_codeLine_101 rfl (lv_at hl 0 rfl) ?_
              refine ugf (v := .int (sV s_h67 a0 43)) G hP h_a0 iMo rfl 43 (by decide) rfl q3107 rfl rfl d_Mo_codeLine_102 ?_
              refine uiald G hP (kdp h_a0 rfl) (typ h_a0 rfl) h d_Mo_codeLine_105 (fun x_640 h => ?_)
              refine ucVi (As := [.int x_640]) (rest := []) G hP hD hS (cu_Mo_labelOf l D g ad y_h67 _ s_h67 a0 x_640 H.size h_a0 h) w9_Mo_labelOf q3530 ⟨Nat.le_of_ble_eq_true rfl, Nat.le_of_ble_eq_true rfl⟩ rfl rfl h_a0 (q := (RMo, TMo, 131)) rfl rfl hl.1 rfl (Nat.le_of_ble_eq_true rfl) rfl hd d_Mo_codeLine_106 (fun r_641 s_642 H locs h hP hD hS => ?_)
              have J_120 : ∀ (y_j120 : Ly) (s_j120 : St) (d_j120 e_j120 : Nat) (x1j120 : Int32) (H : Heap) (locs : List Loc), wja_Mo_codeLine_120 mc ms Post PX K_67 a0 y_j120 s_j120 d_j120 e_j120 x1j120 → va_P D CL (ws g ad y_j120 s_j120) H → va_D A (ws g ad y_j120 s_j120) → va_S A s.heap H locs → ∀ ls, lv_has ls 7 [(0, .ref (ad a0)), (1, .int x1j120)] → W p l e (ra_Mo_codeLine mc ms) s m args below meth c H locs d_j120 e_j120 Q (F0 m 120 ls []) := by
                intro y_j120 s_j120 d_j120 e_j120 x1j120 H locs h hP hD hS ls hl
                unfold wja_Mo_codeLine_120 at h
                obtain ⟨hd, h⟩ := h
                refine lv_aload_n G.1 G.2.1 d_Mo_codeLine_120 rfl (lv_at hl 0 rfl) ?_
                refine lv_aload_n G.1 G.2.1 d_Mo_codeLine_121 rfl (lv_at hl 0 rfl) ?_
                refine ugf (v := .ref (yP y_j120 a0 58)) G hP h_a0 iMo rfl 58 (by decide) rfl q3122 rfl rfl d_Mo_codeLine_122 ?_
                refine lv_aload_n G.1 G.2.1 d_Mo_codeLine_125 rfl (lv_at hl 0 rfl) ?_
                refine ugf (v := .int (sV s_j120 a0 60)) G hP h_a0 iMo rfl 60 (by decide) rfl q3124 rfl rfl d_Mo_codeLine_126 ?_
                refine lv_iconst (v := 1) G.1 G.2.1 d_Mo_codeLine_129 (by decide) ?_
                refine lv_iadd G.1 G.2.1 d_Mo_codeLine_130 ?_
                refine uroom (C := RMo) (T := TMo) (N := 131) G hP hD hS (fun ws0 q1 q t n f sz he ht hn => c_Mo_room_k l D g ws0 q1 q t n f sz he ht hn) (fun ws0 q1 q t n f sz he hn ht hf => c_Mo_room_g l D g ws0 q1 q t n f sz he hn ht hf) w9_Mo_room q2596 ⟨Nat.le_of_ble_eq_true rfl, Nat.le_of_ble_eq_true rfl⟩ (Nat.le_refl _) (Nat.le_refl _) hd (by decide) h_a0 rfl rfl iMo tMo tMo_ok nMo rfl (by decide) q3122 rfl rfl (fun _ => rfl) (fun _ => rfl) hl.1 (Nat.le_of_ble_eq_true rfl) h d_Mo_codeLine_131 d_Mo_codeLine_134 (fun y_643 s_644 d_645 e_646 H locs h hP hD hS => ?_)
                obtain ⟨hd, h⟩ := h
                refine lv_aload_n G.1 G.2.1 d_Mo_codeLine_137 rfl (lv_at hl 0 rfl) ?_
                refine lv_aload_n G.1 G.2.1 d_Mo_codeLine_138 rfl (lv_at hl 0 rfl) ?_
                refine ugf (v := .ref (yP y_643 a0 59)) G hP h_a0 iMo rfl 59 (by decide) rfl q3123 rfl rfl d_Mo_codeLine_139 ?_
                refine W.eq (g2 := F0 m 142 ls [.ref (yP y_643 a0 59), .ref (ad a0)]) rfl ?_
                refine lv_aload_n G.1 G.2.1 d_Mo_codeLine_142 rfl (lv_at hl 0 rfl) ?_
                refine ugf (v := .int (sV s_644 a0 60)) G hP h_a0 iMo rfl 60 (by decide) rfl q3124 rfl rfl d_Mo_codeLine_143 ?_
                refine lv_iconst (v := 1) G.1 G.2.1 d_Mo_codeLine_146 (by decide) ?_
                refine lv_iadd G.1 G.2.1 d_Mo_codeLine_147 ?_
                refine uroom (C := RMo) (T := TMo) (N := 131) G hP hD hS (fun ws0 q1 q t n f sz he ht hn => c_Mo_room_k l D g ws0 q1 q t n f sz he ht hn) (fun ws0 q1 q t n f sz he hn ht hf => c_Mo_room_g l D g ws0 q1 q t n f sz he hn ht hf) w9_Mo_room q2596 ⟨Nat.le_of_ble_eq_true rfl, Nat.le_of_ble_eq_true rfl⟩ (Nat.le_refl _) (Nat.le_refl _) hd (by decide) h_a0 rfl rfl iMo tMo tMo_ok nMo rfl (by decide) q3123 rfl rfl (fun _ => rfl) (fun _ => rfl) hl.1 (Nat.le_of_ble_eq_true rfl) h d_Mo_codeLine_148 d_Mo_codeLine_151 (fun y_647 s_648 d_649 e_650 H locs h hP hD hS => ?_)
                obtain ⟨hd, h⟩ := h
                refine lv_aload_n G.1 G.2.1 d_Mo_codeLine_154 rfl (lv_at hl 0 rfl) ?_
                refine ugf (v := .ref (yP y_647 a0 58)) G hP h_a0 iMo rfl 58 (by decide) rfl q3122 rfl rfl d_Mo_codeLine_155 ?_
                refine lv_aload_n G.1 G.2.1 d_Mo_codeLine_158 rfl (lv_at hl 0 rfl) ?_
                refine ugf (v := .int (sV s_648 a0 60)) G hP h_a0 iMo rfl 60 (by decide) rfl q3124 rfl rfl d_Mo_codeLine_159 ?_
                refine lv_aload_n G.1 G.2.1 d_Mo_codeLine_162 rfl (lv_at hl 0 rfl) ?_
                refine ugf (v := .ref (yP y_647 a0 40)) G hP h_a0 iMo rfl 40 (by decide) rfl q3104 rfl rfl d_Mo_codeLine_163 ?_
                refine lv_aload_n G.1 G.2.1 d_Mo_codeLine_166 rfl (lv_at hl 0 rfl) ?_
                refine W.eq (g2 := F0 m 167 ls [.ref (ad a0), .ref (yP y_647 a0 40), .int (sV s_648 a0 60), .ref (yP y_647 a0 58)]) rfl ?_
                refine ugf (v := .int (sV s_648 a0 43)) G hP h_a0 iMo rfl 43 (by decide) rfl q3107 rfl rfl d_Mo_codeLine_167 ?_
                refine uiald G hP (kdp h_a0 rfl) (typ h_a0 rfl) h d_Mo_codeLine_170 (fun x_651 h => ?_)
                refine uiast G hP hD hS (kdp h_a0 rfl) (typ h_a0 rfl) h d_Mo_codeLine_171 (fun s_652 H locs h hP hD hS => ?_)
                refine lv_aload_n G.1 G.2.1 d_Mo_codeLine_172 rfl (lv_at hl 0 rfl) ?_
                refine ugf (v := .ref (yP y_647 a0 59)) G hP h_a0 iMo rfl 59 (by decide) rfl q3123 rfl rfl d_Mo_codeLine_173 ?_
                refine lv_aload_n G.1 G.2.1 d_Mo_codeLine_176 rfl (lv_at hl 0 rfl) ?_
                refine ugf (v := .int (sV s_652 a0 60)) G hP h_a0 iMo rfl 60 (by decide) rfl q3124 rfl rfl d_Mo_codeLine_177 ?_
                refine lv_iload_n G.1 G.2.1 d_Mo_codeLine_180 rfl (lv_at hl 1 rfl) ?_
                refine uiast G hP hD hS (kdp h_a0 rfl) (typ h_a0 rfl) h d_Mo_codeLine_181 (fun s_653 H locs h hP hD hS => ?_)
                refine lv_aload_n G.1 G.2.1 d_Mo_codeLine_182 rfl (lv_at hl 0 rfl) ?_
                refine lv_dup G.1 G.2.1 d_Mo_codeLine_183 rfl ?_
                refine ugf (v := .int (sV s_653 a0 60)) G hP h_a0 iMo rfl 60 (by decide) rfl q3124 rfl rfl d_Mo_codeLine_184 ?_
                refine W.eq (g2 := F0 m 187 ls [.int (sV s_653 a0 60), .ref (ad a0)]) rfl ?_
                refine lv_iconst (v := 1) G.1 G.2.1 d_Mo_codeLine_187 (by decide) ?_
                refine lv_iadd G.1 G.2.1 d_Mo_codeLine_188 ?_
                refine upf G hP hD hS h 60 putV h_a0 iMo tMo tMo_ok nMo rfl (by decide) rfl q3124 rfl rfl fV rfl rfl d_Mo_codeLine_189 (fun s_654 H locs h hP hD hS => ?_)
                refine lv_aload_n G.1 G.2.1 d_Mo_codeLine_192 rfl (lv_at hl 0 rfl) ?_
                refine lv_dup G.1 G.2.1 d_Mo_codeLine_193 rfl ?_
                refine ugf (v := .int (sV s_654 a0 43)) G hP h_a0 iMo rfl 43 (by decide) rfl q3107 rfl rfl d_Mo_codeLine_194 ?_
                refine lv_iconst (v := 2) G.1 G.2.1 d_Mo_codeLine_197 (by decide) ?_
                refine lv_iadd G.1 G.2.1 d_Mo_codeLine_198 ?_
                refine upf G hP hD hS h 43 putV h_a0 iMo tMo tMo_ok nMo rfl (by decide) rfl q3107 rfl rfl fV rfl rfl d_Mo_codeLine_199 (fun s_655 H locs h hP hD hS => ?_)
                refine lv_goto (tgt := 67) G.1 G.2.1 d_Mo_codeLine_202 (by decide) ?_
                have h := hK_67 y_647 s_655 d_649 e_650 x1j120 h
                exact ih_67 y_647 s_655 d_649 e_650 x1j120 (Nat.lt_of_lt_of_le h.2 (Nat.le_of_lt_succ hμ_67)) h.1 H locs hP hD hS ls (lv_sub hl [0, 1] rfl)
              refine W.eq (g2 := F0 m 109 ls [.int r_641]) rfl ?_
              refine lv_if_lt (tgt := 120) G.1 G.2.1 d_Mo_codeLine_109 (by decide) (fun c109 => ?_) (fun c109 => ?_)
              · skip
                have h := h.1 c109
                exact J_120 y_h67 s_642 d_h67 e_h67 x1h67 H locs h hP hD hS ls (lv_sub hl [0, 1] rfl)
              · skip
                have h := h.2 c109
                refine lv_aload_n G.1 G.2.1 d_Mo_codeLine_112 rfl (lv_at hl 0 rfl) ?_
                refine lv_ldcw (v := (-2147483648)) G.1 G.2.1 G.2.2.2.2.2.2.1 (G.2.2.2.2.2.1 _ q3534) d_Mo_codeLine_113 ?_
                refine lv_iconst (v := 0) G.1 G.2.1 d_Mo_codeLine_116 (by decide) ?_
                obtain ⟨mc_661, ms_662, hr_663, h⟩ := h
                refine uaVv (As := [.int (-2147483648), .int 0]) (rest := []) G hP hD hS (ca_Mo_addNine l D g ad mc_661 ms_662 y_h67 _ s_642 a0 (-2147483648) 0 H.size (us H) h_a0 h) w9_Mo_addNine q3632 ⟨Nat.le_of_ble_eq_true rfl, Nat.le_of_ble_eq_true rfl⟩ rfl rfl h_a0 (q := (RMo, TMo, 131)) rfl rfl hl.1 rfl (Nat.le_of_ble_eq_true rfl) rfl hr_663 d_Mo_codeLine_117 (fun y_658 s_657 d_659 e_660 H locs h hP hD hS => ?_)
                obtain ⟨hd, h⟩ := h
                exact J_120 y_658 s_657 (d_h67 + d_659) (e_h67 + e_660) x1h67 H locs h hP hD hS ls (lv_sub hl [0, 1] rfl)
      exact L_67 _ y_j54 s_j54 d_j54 e_j54 x_6 (Nat.lt_succ_self _) hI_67 H locs hP hD hS ls (lv_sub hl [1, 0] rfl)
    refine lv_icmp_eq (tgt := 54) G.1 G.2.1 d_Mo_codeLine_35 (by decide) (fun c35 => ?_) (fun c35 => ?_)
    · skip
      have h := h.1 c35
      exact J_54 y_j27 s_j27 d_j27 e_j27 H locs h hP hD hS ls (lv_sub hl [0] rfl)
    · skip
      have h := h.2 c35
      refine lv_aload_n G.1 G.2.1 d_Mo_codeLine_38 rfl (lv_at hl 0 rfl) ?_
      refine lv_aload_n G.1 G.2.1 d_Mo_codeLine_39 rfl (lv_at hl 0 rfl) ?_
      refine ugf (v := .int (sV s_j27 a0 18)) G hP h_a0 iMo rfl 18 (by decide) rfl q3082 rfl rfl d_Mo_codeLine_40 ?_
      refine ucVi (As := [.int (sV s_j27 a0 18)]) (rest := []) G hP hD hS (cu_Mo_takes l D g ad y_j27 _ s_j27 a0 (sV s_j27 a0 18) H.size h_a0 h) w9_Mo_takes q3547 ⟨Nat.le_of_ble_eq_true rfl, Nat.le_of_ble_eq_true rfl⟩ rfl rfl h_a0 (q := (RMo, TMo, 131)) rfl rfl hl.1 rfl (Nat.le_of_ble_eq_true rfl) rfl hd d_Mo_codeLine_43 (fun r_664 s_665 H locs h hP hD hS => ?_)
      refine lv_if_eq (tgt := 54) G.1 G.2.1 d_Mo_codeLine_46 (by decide) (fun c46 => ?_) (fun c46 => ?_)
      · skip
        have h := h.1 c46
        exact J_54 y_j27 s_665 d_j27 e_j27 H locs h hP hD hS ls (lv_sub hl [0] rfl)
      · skip
        have h := h.2 c46
        refine W.eq (g2 := F0 m 49 ls []) rfl ?_
        refine lv_aload_n G.1 G.2.1 d_Mo_codeLine_49 rfl (lv_at hl 0 rfl) ?_
        obtain ⟨mc_671, ms_672, hr_673, h⟩ := h
        refine uxVv (As := []) (rest := []) G hP hD hS (cx_Mo_handlerLine l D g ad mc_671 ms_672 y_j27 _ _ s_665 a0 H.size (us H) h_a0 h) (fun _ h => absurd h List.not_mem_nil) w9_Mo_handlerLine q3636 ⟨Nat.le_of_ble_eq_true rfl, Nat.le_of_ble_eq_true rfl⟩ rfl rfl h_a0 (q := (RMo, TMo, 131)) rfl rfl hl.1 rfl (Nat.le_of_ble_eq_true rfl) rfl hr_673 d_Mo_codeLine_50 (fun y_668 s_667 d_669 e_670 H locs q9 ce h hP hD hS hce hcv hcl => ?_) (fun y_668 s_667 d_669 e_670 H locs h hP hD hS => ?_)
        · skip
          obtain ⟨hd, h⟩ := h
          exact hretX h hP hD hS hd.1 hd.2 hce hcv hcl
        have hl := lv_sub (l' := []) hl [] rfl
        obtain ⟨hd, h⟩ := h
        exact hret (y_668, s_667, d_j27 + d_669, e_j27 + e_670) _ _ _ _ _ ls h hP hD hS (Nat.le_refl _) (Nat.le_refl _) hd.1 hd.2 d_Mo_codeLine_53
  refine lv_icmp_eq (tgt := 27) G.1 G.2.1 d_Mo_codeLine_8 (by decide) (fun c8 => ?_) (fun c8 => ?_)
  · skip
    have h := h.1 c8
    exact J_27 y σ 0 0 H locs h hP hD hS ls (lv_sub hl [0] rfl)
  · skip
    have h := h.2 c8
    refine lv_aload_n G.1 G.2.1 d_Mo_codeLine_11 rfl (lv_at hl 0 rfl) ?_
    refine lv_aload_n G.1 G.2.1 d_Mo_codeLine_12 rfl (lv_at hl 0 rfl) ?_
    refine ugf (v := .int (sV σ a0 17)) G hP h_a0 iMo rfl 17 (by decide) rfl q3081 rfl rfl d_Mo_codeLine_13 ?_
    refine ucVi (As := [.int (sV σ a0 17)]) (rest := []) G hP hD hS (cu_Mo_takes l D g ad y _ σ a0 (sV σ a0 17) H.size h_a0 h) w9_Mo_takes q3547 ⟨Nat.le_of_ble_eq_true rfl, Nat.le_of_ble_eq_true rfl⟩ rfl rfl h_a0 (q := (RMo, TMo, 131)) rfl rfl hl.1 rfl (Nat.le_of_ble_eq_true rfl) rfl hd d_Mo_codeLine_16 (fun r_674 s_675 H locs h hP hD hS => ?_)
    refine lv_if_eq (tgt := 27) G.1 G.2.1 d_Mo_codeLine_19 (by decide) (fun c19 => ?_) (fun c19 => ?_)
    · skip
      have h := h.1 c19
      exact J_27 y s_675 0 0 H locs h hP hD hS ls (lv_sub hl [0] rfl)
    · skip
      have h := h.2 c19
      refine W.eq (g2 := F0 m 22 ls []) rfl ?_
      refine lv_aload_n G.1 G.2.1 d_Mo_codeLine_22 rfl (lv_at hl 0 rfl) ?_
      obtain ⟨mc_681, ms_682, hr_683, h⟩ := h
      refine uxVv (As := []) (rest := []) G hP hD hS (cx_Mo_frameLine l D g ad mc_681 ms_682 y _ _ s_675 a0 H.size (us H) h_a0 h) (fun _ h => absurd h List.not_mem_nil) w9_Mo_frameLine q3620 ⟨Nat.le_of_ble_eq_true rfl, Nat.le_of_ble_eq_true rfl⟩ rfl rfl h_a0 (q := (RMo, TMo, 131)) rfl rfl hl.1 rfl (Nat.le_of_ble_eq_true rfl) rfl hr_683 d_Mo_codeLine_23 (fun y_678 s_677 d_679 e_680 H locs q9 ce h hP hD hS hce hcv hcl => ?_) (fun y_678 s_677 d_679 e_680 H locs h hP hD hS => ?_)
      · skip
        obtain ⟨hd, h⟩ := h
        exact hretX h hP hD hS hd.1 hd.2 hce hcv hcl
      have hl := lv_sub (l' := []) hl [] rfl
      obtain ⟨hd, h⟩ := h
      exact hret (y_678, s_677, 0 + d_679, 0 + e_680) _ _ _ _ _ ls h hP hD hS (Nat.le_refl _) (Nat.le_refl _) hd.1 hd.2 d_Mo_codeLine_26
theorem q3539 : Cond.methodLink "ClassWorksModel" 583 y_Mo_classLine ∈ lw_ok := lw_okmem (List.mem_of_getElem? (i := 3539) (by decide +kernel)) rfl
set_option maxRecDepth 100000 in
theorem q3542 : Cond.code y_Mo_classLine b_Mo_classLine 8 (none) ∈ lw_ok := lw_okmem (List.mem_of_getElem? (i := 3542) (by rfl)) rfl
theorem q3541 : Cond.instanceMethod y_Mo_classLine ∈ lw_ok := lw_okmem (List.mem_of_getElem? (i := 3541) (by decide +kernel)) rfl
theorem q188 : Cond.selects y_Mo_classLine.cls y_Mo_classLine y_Mo_classLine ∈ lw_ok := lw_okmem (List.mem_of_getElem? (i := 188) (by decide +kernel)) rfl
theorem w9_Mo_classLine : CWv y_Mo_classLine b_Mo_classLine 8 (none) 0 ∧ Cond.instanceMethod y_Mo_classLine ∈ lw_ok ∧ Cond.selects y_Mo_classLine.cls y_Mo_classLine y_Mo_classLine ∈ lw_ok := ⟨⟨q3542, q348, by decide +kernel, by decide +kernel, by decide +kernel⟩, q3541, q188⟩
theorem q3077 : Cond.fieldLink "ClassWorksModel" 178 "ClassWorksModel" "kField" "I" ∈ lw_ok := lw_okmem (List.mem_of_getElem? (i := 3077) (by decide +kernel)) rfl
theorem q3078 : Cond.fieldLink "ClassWorksModel" 183 "ClassWorksModel" "kMethod" "I" ∈ lw_ok := lw_okmem (List.mem_of_getElem? (i := 3078) (by decide +kernel)) rfl
theorem q3083 : Cond.fieldLink "ClassWorksModel" 207 "ClassWorksModel" "kEnd" "I" ∈ lw_ok := lw_okmem (List.mem_of_getElem? (i := 3083) (by decide +kernel)) rfl
theorem q3596 : Cond.methodLink "ClassWorksModel" 589 y_Mo_methodLine ∈ lw_ok := lw_okmem (List.mem_of_getElem? (i := 3596) (by decide +kernel)) rfl
set_option maxRecDepth 100000 in
theorem q3599 : Cond.code y_Mo_methodLine b_Mo_methodLine 9 (none) ∈ lw_ok := lw_okmem (List.mem_of_getElem? (i := 3599) (by rfl)) rfl
theorem q3598 : Cond.instanceMethod y_Mo_methodLine ∈ lw_ok := lw_okmem (List.mem_of_getElem? (i := 3598) (by decide +kernel)) rfl
theorem q202 : Cond.selects y_Mo_methodLine.cls y_Mo_methodLine y_Mo_methodLine ∈ lw_ok := lw_okmem (List.mem_of_getElem? (i := 202) (by decide +kernel)) rfl
theorem w9_Mo_methodLine : CWv y_Mo_methodLine b_Mo_methodLine 9 (none) 0 ∧ Cond.instanceMethod y_Mo_methodLine ∈ lw_ok ∧ Cond.selects y_Mo_methodLine.cls y_Mo_methodLine y_Mo_methodLine ∈ lw_ok := ⟨⟨q3599, q348, by decide +kernel, by decide +kernel, by decide +kernel⟩, q3598, q202⟩
theorem q3583 : Cond.methodLink "ClassWorksModel" 586 y_Mo_fieldLine ∈ lw_ok := lw_okmem (List.mem_of_getElem? (i := 3583) (by decide +kernel)) rfl
theorem q3586 : Cond.code y_Mo_fieldLine b_Mo_fieldLine 10 (none) ∈ lw_ok := lw_okmem (List.mem_of_getElem? (i := 3586) (by decide +kernel)) rfl
theorem q3585 : Cond.instanceMethod y_Mo_fieldLine ∈ lw_ok := lw_okmem (List.mem_of_getElem? (i := 3585) (by decide +kernel)) rfl
theorem q199 : Cond.selects y_Mo_fieldLine.cls y_Mo_fieldLine y_Mo_fieldLine ∈ lw_ok := lw_okmem (List.mem_of_getElem? (i := 199) (by decide +kernel)) rfl
theorem w9_Mo_fieldLine : CWv y_Mo_fieldLine b_Mo_fieldLine 10 (none) 0 ∧ Cond.instanceMethod y_Mo_fieldLine ∈ lw_ok ∧ Cond.selects y_Mo_fieldLine.cls y_Mo_fieldLine y_Mo_fieldLine ∈ lw_ok := ⟨⟨q3586, q348, by decide +kernel, by decide +kernel, by decide +kernel⟩, q3585, q199⟩
theorem q3608 : Cond.methodLink "ClassWorksModel" 595 y_Mo_roomLine ∈ lw_ok := lw_okmem (List.mem_of_getElem? (i := 3608) (by decide +kernel)) rfl
theorem q3611 : Cond.code y_Mo_roomLine b_Mo_roomLine 1 (none) ∈ lw_ok := lw_okmem (List.mem_of_getElem? (i := 3611) (by decide +kernel)) rfl
theorem q3610 : Cond.instanceMethod y_Mo_roomLine ∈ lw_ok := lw_okmem (List.mem_of_getElem? (i := 3610) (by decide +kernel)) rfl
theorem q205 : Cond.selects y_Mo_roomLine.cls y_Mo_roomLine y_Mo_roomLine ∈ lw_ok := lw_okmem (List.mem_of_getElem? (i := 205) (by decide +kernel)) rfl
theorem w9_Mo_roomLine : CWv y_Mo_roomLine b_Mo_roomLine 1 (none) 0 ∧ Cond.instanceMethod y_Mo_roomLine ∈ lw_ok ∧ Cond.selects y_Mo_roomLine.cls y_Mo_roomLine y_Mo_roomLine ∈ lw_ok := ⟨⟨q3611, q348, by decide +kernel, by decide +kernel, by decide +kernel⟩, q3610, q205⟩
theorem q3616 : Cond.methodLink "ClassWorksModel" 598 y_Mo_codeLine ∈ lw_ok := lw_okmem (List.mem_of_getElem? (i := 3616) (by decide +kernel)) rfl
set_option maxRecDepth 100000 in
theorem q3619 : Cond.code y_Mo_codeLine b_Mo_codeLine 7 (none) ∈ lw_ok := lw_okmem (List.mem_of_getElem? (i := 3619) (by rfl)) rfl
theorem q3618 : Cond.instanceMethod y_Mo_codeLine ∈ lw_ok := lw_okmem (List.mem_of_getElem? (i := 3618) (by decide +kernel)) rfl
theorem q207 : Cond.selects y_Mo_codeLine.cls y_Mo_codeLine y_Mo_codeLine ∈ lw_ok := lw_okmem (List.mem_of_getElem? (i := 207) (by decide +kernel)) rfl
theorem w9_Mo_codeLine : CWv y_Mo_codeLine b_Mo_codeLine 7 (none) 0 ∧ Cond.instanceMethod y_Mo_codeLine ∈ lw_ok ∧ Cond.selects y_Mo_codeLine.cls y_Mo_codeLine y_Mo_codeLine ∈ lw_ok := ⟨⟨q3619, q348, by decide +kernel, by decide +kernel, by decide +kernel⟩, q3618, q207⟩
theorem q3526 : Cond.methodLink "ClassWorksModel" 580 y_Mo_endMethod ∈ lw_ok := lw_okmem (List.mem_of_getElem? (i := 3526) (by decide +kernel)) rfl
theorem q3529 : Cond.code y_Mo_endMethod b_Mo_endMethod 6 (none) ∈ lw_ok := lw_okmem (List.mem_of_getElem? (i := 3529) (by decide +kernel)) rfl
theorem q3528 : Cond.instanceMethod y_Mo_endMethod ∈ lw_ok := lw_okmem (List.mem_of_getElem? (i := 3528) (by decide +kernel)) rfl
theorem q185 : Cond.selects y_Mo_endMethod.cls y_Mo_endMethod y_Mo_endMethod ∈ lw_ok := lw_okmem (List.mem_of_getElem? (i := 185) (by decide +kernel)) rfl
theorem w9_Mo_endMethod : CWv y_Mo_endMethod b_Mo_endMethod 6 (none) 0 ∧ Cond.instanceMethod y_Mo_endMethod ∈ lw_ok ∧ Cond.selects y_Mo_endMethod.cls y_Mo_endMethod y_Mo_endMethod ∈ lw_ok := ⟨⟨q3529, q348, by decide +kernel, by decide +kernel, by decide +kernel⟩, q3528, q185⟩
def y_Mo_takeLine : MethodName := ⟨"ClassWorksModel", "takeLine", "()V"⟩
abbrev b_Mo_takeLine : ByteArray := prog_14_method_34_code
theorem d_Mo_takeLine_0 : decode b_Mo_takeLine 0 = .ok (.aload_n 0, 1) := by decide +kernel
theorem d_Mo_takeLine_1 : decode b_Mo_takeLine 1 = .ok (.bipush 99, 2) := by decide +kernel
theorem d_Mo_takeLine_3 : decode b_Mo_takeLine 3 = .ok (.putfield 532, 3) := by decide +kernel
theorem d_Mo_takeLine_6 : decode b_Mo_takeLine 6 = .ok (.aload_n 0, 1) := by decide +kernel
theorem d_Mo_takeLine_7 : decode b_Mo_takeLine 7 = .ok (.getfield 566, 3) := by decide +kernel
theorem d_Mo_takeLine_10 : decode b_Mo_takeLine 10 = .ok (.iconst 3, 1) := by decide +kernel
theorem d_Mo_takeLine_11 : decode b_Mo_takeLine 11 = .ok (.if_icmp .ne 56, 3) := by decide +kernel
theorem d_Mo_takeLine_14 : decode b_Mo_takeLine 14 = .ok (.aload_n 0, 1) := by decide +kernel
theorem d_Mo_takeLine_15 : decode b_Mo_takeLine 15 = .ok (.aload_n 0, 1) := by decide +kernel
theorem d_Mo_takeLine_16 : decode b_Mo_takeLine 16 = .ok (.getfield 178, 3) := by decide +kernel
theorem d_Mo_takeLine_19 : decode b_Mo_takeLine 19 = .ok (.invokevirtual 538, 3) := by decide +kernel
theorem d_Mo_takeLine_22 : decode b_Mo_takeLine 22 = .ok (.ifCond .ne 25, 3) := by decide +kernel
theorem d_Mo_takeLine_25 : decode b_Mo_takeLine 25 = .ok (.aload_n 0, 1) := by decide +kernel
theorem d_Mo_takeLine_26 : decode b_Mo_takeLine 26 = .ok (.aload_n 0, 1) := by decide +kernel
theorem d_Mo_takeLine_27 : decode b_Mo_takeLine 27 = .ok (.getfield 183, 3) := by decide +kernel
theorem d_Mo_takeLine_30 : decode b_Mo_takeLine 30 = .ok (.invokevirtual 538, 3) := by decide +kernel
theorem d_Mo_takeLine_33 : decode b_Mo_takeLine 33 = .ok (.ifCond .ne 14, 3) := by decide +kernel
theorem d_Mo_takeLine_36 : decode b_Mo_takeLine 36 = .ok (.aload_n 0, 1) := by decide +kernel
theorem d_Mo_takeLine_37 : decode b_Mo_takeLine 37 = .ok (.aload_n 0, 1) := by decide +kernel
theorem d_Mo_takeLine_38 : decode b_Mo_takeLine 38 = .ok (.getfield 207, 3) := by decide +kernel
theorem d_Mo_takeLine_41 : decode b_Mo_takeLine 41 = .ok (.invokevirtual 538, 3) := by decide +kernel
theorem d_Mo_takeLine_44 : decode b_Mo_takeLine 44 = .ok (.ifCond .eq 23, 3) := by decide +kernel
theorem d_Mo_takeLine_47 : decode b_Mo_takeLine 47 = .ok (.aload_n 0, 1) := by decide +kernel
theorem d_Mo_takeLine_48 : decode b_Mo_takeLine 48 = .ok (.getfield 92, 3) := by decide +kernel
theorem d_Mo_takeLine_51 : decode b_Mo_takeLine 51 = .ok (.iconst 1, 1) := by decide +kernel
theorem d_Mo_takeLine_52 : decode b_Mo_takeLine 52 = .ok (.baload, 1) := by decide +kernel
theorem d_Mo_takeLine_53 : decode b_Mo_takeLine 53 = .ok (.bipush 58, 2) := by decide +kernel
theorem d_Mo_takeLine_55 : decode b_Mo_takeLine 55 = .ok (.if_icmp .eq 12, 3) := by decide +kernel
theorem d_Mo_takeLine_58 : decode b_Mo_takeLine 58 = .ok (.aload_n 0, 1) := by decide +kernel
theorem d_Mo_takeLine_59 : decode b_Mo_takeLine 59 = .ok (.invokevirtual 580, 3) := by decide +kernel
theorem d_Mo_takeLine_62 : decode b_Mo_takeLine 62 = .ok (.aload_n 0, 1) := by decide +kernel
theorem d_Mo_takeLine_63 : decode b_Mo_takeLine 63 = .ok (.iconst 1, 1) := by decide +kernel
theorem d_Mo_takeLine_64 : decode b_Mo_takeLine 64 = .ok (.putfield 566, 3) := by decide +kernel
theorem d_Mo_takeLine_67 : decode b_Mo_takeLine 67 = .ok (.aload_n 0, 1) := by decide +kernel
theorem d_Mo_takeLine_68 : decode b_Mo_takeLine 68 = .ok (.getfield 566, 3) := by decide +kernel
theorem d_Mo_takeLine_71 : decode b_Mo_takeLine 71 = .ok (.tableswitch 96 0 2 #[25, 32, 89], 25) := by decide +kernel
theorem d_Mo_takeLine_96 : decode b_Mo_takeLine 96 = .ok (.aload_n 0, 1) := by decide +kernel
theorem d_Mo_takeLine_97 : decode b_Mo_takeLine 97 = .ok (.invokevirtual 583, 3) := by decide +kernel
theorem d_Mo_takeLine_100 : decode b_Mo_takeLine 100 = .ok (.goto 71, 3) := by decide +kernel
theorem d_Mo_takeLine_103 : decode b_Mo_takeLine 103 = .ok (.aload_n 0, 1) := by decide +kernel
theorem d_Mo_takeLine_104 : decode b_Mo_takeLine 104 = .ok (.aload_n 0, 1) := by decide +kernel
theorem d_Mo_takeLine_105 : decode b_Mo_takeLine 105 = .ok (.getfield 178, 3) := by decide +kernel
theorem d_Mo_takeLine_108 : decode b_Mo_takeLine 108 = .ok (.invokevirtual 541, 3) := by decide +kernel
theorem d_Mo_takeLine_111 : decode b_Mo_takeLine 111 = .ok (.ifCond .eq 10, 3) := by decide +kernel
theorem d_Mo_takeLine_114 : decode b_Mo_takeLine 114 = .ok (.aload_n 0, 1) := by decide +kernel
theorem d_Mo_takeLine_115 : decode b_Mo_takeLine 115 = .ok (.invokevirtual 586, 3) := by decide +kernel
theorem d_Mo_takeLine_118 : decode b_Mo_takeLine 118 = .ok (.goto 53, 3) := by decide +kernel
theorem d_Mo_takeLine_121 : decode b_Mo_takeLine 121 = .ok (.aload_n 0, 1) := by decide +kernel
theorem d_Mo_takeLine_122 : decode b_Mo_takeLine 122 = .ok (.aload_n 0, 1) := by decide +kernel
theorem d_Mo_takeLine_123 : decode b_Mo_takeLine 123 = .ok (.getfield 183, 3) := by decide +kernel
theorem d_Mo_takeLine_126 : decode b_Mo_takeLine 126 = .ok (.invokevirtual 541, 3) := by decide +kernel
theorem d_Mo_takeLine_129 : decode b_Mo_takeLine 129 = .ok (.ifCond .eq 10, 3) := by decide +kernel
theorem d_Mo_takeLine_132 : decode b_Mo_takeLine 132 = .ok (.aload_n 0, 1) := by decide +kernel
theorem d_Mo_takeLine_133 : decode b_Mo_takeLine 133 = .ok (.invokevirtual 589, 3) := by decide +kernel
theorem d_Mo_takeLine_136 : decode b_Mo_takeLine 136 = .ok (.goto 35, 3) := by decide +kernel
theorem d_Mo_takeLine_139 : decode b_Mo_takeLine 139 = .ok (.aload_n 0, 1) := by decide +kernel
theorem d_Mo_takeLine_140 : decode b_Mo_takeLine 140 = .ok (.aload_n 0, 1) := by decide +kernel
theorem d_Mo_takeLine_141 : decode b_Mo_takeLine 141 = .ok (.getfield 207, 3) := by decide +kernel
theorem d_Mo_takeLine_144 : decode b_Mo_takeLine 144 = .ok (.invokevirtual 592, 3) := by decide +kernel
theorem d_Mo_takeLine_147 : decode b_Mo_takeLine 147 = .ok (.aload_n 0, 1) := by decide +kernel
theorem d_Mo_takeLine_148 : decode b_Mo_takeLine 148 = .ok (.iconst 0, 1) := by decide +kernel
theorem d_Mo_takeLine_149 : decode b_Mo_takeLine 149 = .ok (.invokevirtual 544, 3) := by decide +kernel
theorem d_Mo_takeLine_152 : decode b_Mo_takeLine 152 = .ok (.aload_n 0, 1) := by decide +kernel
theorem d_Mo_takeLine_153 : decode b_Mo_takeLine 153 = .ok (.iconst 0, 1) := by decide +kernel
theorem d_Mo_takeLine_154 : decode b_Mo_takeLine 154 = .ok (.putfield 566, 3) := by decide +kernel
theorem d_Mo_takeLine_157 : decode b_Mo_takeLine 157 = .ok (.goto 14, 3) := by decide +kernel
theorem d_Mo_takeLine_160 : decode b_Mo_takeLine 160 = .ok (.aload_n 0, 1) := by decide +kernel
theorem d_Mo_takeLine_161 : decode b_Mo_takeLine 161 = .ok (.invokevirtual 595, 3) := by decide +kernel
theorem d_Mo_takeLine_164 : decode b_Mo_takeLine 164 = .ok (.goto 7, 3) := by decide +kernel
theorem d_Mo_takeLine_167 : decode b_Mo_takeLine 167 = .ok (.aload_n 0, 1) := by decide +kernel
theorem d_Mo_takeLine_168 : decode b_Mo_takeLine 168 = .ok (.invokevirtual 598, 3) := by decide +kernel
theorem d_Mo_takeLine_171 : decode b_Mo_takeLine 171 = .ok (.aload_n 0, 1) := by decide +kernel
theorem d_Mo_takeLine_172 : decode b_Mo_takeLine 172 = .ok (.getfield 532, 3) := by decide +kernel
theorem d_Mo_takeLine_175 : decode b_Mo_takeLine 175 = .ok (.bipush 99, 2) := by decide +kernel
theorem d_Mo_takeLine_177 : decode b_Mo_takeLine 177 = .ok (.if_icmp .ge 17, 3) := by decide +kernel
theorem d_Mo_takeLine_180 : decode b_Mo_takeLine 180 = .ok (.aload_n 0, 1) := by decide +kernel
theorem d_Mo_takeLine_181 : decode b_Mo_takeLine 181 = .ok (.aload_n 0, 1) := by decide +kernel
theorem d_Mo_takeLine_182 : decode b_Mo_takeLine 182 = .ok (.getfield 532, 3) := by decide +kernel
theorem d_Mo_takeLine_185 : decode b_Mo_takeLine 185 = .ok (.aload_n 0, 1) := by decide +kernel
theorem d_Mo_takeLine_186 : decode b_Mo_takeLine 186 = .ok (.getfield 101, 3) := by decide +kernel
theorem d_Mo_takeLine_189 : decode b_Mo_takeLine 189 = .ok (.iconst 0, 1) := by decide +kernel
theorem d_Mo_takeLine_190 : decode b_Mo_takeLine 190 = .ok (.iaload, 1) := by decide +kernel
theorem d_Mo_takeLine_191 : decode b_Mo_takeLine 191 = .ok (.invokevirtual 576, 3) := by decide +kernel
theorem d_Mo_takeLine_194 : decode b_Mo_takeLine 194 = .ok (.return_, 1) := by decide +kernel
abbrev ra_Mo_takeLine (mc ms : Nat) : Room := { frames := 8, cells := mc, slots := ms, locals := 246 }
def wja_Mo_takeLine_194 (mc ms : Nat) (Post : Ly → St → Nat → Nat → Prop) (PX : Ly → St → Nat → Nat → Prop) (a0 : Nat) (y_j194 : Ly) (s_j194 : St) (d_j194 e_j194 : Nat) : Prop := (d_j194 ≤ mc ∧ e_j194 ≤ ms) ∧ Post y_j194 s_j194 d_j194 e_j194
def wja_Mo_takeLine_171 (mc ms : Nat) (Post : Ly → St → Nat → Nat → Prop) (PX : Ly → St → Nat → Nat → Prop) (a0 : Nat) (y_j171 : Ly) (s_j171 : St) (d_j171 e_j171 : Nat) : Prop := (d_j171 ≤ mc ∧ e_j171 ≤ ms) ∧ ((99 ≤ (sV s_j171 a0 51) → wja_Mo_takeLine_194 mc ms Post PX a0 y_j171 s_j171 d_j171 e_j171) ∧ (¬ (99 ≤ (sV s_j171 a0 51)) → xA y_j171 s_j171 a0 41 0 (fun x_2 : Int32 => ∃ mc_8 ms_9 : Nat, (d_j171 + mc_8 ≤ mc ∧ e_j171 + ms_9 ≤ ms) ∧ wx_Mo_refuse mc_8 ms_9 y_j171 (fun (y_5 : Ly) (s_4 : St) (d_6 e_7 : Nat) => (d_j171 + d_6 ≤ mc ∧ e_j171 + e_7 ≤ ms) ∧ wja_Mo_takeLine_194 mc ms Post PX a0 y_5 s_4 (d_j171 + d_6) (e_j171 + e_7)) (fun (y_5 : Ly) (s_4 : St) (d_6 e_7 : Nat) => ((d_j171 + d_6 ≤ mc ∧ e_j171 + e_7 ≤ ms) ∧ PX y_5 s_4 (d_j171 + d_6) (e_j171 + e_7))) s_j171 a0 (sV s_j171 a0 51) x_2)))
def wja_Mo_takeLine_67 (mc ms : Nat) (Post : Ly → St → Nat → Nat → Prop) (PX : Ly → St → Nat → Nat → Prop) (a0 : Nat) (y_j67 : Ly) (s_j67 : St) (d_j67 e_j67 : Nat) : Prop := (d_j67 ≤ mc ∧ e_j67 ≤ ms) ∧ (((sV s_j67 a0 52) = 0 → ∃ mc_16 ms_17 : Nat, (d_j67 + mc_16 ≤ mc ∧ e_j67 + ms_17 ≤ ms) ∧ wx_Mo_classLine mc_16 ms_17 y_j67 (fun (y_13 : Ly) (s_12 : St) (d_14 e_15 : Nat) => (d_j67 + d_14 ≤ mc ∧ e_j67 + e_15 ≤ ms) ∧ wja_Mo_takeLine_171 mc ms Post PX a0 y_13 s_12 (d_j67 + d_14) (e_j67 + e_15)) (fun (y_13 : Ly) (s_12 : St) (d_14 e_15 : Nat) => ((d_j67 + d_14 ≤ mc ∧ e_j67 + e_15 ≤ ms) ∧ PX y_13 s_12 (d_j67 + d_14) (e_j67 + e_15))) s_j67 a0) ∧ (¬ ((sV s_j67 a0 52) = 0) → (((sV s_j67 a0 52) = 1 → wu_Mo_takes y_j67 (fun (s_20 : St) (r_19 : Int32) => ((r_19 = 0 → wu_Mo_takes y_j67 (fun (s_22 : St) (r_21 : Int32) => ((r_21 = 0 → ∃ mc_28 ms_29 : Nat, (d_j67 + mc_28 ≤ mc ∧ e_j67 + ms_29 ≤ ms) ∧ wx_Mo_needWord mc_28 ms_29 y_j67 (fun (y_25 : Ly) (s_24 : St) (d_26 e_27 : Nat) => (d_j67 + d_26 ≤ mc ∧ e_j67 + e_27 ≤ ms) ∧ ∃ mc_36 ms_37 : Nat, (d_j67 + d_26 + mc_36 ≤ mc ∧ e_j67 + e_27 + ms_37 ≤ ms) ∧ wx_Mo_need mc_36 ms_37 y_25 (fun (y_33 : Ly) (s_32 : St) (d_34 e_35 : Nat) => (d_j67 + d_26 + d_34 ≤ mc ∧ e_j67 + e_27 + e_35 ≤ ms) ∧ xP (uV s_32 a0 52 0) (fun s_39 : St => wja_Mo_takeLine_171 mc ms Post PX a0 y_33 s_39 (d_j67 + d_26 + d_34) (e_j67 + e_27 + e_35))) (fun (y_33 : Ly) (s_32 : St) (d_34 e_35 : Nat) => ((d_j67 + d_26 + d_34 ≤ mc ∧ e_j67 + e_27 + e_35 ≤ ms) ∧ PX y_33 s_32 (d_j67 + d_26 + d_34) (e_j67 + e_27 + e_35))) s_24 a0 0) (fun (y_25 : Ly) (s_24 : St) (d_26 e_27 : Nat) => ((d_j67 + d_26 ≤ mc ∧ e_j67 + e_27 ≤ ms) ∧ PX y_25 s_24 (d_j67 + d_26) (e_j67 + e_27))) s_22 a0 (sV s_22 a0 19)) ∧ (¬ (r_21 = 0) → ∃ mc_45 ms_46 : Nat, (d_j67 + mc_45 ≤ mc ∧ e_j67 + ms_46 ≤ ms) ∧ wx_Mo_methodLine mc_45 ms_46 y_j67 (fun (y_42 : Ly) (s_41 : St) (d_43 e_44 : Nat) => (d_j67 + d_43 ≤ mc ∧ e_j67 + e_44 ≤ ms) ∧ wja_Mo_takeLine_171 mc ms Post PX a0 y_42 s_41 (d_j67 + d_43) (e_j67 + e_44)) (fun (y_42 : Ly) (s_41 : St) (d_43 e_44 : Nat) => ((d_j67 + d_43 ≤ mc ∧ e_j67 + e_44 ≤ ms) ∧ PX y_42 s_41 (d_j67 + d_43) (e_j67 + e_44))) s_22 a0))) s_20 a0 (sV s_20 a0 14)) ∧ (¬ (r_19 = 0) → ∃ mc_53 ms_54 : Nat, (d_j67 + mc_53 ≤ mc ∧ e_j67 + ms_54 ≤ ms) ∧ wx_Mo_fieldLine mc_53 ms_54 y_j67 (fun (y_50 : Ly) (s_49 : St) (d_51 e_52 : Nat) => (d_j67 + d_51 ≤ mc ∧ e_j67 + e_52 ≤ ms) ∧ wja_Mo_takeLine_171 mc ms Post PX a0 y_50 s_49 (d_j67 + d_51) (e_j67 + e_52)) (fun (y_50 : Ly) (s_49 : St) (d_51 e_52 : Nat) => ((d_j67 + d_51 ≤ mc ∧ e_j67 + e_52 ≤ ms) ∧ PX y_50 s_49 (d_j67 + d_51) (e_j67 + e_52))) s_20 a0))) s_j67 a0 (sV s_j67 a0 13)) ∧ (¬ ((sV s_j67 a0 52) = 1) → (((sV s_j67 a0 52) = 2 → ∃ mc_61 ms_62 : Nat, (d_j67 + mc_61 ≤ mc ∧ e_j67 + ms_62 ≤ ms) ∧ wx_Mo_roomLine mc_61 ms_62 y_j67 (fun (y_58 : Ly) (s_57 : St) (d_59 e_60 : Nat) => (d_j67 + d_59 ≤ mc ∧ e_j67 + e_60 ≤ ms) ∧ wja_Mo_takeLine_171 mc ms Post PX a0 y_58 s_57 (d_j67 + d_59) (e_j67 + e_60)) (fun (y_58 : Ly) (s_57 : St) (d_59 e_60 : Nat) => ((d_j67 + d_59 ≤ mc ∧ e_j67 + e_60 ≤ ms) ∧ PX y_58 s_57 (d_j67 + d_59) (e_j67 + e_60))) s_j67 a0) ∧ (¬ ((sV s_j67 a0 52) = 2) → ∃ mc_69 ms_70 : Nat, (d_j67 + mc_69 ≤ mc ∧ e_j67 + ms_70 ≤ ms) ∧ wx_Mo_codeLine mc_69 ms_70 y_j67 (fun (y_66 : Ly) (s_65 : St) (d_67 e_68 : Nat) => (d_j67 + d_67 ≤ mc ∧ e_j67 + e_68 ≤ ms) ∧ wja_Mo_takeLine_171 mc ms Post PX a0 y_66 s_65 (d_j67 + d_67) (e_j67 + e_68)) (fun (y_66 : Ly) (s_65 : St) (d_67 e_68 : Nat) => ((d_j67 + d_67 ≤ mc ∧ e_j67 + e_68 ≤ ms) ∧ PX y_66 s_65 (d_j67 + d_67) (e_j67 + e_68))) s_j67 a0))))))
def wja_Mo_takeLine_47 (mc ms : Nat) (Post : Ly → St → Nat → Nat → Prop) (PX : Ly → St → Nat → Nat → Prop) (a0 : Nat) (y_j47 : Ly) (s_j47 : St) (d_j47 e_j47 : Nat) : Prop := (d_j47 ≤ mc ∧ e_j47 ≤ ms) ∧ xA y_j47 s_j47 a0 39 1 (fun x_74 : Int32 => ((x_74 = 58 → wja_Mo_takeLine_67 mc ms Post PX a0 y_j47 s_j47 d_j47 e_j47) ∧ (¬ (x_74 = 58) → ∃ mc_80 ms_81 : Nat, (d_j47 + mc_80 ≤ mc ∧ e_j47 + ms_81 ≤ ms) ∧ wx_Mo_endMethod mc_80 ms_81 y_j47 (fun (y_77 : Ly) (s_76 : St) (d_78 e_79 : Nat) => (d_j47 + d_78 ≤ mc ∧ e_j47 + e_79 ≤ ms) ∧ xP (uV s_76 a0 52 1) (fun s_83 : St => wja_Mo_takeLine_67 mc ms Post PX a0 y_77 s_83 (d_j47 + d_78) (e_j47 + e_79))) (fun (y_77 : Ly) (s_76 : St) (d_78 e_79 : Nat) => ((d_j47 + d_78 ≤ mc ∧ e_j47 + e_79 ≤ ms) ∧ PX y_77 s_76 (d_j47 + d_78) (e_j47 + e_79))) s_j47 a0)))
def wx_Mo_takeLine (mc ms : Nat) (y : Ly) (Post : Ly → St → Nat → Nat → Prop) (PX : Ly → St → Nat → Nat → Prop) (σ : St) (a0 : Nat) : Prop := xP (uV σ a0 51 99) (fun s_1 : St => ((¬ (sV s_1 a0 52) = 3 → wja_Mo_takeLine_67 mc ms Post PX a0 y s_1 0 0) ∧ ((sV s_1 a0 52) = 3 → wu_Mo_isWord y (fun (s_73 : St) (r_72 : Int32) => ((¬ r_72 = 0 → wja_Mo_takeLine_47 mc ms Post PX a0 y s_73 0 0) ∧ (r_72 = 0 → wu_Mo_isWord y (fun (s_85 : St) (r_84 : Int32) => ((¬ r_84 = 0 → wja_Mo_takeLine_47 mc ms Post PX a0 y s_85 0 0) ∧ (r_84 = 0 → wu_Mo_isWord y (fun (s_87 : St) (r_86 : Int32) => ((r_86 = 0 → wja_Mo_takeLine_67 mc ms Post PX a0 y s_87 0 0) ∧ (¬ (r_86 = 0) → wja_Mo_takeLine_47 mc ms Post PX a0 y s_87 0 0))) s_85 a0 (sV s_85 a0 19)))) s_73 a0 (sV s_73 a0 14)))) s_1 a0 (sV s_1 a0 13))))
set_option maxHeartbeats 4000000 in
set_option maxRecDepth 100000 in
theorem cx_Mo_takeLine (l : Launch) (D : va_G) (g : Nat → ClassId) (ad : Nat → Nat) (mc ms : Nat) (y : Ly) (Post : Ly → St → Nat → Nat → Prop) (PX : Ly → St → Nat → Nat → Prop) (σ : St) (a0 : Nat) (sz uz : Nat) (h_a0 : cl a0 = 14) (h : wx_Mo_takeLine mc ms y Post PX σ a0) : vx_Met l y_Mo_takeLine (mw y_Mo_takeLine b_Mo_takeLine 1 (none)) (ra_Mo_takeLine mc ms) (PCu g D [] [.ref (ad a0)] sz uz (ws g ad y σ)) (va_Qv (fun (u : Ly × St × Nat × Nat) => Post u.1 u.2.1 u.2.2.1 u.2.2.2) (QU D (va_A (ws g ad y σ) sz) (fun u => ws g ad u.1 u.2.1) sz uz (fun u => u.2.2.1) (fun u => u.2.2.2)) (va_A (ws g ad y σ) sz)) (XQ D g ad (va_A (ws g ad y σ) sz) sz uz PX) mc ms (va_A (ws g ad y σ) sz) := by
  refine ofVx (by decide +kernel) (Nat.le_of_ble_eq_true rfl) ?_
  intro p e s m args below meth c A Q ls H locs G hsz hP hD hS hl hret hretX
  subst hsz
  have hl : lv_has ls 1 [(0, .ref (ad a0))] := hl
  have hd : 0 ≤ mc ∧ 0 ≤ ms := ⟨Nat.zero_le _, Nat.zero_le _⟩
  unfold wx_Mo_takeLine at h
  refine lv_aload_n G.1 G.2.1 d_Mo_takeLine_0 rfl (lv_at hl 0 rfl) ?_
  refine lv_bipush (v := 99) G.1 G.2.1 d_Mo_takeLine_1 (by decide) ?_
  refine upf G hP hD hS h 51 putV h_a0 iMo tMo tMo_ok nMo rfl (by decide) rfl q3115 rfl rfl fV rfl rfl d_Mo_takeLine_3 (fun s_1 H locs h hP hD hS => ?_)
  refine lv_aload_n G.1 G.2.1 d_Mo_takeLine_6 rfl (lv_at hl 0 rfl) ?_
  refine ugf (v := .int (sV s_1 a0 52)) G hP h_a0 iMo rfl 52 (by decide) rfl q3116 rfl rfl d_Mo_takeLine_7 ?_
  refine lv_iconst (v := 3) G.1 G.2.1 d_Mo_takeLine_10 (by decide) ?_
  have J_67 : ∀ (y_j67 : Ly) (s_j67 : St) (d_j67 e_j67 : Nat) (H : Heap) (locs : List Loc), wja_Mo_takeLine_67 mc ms Post PX a0 y_j67 s_j67 d_j67 e_j67 → va_P D CL (ws g ad y_j67 s_j67) H → va_D A (ws g ad y_j67 s_j67) → va_S A s.heap H locs → ∀ ls, lv_has ls 1 [(0, .ref (ad a0))] → W p l e (ra_Mo_takeLine mc ms) s m args below meth c H locs d_j67 e_j67 Q (F0 m 67 ls []) := by
    intro y_j67 s_j67 d_j67 e_j67 H locs h hP hD hS ls hl
    unfold wja_Mo_takeLine_67 at h
    obtain ⟨hd, h⟩ := h
    refine lv_aload_n G.1 G.2.1 d_Mo_takeLine_67 rfl (lv_at hl 0 rfl) ?_
    refine ugf (v := .int (sV s_j67 a0 52)) G hP h_a0 iMo rfl 52 (by decide) rfl q3116 rfl rfl d_Mo_takeLine_68 ?_
    have J_171 : ∀ (y_j171 : Ly) (s_j171 : St) (d_j171 e_j171 : Nat) (H : Heap) (locs : List Loc), wja_Mo_takeLine_171 mc ms Post PX a0 y_j171 s_j171 d_j171 e_j171 → va_P D CL (ws g ad y_j171 s_j171) H → va_D A (ws g ad y_j171 s_j171) → va_S A s.heap H locs → ∀ ls, lv_has ls 1 [(0, .ref (ad a0))] → W p l e (ra_Mo_takeLine mc ms) s m args below meth c H locs d_j171 e_j171 Q (F0 m 171 ls []) := by
      intro y_j171 s_j171 d_j171 e_j171 H locs h hP hD hS ls hl
      unfold wja_Mo_takeLine_171 at h
      obtain ⟨hd, h⟩ := h
      refine lv_aload_n G.1 G.2.1 d_Mo_takeLine_171 rfl (lv_at hl 0 rfl) ?_
      refine ugf (v := .int (sV s_j171 a0 51)) G hP h_a0 iMo rfl 51 (by decide) rfl q3115 rfl rfl d_Mo_takeLine_172 ?_
      refine lv_bipush (v := 99) G.1 G.2.1 d_Mo_takeLine_175 (by decide) ?_
      have J_194 : ∀ (y_j194 : Ly) (s_j194 : St) (d_j194 e_j194 : Nat) (H : Heap) (locs : List Loc), wja_Mo_takeLine_194 mc ms Post PX a0 y_j194 s_j194 d_j194 e_j194 → va_P D CL (ws g ad y_j194 s_j194) H → va_D A (ws g ad y_j194 s_j194) → va_S A s.heap H locs → ∀ ls, lv_has ls 1 [] → W p l e (ra_Mo_takeLine mc ms) s m args below meth c H locs d_j194 e_j194 Q (F0 m 194 ls []) := by
        intro y_j194 s_j194 d_j194 e_j194 H locs h hP hD hS ls hl
        unfold wja_Mo_takeLine_194 at h
        obtain ⟨hd, h⟩ := h
        exact hret (y_j194, s_j194, d_j194, e_j194) _ _ _ _ _ ls h hP hD hS (Nat.le_refl _) (Nat.le_refl _) hd.1 hd.2 d_Mo_takeLine_194
      refine lv_icmp_ge (tgt := 194) G.1 G.2.1 d_Mo_takeLine_177 (by decide) (fun c177 => ?_) (fun c177 => ?_)
      · skip
        have h := h.1 c177
        exact J_194 y_j171 s_j171 d_j171 e_j171 H locs h hP hD hS ls (lv_sub hl [] rfl)
      · skip
        have h := h.2 c177
        refine lv_aload_n G.1 G.2.1 d_Mo_takeLine_180 rfl (lv_at hl 0 rfl) ?_
        refine lv_aload_n G.1 G.2.1 d_Mo_takeLine_181 rfl (lv_at hl 0 rfl) ?_
        refine ugf (v := .int (sV s_j171 a0 51)) G hP h_a0 iMo rfl 51 (by decide) rfl q3115 rfl rfl d_Mo_takeLine_182 ?_
        refine lv_aload_n G.1 G.2.1 d_Mo_takeLine_185 rfl (lv_at hl 0 rfl) ?_
        refine ugf (v := .ref (yP y_j171 a0 41)) G hP h_a0 iMo rfl 41 (by decide) rfl q3105 rfl rfl d_Mo_takeLine_186 ?_
        refine lv_iconst (v := 0) G.1 G.2.1 d_Mo_takeLine_189 (by decide) ?_
        refine uiald G hP (kdp h_a0 rfl) (typ h_a0 rfl) h d_Mo_takeLine_190 (fun x_2 h => ?_)
        refine W.eq (g2 := F0 m 191 ls [.int x_2, .int (sV s_j171 a0 51), .ref (ad a0)]) rfl ?_
        obtain ⟨mc_8, ms_9, hr_10, h⟩ := h
        refine uxVv (As := [.int (sV s_j171 a0 51), .int x_2]) (rest := []) G hP hD hS (cx_Mo_refuse l D g ad mc_8 ms_9 y_j171 _ _ s_j171 a0 (sV s_j171 a0 51) x_2 H.size (us H) h_a0 h) (fun _ h => absurd h List.not_mem_nil) w9_Mo_refuse q3535 ⟨Nat.le_of_ble_eq_true rfl, Nat.le_of_ble_eq_true rfl⟩ rfl rfl h_a0 (q := (RMo, TMo, 131)) rfl rfl hl.1 rfl (Nat.le_of_ble_eq_true rfl) rfl hr_10 d_Mo_takeLine_191 (fun y_5 s_4 d_6 e_7 H locs q9 ce h hP hD hS hce hcv hcl => ?_) (fun y_5 s_4 d_6 e_7 H locs h hP hD hS => ?_)
        · skip
          obtain ⟨hd, h⟩ := h
          exact hretX h hP hD hS hd.1 hd.2 hce hcv hcl
        have hl := lv_sub (l' := []) hl [] rfl
        obtain ⟨hd, h⟩ := h
        exact J_194 y_5 s_4 (d_j171 + d_6) (e_j171 + e_7) H locs h hP hD hS ls (lv_sub hl [] rfl)
    by_cases e71_0 : (sV s_j67 a0 52) = 0
    · skip
      have h := h.1 e71_0
      refine lv_tableIn (off := 25) (tgt := 96) G.1 G.2.1 d_Mo_takeLine_71 (by rw [e71_0]; decide) (by rw [e71_0]; decide) (by rw [e71_0]; rfl) (by decide) ?_
      refine lv_aload_n G.1 G.2.1 d_Mo_takeLine_96 rfl (lv_at hl 0 rfl) ?_
      obtain ⟨mc_16, ms_17, hr_18, h⟩ := h
      refine uxVv (As := []) (rest := []) G hP hD hS (cx_Mo_classLine l D g ad mc_16 ms_17 y_j67 _ _ s_j67 a0 H.size (us H) h_a0 h) (fun _ h => absurd h List.not_mem_nil) w9_Mo_classLine q3539 ⟨Nat.le_of_ble_eq_true rfl, Nat.le_of_ble_eq_true rfl⟩ rfl rfl h_a0 (q := (RMo, TMo, 131)) rfl rfl hl.1 rfl (Nat.le_of_ble_eq_true rfl) rfl hr_18 d_Mo_takeLine_97 (fun y_13 s_12 d_14 e_15 H locs q9 ce h hP hD hS hce hcv hcl => ?_) (fun y_13 s_12 d_14 e_15 H locs h hP hD hS => ?_)
      · skip
        obtain ⟨hd, h⟩ := h
        exact hretX h hP hD hS hd.1 hd.2 hce hcv hcl
      obtain ⟨hd, h⟩ := h
      refine lv_goto (tgt := 171) G.1 G.2.1 d_Mo_takeLine_100 (by decide) ?_
      exact J_171 y_13 s_12 (d_j67 + d_14) (e_j67 + e_15) H locs h hP hD hS ls (lv_sub hl [0] rfl)
    replace h := h.2 e71_0
    by_cases e71_1 : (sV s_j67 a0 52) = 1
    · skip
      have h := h.1 e71_1
      refine lv_tableIn (off := 32) (tgt := 103) G.1 G.2.1 d_Mo_takeLine_71 (by rw [e71_1]; decide) (by rw [e71_1]; decide) (by rw [e71_1]; rfl) (by decide) ?_
      refine lv_aload_n G.1 G.2.1 d_Mo_takeLine_103 rfl (lv_at hl 0 rfl) ?_
      refine lv_aload_n G.1 G.2.1 d_Mo_takeLine_104 rfl (lv_at hl 0 rfl) ?_
      refine ugf (v := .int (sV s_j67 a0 13)) G hP h_a0 iMo rfl 13 (by decide) rfl q3077 rfl rfl d_Mo_takeLine_105 ?_
      refine ucVi (As := [.int (sV s_j67 a0 13)]) (rest := []) G hP hD hS (cu_Mo_takes l D g ad y_j67 _ s_j67 a0 (sV s_j67 a0 13) H.size h_a0 h) w9_Mo_takes q3547 ⟨Nat.le_of_ble_eq_true rfl, Nat.le_of_ble_eq_true rfl⟩ rfl rfl h_a0 (q := (RMo, TMo, 131)) rfl rfl hl.1 rfl (Nat.le_of_ble_eq_true rfl) rfl hd d_Mo_takeLine_108 (fun r_19 s_20 H locs h hP hD hS => ?_)
      refine lv_if_eq (tgt := 121) G.1 G.2.1 d_Mo_takeLine_111 (by decide) (fun c111 => ?_) (fun c111 => ?_)
      · skip
        have h := h.1 c111
        refine lv_aload_n G.1 G.2.1 d_Mo_takeLine_121 rfl (lv_at hl 0 rfl) ?_
        refine lv_aload_n G.1 G.2.1 d_Mo_takeLine_122 rfl (lv_at hl 0 rfl) ?_
        refine ugf (v := .int (sV s_20 a0 14)) G hP h_a0 iMo rfl 14 (by decide) rfl q3078 rfl rfl d_Mo_takeLine_123 ?_
        refine W.eq (g2 := F0 m 126 ls [.int (sV s_20 a0 14), .ref (ad a0)]) rfl ?_
        refine ucVi (As := [.int (sV s_20 a0 14)]) (rest := []) G hP hD hS (cu_Mo_takes l D g ad y_j67 _ s_20 a0 (sV s_20 a0 14) H.size h_a0 h) w9_Mo_takes q3547 ⟨Nat.le_of_ble_eq_true rfl, Nat.le_of_ble_eq_true rfl⟩ rfl rfl h_a0 (q := (RMo, TMo, 131)) rfl rfl hl.1 rfl (Nat.le_of_ble_eq_true rfl) rfl hd d_Mo_takeLine_126 (fun r_21 s_22 H locs h hP hD hS => ?_)
        refine lv_if_eq (tgt := 139) G.1 G.2.1 d_Mo_takeLine_129 (by decide) (fun c129 => ?_) (fun c129 => ?_)
        · skip
          have h := h.1 c129
          refine lv_aload_n G.1 G.2.1 d_Mo_takeLine_139 rfl (lv_at hl 0 rfl) ?_
          refine lv_aload_n G.1 G.2.1 d_Mo_takeLine_140 rfl (lv_at hl 0 rfl) ?_
          refine ugf (v := .int (sV s_22 a0 19)) G hP h_a0 iMo rfl 19 (by decide) rfl q3083 rfl rfl d_Mo_takeLine_141 ?_
          obtain ⟨mc_28, ms_29, hr_30, h⟩ := h
          refine uxVv (As := [.int (sV s_22 a0 19)]) (rest := []) G hP hD hS (cx_Mo_needWord l D g ad mc_28 ms_29 y_j67 _ _ s_22 a0 (sV s_22 a0 19) H.size (us H) h_a0 h) (fun _ h => absurd h List.not_mem_nil) w9_Mo_needWord q3543 ⟨Nat.le_of_ble_eq_true rfl, Nat.le_of_ble_eq_true rfl⟩ rfl rfl h_a0 (q := (RMo, TMo, 131)) rfl rfl hl.1 rfl (Nat.le_of_ble_eq_true rfl) rfl hr_30 d_Mo_takeLine_144 (fun y_25 s_24 d_26 e_27 H locs q9 ce h hP hD hS hce hcv hcl => ?_) (fun y_25 s_24 d_26 e_27 H locs h hP hD hS => ?_)
          · skip
            obtain ⟨hd, h⟩ := h
            exact hretX h hP hD hS hd.1 hd.2 hce hcv hcl
          obtain ⟨hd, h⟩ := h
          refine lv_aload_n G.1 G.2.1 d_Mo_takeLine_147 rfl (lv_at hl 0 rfl) ?_
          refine lv_iconst (v := 0) G.1 G.2.1 d_Mo_takeLine_148 (by decide) ?_
          obtain ⟨mc_36, ms_37, hr_38, h⟩ := h
          refine uxVv (As := [.int 0]) (rest := []) G hP hD hS (cx_Mo_need l D g ad mc_36 ms_37 y_25 _ _ s_24 a0 0 H.size (us H) h_a0 h) (fun _ h => absurd h List.not_mem_nil) w9_Mo_need q3567 ⟨Nat.le_of_ble_eq_true rfl, Nat.le_of_ble_eq_true rfl⟩ rfl rfl h_a0 (q := (RMo, TMo, 131)) rfl rfl hl.1 rfl (Nat.le_of_ble_eq_true rfl) rfl hr_38 d_Mo_takeLine_149 (fun y_33 s_32 d_34 e_35 H locs q9 ce h hP hD hS hce hcv hcl => ?_) (fun y_33 s_32 d_34 e_35 H locs h hP hD hS => ?_)
          · skip
            obtain ⟨hd, h⟩ := h
            exact hretX h hP hD hS hd.1 hd.2 hce hcv hcl
          obtain ⟨hd, h⟩ := h
          refine lv_aload_n G.1 G.2.1 d_Mo_takeLine_152 rfl (lv_at hl 0 rfl) ?_
          refine lv_iconst (v := 0) G.1 G.2.1 d_Mo_takeLine_153 (by decide) ?_
          refine upf G hP hD hS h 52 putV h_a0 iMo tMo tMo_ok nMo rfl (by decide) rfl q3116 rfl rfl fV rfl rfl d_Mo_takeLine_154 (fun s_39 H locs h hP hD hS => ?_)
          refine W.eq (g2 := F0 m 157 ls []) rfl ?_
          refine lv_goto (tgt := 171) G.1 G.2.1 d_Mo_takeLine_157 (by decide) ?_
          exact J_171 y_33 s_39 (d_j67 + d_26 + d_34) (e_j67 + e_27 + e_35) H locs h hP hD hS ls (lv_sub hl [0] rfl)
        · skip
          have h := h.2 c129
          refine lv_aload_n G.1 G.2.1 d_Mo_takeLine_132 rfl (lv_at hl 0 rfl) ?_
          obtain ⟨mc_45, ms_46, hr_47, h⟩ := h
          refine uxVv (As := []) (rest := []) G hP hD hS (cx_Mo_methodLine l D g ad mc_45 ms_46 y_j67 _ _ s_22 a0 H.size (us H) h_a0 h) (fun _ h => absurd h List.not_mem_nil) w9_Mo_methodLine q3596 ⟨Nat.le_of_ble_eq_true rfl, Nat.le_of_ble_eq_true rfl⟩ rfl rfl h_a0 (q := (RMo, TMo, 131)) rfl rfl hl.1 rfl (Nat.le_of_ble_eq_true rfl) rfl hr_47 d_Mo_takeLine_133 (fun y_42 s_41 d_43 e_44 H locs q9 ce h hP hD hS hce hcv hcl => ?_) (fun y_42 s_41 d_43 e_44 H locs h hP hD hS => ?_)
          · skip
            obtain ⟨hd, h⟩ := h
            exact hretX h hP hD hS hd.1 hd.2 hce hcv hcl
          obtain ⟨hd, h⟩ := h
          refine lv_goto (tgt := 171) G.1 G.2.1 d_Mo_takeLine_136 (by decide) ?_
          exact J_171 y_42 s_41 (d_j67 + d_43) (e_j67 + e_44) H locs h hP hD hS ls (lv_sub hl [0] rfl)
      · skip
        have h := h.2 c111
        refine lv_aload_n G.1 G.2.1 d_Mo_takeLine_114 rfl (lv_at hl 0 rfl) ?_
        obtain ⟨mc_53, ms_54, hr_55, h⟩ := h
        refine uxVv (As := []) (rest := []) G hP hD hS (cx_Mo_fieldLine l D g ad mc_53 ms_54 y_j67 _ _ s_20 a0 H.size (us H) h_a0 h) (fun _ h => absurd h List.not_mem_nil) w9_Mo_fieldLine q3583 ⟨Nat.le_of_ble_eq_true rfl, Nat.le_of_ble_eq_true rfl⟩ rfl rfl h_a0 (q := (RMo, TMo, 131)) rfl rfl hl.1 rfl (Nat.le_of_ble_eq_true rfl) rfl hr_55 d_Mo_takeLine_115 (fun y_50 s_49 d_51 e_52 H locs q9 ce h hP hD hS hce hcv hcl => ?_) (fun y_50 s_49 d_51 e_52 H locs h hP hD hS => ?_)
        · skip
          obtain ⟨hd, h⟩ := h
          exact hretX h hP hD hS hd.1 hd.2 hce hcv hcl
        obtain ⟨hd, h⟩ := h
        refine lv_goto (tgt := 171) G.1 G.2.1 d_Mo_takeLine_118 (by decide) ?_
        exact J_171 y_50 s_49 (d_j67 + d_51) (e_j67 + e_52) H locs h hP hD hS ls (lv_sub hl [0] rfl)
    replace h := h.2 e71_1
    by_cases e71_2 : (sV s_j67 a0 52) = 2
    · skip
      have h := h.1 e71_2
      refine lv_tableIn (off := 89) (tgt := 160) G.1 G.2.1 d_Mo_takeLine_71 (by rw [e71_2]; decide) (by rw [e71_2]; decide) (by rw [e71_2]; rfl) (by decide) ?_
      refine lv_aload_n G.1 G.2.1 d_Mo_takeLine_160 rfl (lv_at hl 0 rfl) ?_
      obtain ⟨mc_61, ms_62, hr_63, h⟩ := h
      refine uxVv (As := []) (rest := []) G hP hD hS (cx_Mo_roomLine l D g ad mc_61 ms_62 y_j67 _ _ s_j67 a0 H.size (us H) h_a0 h) (fun _ h => absurd h List.not_mem_nil) w9_Mo_roomLine q3608 ⟨Nat.le_of_ble_eq_true rfl, Nat.le_of_ble_eq_true rfl⟩ rfl rfl h_a0 (q := (RMo, TMo, 131)) rfl rfl hl.1 rfl (Nat.le_of_ble_eq_true rfl) rfl hr_63 d_Mo_takeLine_161 (fun y_58 s_57 d_59 e_60 H locs q9 ce h hP hD hS hce hcv hcl => ?_) (fun y_58 s_57 d_59 e_60 H locs h hP hD hS => ?_)
      · skip
        obtain ⟨hd, h⟩ := h
        exact hretX h hP hD hS hd.1 hd.2 hce hcv hcl
      obtain ⟨hd, h⟩ := h
      refine lv_goto (tgt := 171) G.1 G.2.1 d_Mo_takeLine_164 (by decide) ?_
      exact J_171 y_58 s_57 (d_j67 + d_59) (e_j67 + e_60) H locs h hP hD hS ls (lv_sub hl [0] rfl)
    replace h := h.2 e71_2
    have te71_0 := lv_neT (a := 0) e71_0 (by decide)
    have te71_1 := lv_neT (a := 1) e71_1 (by decide)
    have te71_2 := lv_neT (a := 2) e71_2 (by decide)
    refine lv_tableOut (tgt := 167) G.1 G.2.1 d_Mo_takeLine_71 (by omega) (by decide) ?_
    refine lv_aload_n G.1 G.2.1 d_Mo_takeLine_167 rfl (lv_at hl 0 rfl) ?_
    obtain ⟨mc_69, ms_70, hr_71, h⟩ := h
    refine uxVv (As := []) (rest := []) G hP hD hS (cx_Mo_codeLine l D g ad mc_69 ms_70 y_j67 _ _ s_j67 a0 H.size (us H) h_a0 h) (fun _ h => absurd h List.not_mem_nil) w9_Mo_codeLine q3616 ⟨Nat.le_of_ble_eq_true rfl, Nat.le_of_ble_eq_true rfl⟩ rfl rfl h_a0 (q := (RMo, TMo, 131)) rfl rfl hl.1 rfl (Nat.le_of_ble_eq_true rfl) rfl hr_71 d_Mo_takeLine_168 (fun y_66 s_65 d_67 e_68 H locs q9 ce h hP hD hS hce hcv hcl => ?_) (fun y_66 s_65 d_67 e_68 H locs h hP hD hS => ?_)
    · skip
      obtain ⟨hd, h⟩ := h
      exact hretX h hP hD hS hd.1 hd.2 hce hcv hcl
    obtain ⟨hd, h⟩ := h
    exact J_171 y_66 s_65 (d_j67 + d_67) (e_j67 + e_68) H locs h hP hD hS ls (lv_sub hl [0] rfl)
  refine lv_icmp_ne (tgt := 67) G.1 G.2.1 d_Mo_takeLine_11 (by decide) (fun c11 => ?_) (fun c11 => ?_)
  · skip
    have h := h.1 c11
    exact J_67 y s_1 0 0 H locs h hP hD hS ls (lv_sub hl [0] rfl)
  · skip
    have h := h.2 c11
    refine lv_aload_n G.1 G.2.1 d_Mo_takeLine_14 rfl (lv_at hl 0 rfl) ?_
    refine lv_aload_n G.1 G.2.1 d_Mo_takeLine_15 rfl (lv_at hl 0 rfl) ?_
    refine ugf (v := .int (sV s_1 a0 13)) G hP h_a0 iMo rfl 13 (by decide) rfl q3077 rfl rfl d_Mo_takeLine_16 ?_
    refine ucVi (As := [.int (sV s_1 a0 13)]) (rest := []) G hP hD hS (cu_Mo_isWord l D g ad y _ s_1 a0 (sV s_1 a0 13) H.size h_a0 h) w9_Mo_isWord q3522 ⟨Nat.le_of_ble_eq_true rfl, Nat.le_of_ble_eq_true rfl⟩ rfl rfl h_a0 (q := (RMo, TMo, 131)) rfl rfl hl.1 rfl (Nat.le_of_ble_eq_true rfl) rfl hd d_Mo_takeLine_19 (fun r_72 s_73 H locs h hP hD hS => ?_)
    have J_47 : ∀ (y_j47 : Ly) (s_j47 : St) (d_j47 e_j47 : Nat) (H : Heap) (locs : List Loc), wja_Mo_takeLine_47 mc ms Post PX a0 y_j47 s_j47 d_j47 e_j47 → va_P D CL (ws g ad y_j47 s_j47) H → va_D A (ws g ad y_j47 s_j47) → va_S A s.heap H locs → ∀ ls, lv_has ls 1 [(0, .ref (ad a0))] → W p l e (ra_Mo_takeLine mc ms) s m args below meth c H locs d_j47 e_j47 Q (F0 m 47 ls []) := by
      intro y_j47 s_j47 d_j47 e_j47 H locs h hP hD hS ls hl
      unfold wja_Mo_takeLine_47 at h
      obtain ⟨hd, h⟩ := h
      refine lv_aload_n G.1 G.2.1 d_Mo_takeLine_47 rfl (lv_at hl 0 rfl) ?_
      refine ugf (v := .ref (yP y_j47 a0 39)) G hP h_a0 iMo rfl 39 (by decide) rfl q3103 rfl rfl d_Mo_takeLine_48 ?_
      refine lv_iconst (v := 1) G.1 G.2.1 d_Mo_takeLine_51 (by decide) ?_
      refine ubald G hP (kdp h_a0 rfl) (typ h_a0 rfl) h d_Mo_takeLine_52 (fun x_74 h => ?_)
      refine lv_bipush (v := 58) G.1 G.2.1 d_Mo_takeLine_53 (by decide) ?_
      refine lv_icmp_eq (tgt := 67) G.1 G.2.1 d_Mo_takeLine_55 (by decide) (fun c55 => ?_) (fun c55 => ?_)
      · skip
        have h := h.1 c55
        exact J_67 y_j47 s_j47 d_j47 e_j47 H locs h hP hD hS ls (lv_sub hl [0] rfl)
      · skip
        have h := h.2 c55
        refine lv_aload_n G.1 G.2.1 d_Mo_takeLine_58 rfl (lv_at hl 0 rfl) ?_
        obtain ⟨mc_80, ms_81, hr_82, h⟩ := h
        refine uxVv (As := []) (rest := []) G hP hD hS (cx_Mo_endMethod l D g ad mc_80 ms_81 y_j47 _ _ s_j47 a0 H.size (us H) h_a0 h) (fun _ h => absurd h List.not_mem_nil) w9_Mo_endMethod q3526 ⟨Nat.le_of_ble_eq_true rfl, Nat.le_of_ble_eq_true rfl⟩ rfl rfl h_a0 (q := (RMo, TMo, 131)) rfl rfl hl.1 rfl (Nat.le_of_ble_eq_true rfl) rfl hr_82 d_Mo_takeLine_59 (fun y_77 s_76 d_78 e_79 H locs q9 ce h hP hD hS hce hcv hcl => ?_) (fun y_77 s_76 d_78 e_79 H locs h hP hD hS => ?_)
        · skip
          obtain ⟨hd, h⟩ := h
          exact hretX h hP hD hS hd.1 hd.2 hce hcv hcl
        obtain ⟨hd, h⟩ := h
        refine lv_aload_n G.1 G.2.1 d_Mo_takeLine_62 rfl (lv_at hl 0 rfl) ?_
        refine lv_iconst (v := 1) G.1 G.2.1 d_Mo_takeLine_63 (by decide) ?_
        refine upf G hP hD hS h 52 putV h_a0 iMo tMo tMo_ok nMo rfl (by decide) rfl q3116 rfl rfl fV rfl rfl d_Mo_takeLine_64 (fun s_83 H locs h hP hD hS => ?_)
        exact J_67 y_77 s_83 (d_j47 + d_78) (e_j47 + e_79) H locs h hP hD hS ls (lv_sub hl [0] rfl)
    refine W.eq (g2 := F0 m 22 ls [.int r_72]) rfl ?_
    refine lv_if_ne (tgt := 47) G.1 G.2.1 d_Mo_takeLine_22 (by decide) (fun c22 => ?_) (fun c22 => ?_)
    · skip
      have h := h.1 c22
      exact J_47 y s_73 0 0 H locs h hP hD hS ls (lv_sub hl [0] rfl)
    · skip
      have h := h.2 c22
      refine lv_aload_n G.1 G.2.1 d_Mo_takeLine_25 rfl (lv_at hl 0 rfl) ?_
      refine lv_aload_n G.1 G.2.1 d_Mo_takeLine_26 rfl (lv_at hl 0 rfl) ?_
      refine ugf (v := .int (sV s_73 a0 14)) G hP h_a0 iMo rfl 14 (by decide) rfl q3078 rfl rfl d_Mo_takeLine_27 ?_
      refine ucVi (As := [.int (sV s_73 a0 14)]) (rest := []) G hP hD hS (cu_Mo_isWord l D g ad y _ s_73 a0 (sV s_73 a0 14) H.size h_a0 h) w9_Mo_isWord q3522 ⟨Nat.le_of_ble_eq_true rfl, Nat.le_of_ble_eq_true rfl⟩ rfl rfl h_a0 (q := (RMo, TMo, 131)) rfl rfl hl.1 rfl (Nat.le_of_ble_eq_true rfl) rfl hd d_Mo_takeLine_30 (fun r_84 s_85 H locs h hP hD hS => ?_)
      refine lv_if_ne (tgt := 47) G.1 G.2.1 d_Mo_takeLine_33 (by decide) (fun c33 => ?_) (fun c33 => ?_)
      · skip
        have h := h.1 c33
        exact J_47 y s_85 0 0 H locs h hP hD hS ls (lv_sub hl [0] rfl)
      · skip
        have h := h.2 c33
        refine lv_aload_n G.1 G.2.1 d_Mo_takeLine_36 rfl (lv_at hl 0 rfl) ?_
        refine lv_aload_n G.1 G.2.1 d_Mo_takeLine_37 rfl (lv_at hl 0 rfl) ?_
        refine ugf (v := .int (sV s_85 a0 19)) G hP h_a0 iMo rfl 19 (by decide) rfl q3083 rfl rfl d_Mo_takeLine_38 ?_
        refine ucVi (As := [.int (sV s_85 a0 19)]) (rest := []) G hP hD hS (cu_Mo_isWord l D g ad y _ s_85 a0 (sV s_85 a0 19) H.size h_a0 h) w9_Mo_isWord q3522 ⟨Nat.le_of_ble_eq_true rfl, Nat.le_of_ble_eq_true rfl⟩ rfl rfl h_a0 (q := (RMo, TMo, 131)) rfl rfl hl.1 rfl (Nat.le_of_ble_eq_true rfl) rfl hd d_Mo_takeLine_41 (fun r_86 s_87 H locs h hP hD hS => ?_)
        refine lv_if_eq (tgt := 67) G.1 G.2.1 d_Mo_takeLine_44 (by decide) (fun c44 => ?_) (fun c44 => ?_)
        · skip
          have h := h.1 c44
          exact J_67 y s_87 0 0 H locs h hP hD hS ls (lv_sub hl [0] rfl)
        · skip
          have h := h.2 c44
          exact J_47 y s_87 0 0 H locs h hP hD hS ls (lv_sub hl [0] rfl)
