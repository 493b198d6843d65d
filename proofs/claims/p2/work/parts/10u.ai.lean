theorem q2283 : Cond.methodLink "ClassWorks$Checker" 249 y_Ck_go ∈ lw_ok := lw_okmem (List.mem_of_getElem? (i := 2283) (by decide +kernel)) rfl
theorem q2286 : Cond.code y_Ck_go b_Ck_go 9 (some .int) ∈ lw_ok := lw_okmem (List.mem_of_getElem? (i := 2286) (by decide +kernel)) rfl
theorem q2285 : Cond.instanceMethod y_Ck_go ∈ lw_ok := lw_okmem (List.mem_of_getElem? (i := 2285) (by decide +kernel)) rfl
theorem q142 : Cond.selects y_Ck_go.cls y_Ck_go y_Ck_go ∈ lw_ok := lw_okmem (List.mem_of_getElem? (i := 142) (by decide +kernel)) rfl
theorem w9_Ck_go : CWv y_Ck_go b_Ck_go 9 (some .int) 2 ∧ Cond.instanceMethod y_Ck_go ∈ lw_ok ∧ Cond.selects y_Ck_go.cls y_Ck_go y_Ck_go ∈ lw_ok := ⟨⟨q2286, q341, by decide +kernel, by decide +kernel, by decide +kernel⟩, q2285, q142⟩
def y_Ck_handlersGo : MethodName := ⟨"ClassWorks$Checker", "handlersGo", "(I)I"⟩
abbrev b_Ck_handlersGo : ByteArray := prog_2_method_31_code
theorem d_Ck_handlersGo_0 : decode b_Ck_handlersGo 0 = .ok (.aload_n 0, 1) := by decide +kernel
theorem d_Ck_handlersGo_1 : decode b_Ck_handlersGo 1 = .ok (.getfield 78, 3) := by decide +kernel
theorem d_Ck_handlersGo_4 : decode b_Ck_handlersGo 4 = .ok (.getfield 186, 3) := by decide +kernel
theorem d_Ck_handlersGo_7 : decode b_Ck_handlersGo 7 = .ok (.getfield 116, 3) := by decide +kernel
theorem d_Ck_handlersGo_10 : decode b_Ck_handlersGo 10 = .ok (.astore_n 2, 1) := by decide +kernel
theorem d_Ck_handlersGo_11 : decode b_Ck_handlersGo 11 = .ok (.aload_n 0, 1) := by decide +kernel
theorem d_Ck_handlersGo_12 : decode b_Ck_handlersGo 12 = .ok (.getfield 78, 3) := by decide +kernel
theorem d_Ck_handlersGo_15 : decode b_Ck_handlersGo 15 = .ok (.aload_n 0, 1) := by decide +kernel
theorem d_Ck_handlersGo_16 : decode b_Ck_handlersGo 16 = .ok (.getfield 18, 3) := by decide +kernel
theorem d_Ck_handlersGo_19 : decode b_Ck_handlersGo 19 = .ok (.aload_n 0, 1) := by decide +kernel
theorem d_Ck_handlersGo_20 : decode b_Ck_handlersGo 20 = .ok (.getfield 15, 3) := by decide +kernel
theorem d_Ck_handlersGo_23 : decode b_Ck_handlersGo 23 = .ok (.bipush 6, 2) := by decide +kernel
theorem d_Ck_handlersGo_25 : decode b_Ck_handlersGo 25 = .ok (.invokevirtual 82, 3) := by decide +kernel
theorem d_Ck_handlersGo_28 : decode b_Ck_handlersGo 28 = .ok (.istore_n 3, 1) := by decide +kernel
theorem d_Ck_handlersGo_29 : decode b_Ck_handlersGo 29 = .ok (.iload_n 3, 1) := by decide +kernel
theorem d_Ck_handlersGo_30 : decode b_Ck_handlersGo 30 = .ok (.aload_n 0, 1) := by decide +kernel
theorem d_Ck_handlersGo_31 : decode b_Ck_handlersGo 31 = .ok (.getfield 78, 3) := by decide +kernel
theorem d_Ck_handlersGo_34 : decode b_Ck_handlersGo 34 = .ok (.aload_n 0, 1) := by decide +kernel
theorem d_Ck_handlersGo_35 : decode b_Ck_handlersGo 35 = .ok (.getfield 18, 3) := by decide +kernel
theorem d_Ck_handlersGo_38 : decode b_Ck_handlersGo 38 = .ok (.aload_n 0, 1) := by decide +kernel
theorem d_Ck_handlersGo_39 : decode b_Ck_handlersGo 39 = .ok (.getfield 15, 3) := by decide +kernel
theorem d_Ck_handlersGo_42 : decode b_Ck_handlersGo 42 = .ok (.bipush 7, 2) := by decide +kernel
theorem d_Ck_handlersGo_44 : decode b_Ck_handlersGo 44 = .ok (.invokevirtual 82, 3) := by decide +kernel
theorem d_Ck_handlersGo_47 : decode b_Ck_handlersGo 47 = .ok (.iconst 4, 1) := by decide +kernel
theorem d_Ck_handlersGo_48 : decode b_Ck_handlersGo 48 = .ok (.imul, 1) := by decide +kernel
theorem d_Ck_handlersGo_49 : decode b_Ck_handlersGo 49 = .ok (.iadd, 1) := by decide +kernel
theorem d_Ck_handlersGo_50 : decode b_Ck_handlersGo 50 = .ok (.istore 4, 2) := by decide +kernel
theorem d_Ck_handlersGo_52 : decode b_Ck_handlersGo 52 = .ok (.iconst 0, 1) := by decide +kernel
theorem d_Ck_handlersGo_53 : decode b_Ck_handlersGo 53 = .ok (.istore 5, 2) := by decide +kernel
theorem d_Ck_handlersGo_55 : decode b_Ck_handlersGo 55 = .ok (.iload_n 3, 1) := by decide +kernel
theorem d_Ck_handlersGo_56 : decode b_Ck_handlersGo 56 = .ok (.istore 6, 2) := by decide +kernel
theorem d_Ck_handlersGo_58 : decode b_Ck_handlersGo 58 = .ok (.iload 6, 2) := by decide +kernel
theorem d_Ck_handlersGo_60 : decode b_Ck_handlersGo 60 = .ok (.iload 4, 2) := by decide +kernel
theorem d_Ck_handlersGo_62 : decode b_Ck_handlersGo 62 = .ok (.if_icmp .ge 78, 3) := by decide +kernel
theorem d_Ck_handlersGo_65 : decode b_Ck_handlersGo 65 = .ok (.iload 5, 2) := by decide +kernel
theorem d_Ck_handlersGo_67 : decode b_Ck_handlersGo 67 = .ok (.ifCond .ne 73, 3) := by decide +kernel
theorem d_Ck_handlersGo_70 : decode b_Ck_handlersGo 70 = .ok (.aload_n 2, 1) := by decide +kernel
theorem d_Ck_handlersGo_71 : decode b_Ck_handlersGo 71 = .ok (.iload 6, 2) := by decide +kernel
theorem d_Ck_handlersGo_73 : decode b_Ck_handlersGo 73 = .ok (.iaload, 1) := by decide +kernel
theorem d_Ck_handlersGo_74 : decode b_Ck_handlersGo 74 = .ok (.iload_n 1, 1) := by decide +kernel
theorem d_Ck_handlersGo_75 : decode b_Ck_handlersGo 75 = .ok (.if_icmp .gt 59, 3) := by decide +kernel
theorem d_Ck_handlersGo_78 : decode b_Ck_handlersGo 78 = .ok (.iload_n 1, 1) := by decide +kernel
theorem d_Ck_handlersGo_79 : decode b_Ck_handlersGo 79 = .ok (.aload_n 2, 1) := by decide +kernel
theorem d_Ck_handlersGo_80 : decode b_Ck_handlersGo 80 = .ok (.iload 6, 2) := by decide +kernel
theorem d_Ck_handlersGo_82 : decode b_Ck_handlersGo 82 = .ok (.iconst 1, 1) := by decide +kernel
theorem d_Ck_handlersGo_83 : decode b_Ck_handlersGo 83 = .ok (.iadd, 1) := by decide +kernel
theorem d_Ck_handlersGo_84 : decode b_Ck_handlersGo 84 = .ok (.iaload, 1) := by decide +kernel
theorem d_Ck_handlersGo_85 : decode b_Ck_handlersGo 85 = .ok (.if_icmp .ge 49, 3) := by decide +kernel
theorem d_Ck_handlersGo_88 : decode b_Ck_handlersGo 88 = .ok (.aload_n 2, 1) := by decide +kernel
theorem d_Ck_handlersGo_89 : decode b_Ck_handlersGo 89 = .ok (.iload 6, 2) := by decide +kernel
theorem d_Ck_handlersGo_91 : decode b_Ck_handlersGo 91 = .ok (.iconst 3, 1) := by decide +kernel
theorem d_Ck_handlersGo_92 : decode b_Ck_handlersGo 92 = .ok (.iadd, 1) := by decide +kernel
theorem d_Ck_handlersGo_93 : decode b_Ck_handlersGo 93 = .ok (.iaload, 1) := by decide +kernel
theorem d_Ck_handlersGo_94 : decode b_Ck_handlersGo 94 = .ok (.istore 7, 2) := by decide +kernel
theorem d_Ck_handlersGo_96 : decode b_Ck_handlersGo 96 = .ok (.aload_n 0, 1) := by decide +kernel
theorem d_Ck_handlersGo_97 : decode b_Ck_handlersGo 97 = .ok (.getfield 30, 3) := by decide +kernel
theorem d_Ck_handlersGo_100 : decode b_Ck_handlersGo 100 = .ok (.ifCond .ne 8, 3) := by decide +kernel
theorem d_Ck_handlersGo_103 : decode b_Ck_handlersGo 103 = .ok (.bipush 30, 2) := by decide +kernel
theorem d_Ck_handlersGo_105 : decode b_Ck_handlersGo 105 = .ok (.goto 27, 3) := by decide +kernel
theorem d_Ck_handlersGo_108 : decode b_Ck_handlersGo 108 = .ok (.aload_n 0, 1) := by decide +kernel
theorem d_Ck_handlersGo_109 : decode b_Ck_handlersGo 109 = .ok (.aload_n 2, 1) := by decide +kernel
theorem d_Ck_handlersGo_110 : decode b_Ck_handlersGo 110 = .ok (.iload 6, 2) := by decide +kernel
theorem d_Ck_handlersGo_112 : decode b_Ck_handlersGo 112 = .ok (.iconst 2, 1) := by decide +kernel
theorem d_Ck_handlersGo_113 : decode b_Ck_handlersGo 113 = .ok (.iadd, 1) := by decide +kernel
theorem d_Ck_handlersGo_114 : decode b_Ck_handlersGo 114 = .ok (.iaload, 1) := by decide +kernel
theorem d_Ck_handlersGo_115 : decode b_Ck_handlersGo 115 = .ok (.iload 7, 2) := by decide +kernel
theorem d_Ck_handlersGo_117 : decode b_Ck_handlersGo 117 = .ok (.bipush 6, 2) := by decide +kernel
theorem d_Ck_handlersGo_119 : decode b_Ck_handlersGo 119 = .ok (.if_icmp .ne 8, 3) := by decide +kernel
theorem d_Ck_handlersGo_122 : decode b_Ck_handlersGo 122 = .ok (.bipush 10, 2) := by decide +kernel
theorem d_Ck_handlersGo_124 : decode b_Ck_handlersGo 124 = .ok (.goto 5, 3) := by decide +kernel
theorem d_Ck_handlersGo_127 : decode b_Ck_handlersGo 127 = .ok (.iload 7, 2) := by decide +kernel
theorem d_Ck_handlersGo_129 : decode b_Ck_handlersGo 129 = .ok (.invokevirtual 249, 3) := by decide +kernel
theorem d_Ck_handlersGo_132 : decode b_Ck_handlersGo 132 = .ok (.istore 5, 2) := by decide +kernel
theorem d_Ck_handlersGo_134 : decode b_Ck_handlersGo 134 = .ok (.iinc 6 4, 3) := by decide +kernel
theorem d_Ck_handlersGo_137 : decode b_Ck_handlersGo 137 = .ok (.goto (-79), 3) := by decide +kernel
theorem d_Ck_handlersGo_140 : decode b_Ck_handlersGo 140 = .ok (.iload 5, 2) := by decide +kernel
theorem d_Ck_handlersGo_142 : decode b_Ck_handlersGo 142 = .ok (.ireturn, 1) := by decide +kernel
abbrev ru_Ck_handlersGo : Room := { frames := 4, cells := 0, slots := 0, locals := 100 }
def wj_Ck_handlersGo_140 (y : Ly) (Post : St → Int32 → Prop) (a0 : Nat) (s_j140 : St) (x5j140 : Int32) : Prop := Post s_j140 x5j140
def wj_Ck_handlersGo_134 (y : Ly) (Post : St → Int32 → Prop) (K_58 : St → Int32 → Nat → Nat → Int32 → Int32 → Int32 → Prop) (a0 : Nat) (s_j134 : St) (x1j134 : Int32) (x2j134 : Nat) (x2j134k : Nat) (x4j134 : Int32) (x5j134 : Int32) (x6j134 : Int32) : Prop := (kd (cl x2j134) x2j134k = 2 ∧ tyx (cl x2j134) x2j134k = 0) ∧ K_58 s_j134 x1j134 x2j134 x2j134k x4j134 x5j134 (x6j134 + 4)
def wj_Ck_handlersGo_132 (y : Ly) (Post : St → Int32 → Prop) (K_58 : St → Int32 → Nat → Nat → Int32 → Int32 → Int32 → Prop) (a0 : Nat) (s_j132 : St) (x1j132 : Int32) (x2j132 : Nat) (x2j132k : Nat) (x4j132 : Int32) (x6j132 : Int32) (z0j132 : Int32) : Prop := (kd (cl x2j132) x2j132k = 2 ∧ tyx (cl x2j132) x2j132k = 0) ∧ wj_Ck_handlersGo_134 y Post K_58 a0 s_j132 x1j132 x2j132 x2j132k x4j132 z0j132 x6j132
def wj_Ck_handlersGo_129 (y : Ly) (Post : St → Int32 → Prop) (K_58 : St → Int32 → Nat → Nat → Int32 → Int32 → Int32 → Prop) (a0 : Nat) (s_j129 : St) (x1j129 : Int32) (x2j129 : Nat) (x2j129k : Nat) (x4j129 : Int32) (x6j129 : Int32) (z1j129 : Int32) (z2j129 : Int32) : Prop := (kd (cl x2j129) x2j129k = 2 ∧ tyx (cl x2j129) x2j129k = 0) ∧ wu_Ck_go y (fun (s_19 : St) (r_18 : Int32) => wj_Ck_handlersGo_132 y Post K_58 a0 s_19 x1j129 x2j129 x2j129k x4j129 x6j129 r_18) s_j129 a0 z1j129 z2j129
def wb_Ck_handlersGo_58 (y : Ly) (Post : St → Int32 → Prop) (K_58 : St → Int32 → Nat → Nat → Int32 → Int32 → Int32 → Prop) (a0 : Nat) (s_h58 : St) (x1h58 : Int32) (x2h58 : Nat) (x2h58k : Nat) (x4h58 : Int32) (x5h58 : Int32) (x6h58 : Int32) : Prop := (kd (cl x2h58) x2h58k = 2 ∧ tyx (cl x2h58) x2h58k = 0) ∧ ((x4h58 ≤ x6h58 → wj_Ck_handlersGo_140 y Post a0 s_h58 x5h58) ∧ (¬ (x4h58 ≤ x6h58) → ((¬ x5h58 = 0 → wj_Ck_handlersGo_140 y Post a0 s_h58 x5h58) ∧ (x5h58 = 0 → xA y s_h58 x2h58 x2h58k x6h58 (fun x_14 : Int32 => ((x1h58 < x_14 → wj_Ck_handlersGo_134 y Post K_58 a0 s_h58 x1h58 x2h58 x2h58k x4h58 x5h58 x6h58) ∧ (¬ (x1h58 < x_14) → xA y s_h58 x2h58 x2h58k (x6h58 + 1) (fun x_15 : Int32 => ((x_15 ≤ x1h58 → wj_Ck_handlersGo_134 y Post K_58 a0 s_h58 x1h58 x2h58 x2h58k x4h58 x5h58 x6h58) ∧ (¬ (x_15 ≤ x1h58) → xA y s_h58 x2h58 x2h58k (x6h58 + 3) (fun x_16 : Int32 => ((¬ (sV s_h58 a0 8) = 0 → xA y s_h58 x2h58 x2h58k (x6h58 + 2) (fun x_17 : Int32 => ((¬ x_16 = 6 → wj_Ck_handlersGo_129 y Post K_58 a0 s_h58 x1h58 x2h58 x2h58k x4h58 x6h58 x_17 x_16) ∧ (x_16 = 6 → wj_Ck_handlersGo_129 y Post K_58 a0 s_h58 x1h58 x2h58 x2h58k x4h58 x6h58 x_17 10)))) ∧ ((sV s_h58 a0 8) = 0 → wj_Ck_handlersGo_132 y Post K_58 a0 s_h58 x1h58 x2h58 x2h58k x4h58 x6h58 30)))))))))))))
def wl_Ck_handlersGo_58 (y : Ly) (Post : St → Int32 → Prop) (a0 : Nat) (s_h58 : St) (x1h58 : Int32) (x2h58 : Nat) (x2h58k : Nat) (x4h58 : Int32) (x5h58 : Int32) (x6h58 : Int32) : Prop := ∃ (I : St → Int32 → Nat → Nat → Int32 → Int32 → Int32 → Prop) (μ : St → Int32 → Nat → Nat → Int32 → Int32 → Int32 → Nat), I s_h58 x1h58 x2h58 x2h58k x4h58 x5h58 x6h58 ∧ ∀ (u : St) (t0 : Int32) (t1 : Nat) (t2 : Nat) (t3 : Int32) (t4 : Int32) (t5 : Int32), I u t0 t1 t2 t3 t4 t5 → wb_Ck_handlersGo_58 y Post (fun z t0q t1q t2q t3q t4q t5q => I z t0q t1q t2q t3q t4q t5q ∧ μ z t0q t1q t2q t3q t4q t5q < μ u t0 t1 t2 t3 t4 t5) a0 u t0 t1 t2 t3 t4 t5
def wu_Ck_handlersGo (y : Ly) (Post : St → Int32 → Prop) (σ : St) (a0 : Nat) (v1 : Int32) : Prop := ∃ b_1 : Nat, sO σ a0 3 = some b_1 ∧ cl b_1 = 9 ∧ ∃ b_4 : Nat, sO σ a0 3 = some b_4 ∧ cl b_4 = 9 ∧ wu_Wd_method y (fun (s_8 : St) (r_7 : Int32) => ∃ b_9 : Nat, sO s_8 a0 3 = some b_9 ∧ cl b_9 = 9 ∧ wu_Wd_method y (fun (s_13 : St) (r_12 : Int32) => wl_Ck_handlersGo_58 y Post a0 s_13 v1 (lk b_1 11) 0 (r_7 + (r_12 * 4)) 0 r_7) s_8 b_9 (sV s_8 a0 4) (sV s_8 a0 1) 7) σ b_4 (sV σ a0 4) (sV σ a0 1) 6
set_option maxHeartbeats 4000000 in
set_option maxRecDepth 100000 in
theorem cu_Ck_handlersGo (l : Launch) (D : va_G) (g : Nat → ClassId) (ad : Nat → Nat) (y : Ly) (Post : St → Int32 → Prop) (σ : St) (a0 : Nat) (v1 : Int32) (sz : Nat) (h_a0 : cl a0 = 0) (h : wu_Ck_handlersGo y Post σ a0 v1) : Met l y_Ck_handlersGo (mw y_Ck_handlersGo b_Ck_handlersGo 8 (some .int)) ru_Ck_handlersGo (PC g D [] [.ref (ad a0), .int v1] sz (ws g ad y σ)) (va_Qi (fun (r : Int32) (u : St) => Post u r) (QW D (va_A (ws g ad y σ) sz) (fun u => ws g ad y u)) (va_A (ws g ad y σ) sz)) 0 0 (va_A (ws g ad y σ) sz) := by
  refine ofI (by decide +kernel) (Nat.le_of_ble_eq_true rfl) ?_
  intro p e s m args below meth c A Q ls H locs G hsz hP hD hS hl hret
  subst hsz
  have hl : lv_has ls 8 [(0, .ref (ad a0)), (1, .int v1)] := hl
  unfold wu_Ck_handlersGo at h
  refine lv_aload_n G.1 G.2.1 d_Ck_handlersGo_0 rfl (lv_at hl 0 rfl) ?_
  obtain ⟨b_1, e_2, c_3, h⟩ := h
  refine ugf (v := .ref (ad b_1)) G hP h_a0 iCk rfl 3 (by decide) rfl q654 rfl (by show va_rf ((sO σ a0 3).map ad) = _; rw [e_2]; rfl) d_Ck_handlersGo_1 ?_
  refine ugf (v := .ref (ad (lk b_1 11))) G hP c_3 iWd rfl 11 (by decide) rfl q849 rfl rfl d_Ck_handlersGo_4 ?_
  refine ugf (v := .ref (yP y (lk b_1 11) 0)) G hP (lk_9_11 c_3) iIn rfl 0 (by decide) rfl q380 rfl rfl d_Ck_handlersGo_7 ?_
  refine lv_astore_n (lv' := [(2, .ref (yP y (lk b_1 11) 0)), (0, .ref (ad a0)), (1, .int v1)]) G.1 G.2.1 d_Ck_handlersGo_10 rfl hl (by decide) rfl (fun ls hl => ?_)
  refine lv_aload_n G.1 G.2.1 d_Ck_handlersGo_11 rfl (lv_at hl 1 rfl) ?_
  obtain ⟨b_4, e_5, c_6, h⟩ := h
  refine ugf (v := .ref (ad b_4)) G hP h_a0 iCk rfl 3 (by decide) rfl q654 rfl (by show va_rf ((sO σ a0 3).map ad) = _; rw [e_5]; rfl) d_Ck_handlersGo_12 ?_
  refine lv_aload_n G.1 G.2.1 d_Ck_handlersGo_15 rfl (lv_at hl 1 rfl) ?_
  refine ugf (v := .int (sV σ a0 4)) G hP h_a0 iCk rfl 4 (by decide) rfl q655 rfl rfl d_Ck_handlersGo_16 ?_
  refine lv_aload_n G.1 G.2.1 d_Ck_handlersGo_19 rfl (lv_at hl 1 rfl) ?_
  refine ugf (v := .int (sV σ a0 1)) G hP h_a0 iCk rfl 1 (by decide) rfl q651 rfl rfl d_Ck_handlersGo_20 ?_
  refine W.eq (g2 := F0 m 23 ls [.int (sV σ a0 1), .int (sV σ a0 4), .ref (ad b_4)]) rfl ?_
  refine lv_bipush (v := 6) G.1 G.2.1 d_Ck_handlersGo_23 (by decide) ?_
  refine ucVi (As := [.int (sV σ a0 4), .int (sV σ a0 1), .int 6]) (rest := []) G hP hD hS (cu_Wd_method l D g ad y _ σ b_4 (sV σ a0 4) (sV σ a0 1) 6 H.size c_6 h) w9_Wd_method q1580 ⟨Nat.le_of_ble_eq_true rfl, Nat.le_of_ble_eq_true rfl⟩ rfl rfl c_6 (q := (RWd, TWd, 17)) rfl rfl hl.1 rfl (Nat.le_of_ble_eq_true rfl) rfl ⟨Nat.le_refl _, Nat.le_refl _⟩ d_Ck_handlersGo_25 (fun r_7 s_8 H locs h hP hD hS => ?_)
  refine lv_istore_n (lv' := [(3, .int r_7), (2, .ref (yP y (lk b_1 11) 0)), (0, .ref (ad a0)), (1, .int v1)]) G.1 G.2.1 d_Ck_handlersGo_28 rfl hl (by decide) rfl (fun ls hl => ?_)
  refine lv_iload_n G.1 G.2.1 d_Ck_handlersGo_29 rfl (lv_at hl 0 rfl) ?_
  refine lv_aload_n G.1 G.2.1 d_Ck_handlersGo_30 rfl (lv_at hl 2 rfl) ?_
  obtain ⟨b_9, e_10, c_11, h⟩ := h
  refine ugf (v := .ref (ad b_9)) G hP h_a0 iCk rfl 3 (by decide) rfl q654 rfl (by show va_rf ((sO s_8 a0 3).map ad) = _; rw [e_10]; rfl) d_Ck_handlersGo_31 ?_
  refine lv_aload_n G.1 G.2.1 d_Ck_handlersGo_34 rfl (lv_at hl 2 rfl) ?_
  refine ugf (v := .int (sV s_8 a0 4)) G hP h_a0 iCk rfl 4 (by decide) rfl q655 rfl rfl d_Ck_handlersGo_35 ?_
  refine lv_aload_n G.1 G.2.1 d_Ck_handlersGo_38 rfl (lv_at hl 2 rfl) ?_
  refine ugf (v := .int (sV s_8 a0 1)) G hP h_a0 iCk rfl 1 (by decide) rfl q651 rfl rfl d_Ck_handlersGo_39 ?_
  refine lv_bipush (v := 7) G.1 G.2.1 d_Ck_handlersGo_42 (by decide) ?_
  refine ucVi (As := [.int (sV s_8 a0 4), .int (sV s_8 a0 1), .int 7]) (rest := [.int r_7]) G hP hD hS (cu_Wd_method l D g ad y _ s_8 b_9 (sV s_8 a0 4) (sV s_8 a0 1) 7 H.size c_11 h) w9_Wd_method q1580 ⟨Nat.le_of_ble_eq_true rfl, Nat.le_of_ble_eq_true rfl⟩ rfl rfl c_11 (q := (RWd, TWd, 17)) rfl rfl hl.1 rfl (Nat.le_of_ble_eq_true rfl) rfl ⟨Nat.le_refl _, Nat.le_refl _⟩ d_Ck_handlersGo_44 (fun r_12 s_13 H locs h hP hD hS => ?_)
  refine W.eq (g2 := F0 m 47 ls [.int r_12, .int r_7]) rfl ?_
  refine lv_iconst (v := 4) G.1 G.2.1 d_Ck_handlersGo_47 (by decide) ?_
  refine lv_imul G.1 G.2.1 d_Ck_handlersGo_48 ?_
  refine lv_iadd G.1 G.2.1 d_Ck_handlersGo_49 ?_
  refine lv_istore (lv' := [(4, .int (r_7 + (r_12 * 4))), (3, .int r_7), (2, .ref (yP y (lk b_1 11) 0)), (0, .ref (ad a0)), (1, .int v1)]) G.1 G.2.1 d_Ck_handlersGo_50 hl (by decide) rfl (fun ls hl => ?_)
  refine lv_iconst (v := 0) G.1 G.2.1 d_Ck_handlersGo_52 (by decide) ?_
  refine lv_istore (lv' := [(5, .int 0), (4, .int (r_7 + (r_12 * 4))), (3, .int r_7), (2, .ref (yP y (lk b_1 11) 0)), (0, .ref (ad a0)), (1, .int v1)]) G.1 G.2.1 d_Ck_handlersGo_53 hl (by decide) rfl (fun ls hl => ?_)
  refine lv_iload_n G.1 G.2.1 d_Ck_handlersGo_55 rfl (lv_at hl 2 rfl) ?_
  refine lv_istore (lv' := [(6, .int r_7), (5, .int 0), (4, .int (r_7 + (r_12 * 4))), (3, .int r_7), (2, .ref (yP y (lk b_1 11) 0)), (0, .ref (ad a0)), (1, .int v1)]) G.1 G.2.1 d_Ck_handlersGo_56 hl (by decide) rfl (fun ls hl => ?_)
  unfold wl_Ck_handlersGo_58 at h
  obtain ⟨I_58, μ_58, hI_58, hB_58⟩ := h
  have L_58 : ∀ (n_58 : Nat) (s_h58 : St) (x1h58 : Int32) (x2h58 : Nat) (x2h58k : Nat) (x4h58 : Int32) (x5h58 : Int32) (x6h58 : Int32), μ_58 s_h58 x1h58 x2h58 x2h58k x4h58 x5h58 x6h58 < n_58 → I_58 s_h58 x1h58 x2h58 x2h58k x4h58 x5h58 x6h58 → ∀ (H : Heap) (locs : List Loc), va_P D CL (ws g ad y s_h58) H → va_D A (ws g ad y s_h58) → va_S A s.heap H locs → ∀ ls, lv_has ls 8 [(0, .ref (ad a0)), (1, .int x1h58), (2, .ref (yP y x2h58 x2h58k)), (4, .int x4h58), (5, .int x5h58), (6, .int x6h58)] → W p l e ru_Ck_handlersGo s m args below meth c H locs 0 0 Q (F0 m 58 ls []) := by
    intro n_58
    induction n_58 with
    | zero => intro s_h58 x1h58 x2h58 x2h58k x4h58 x5h58 x6h58 hμ; exact absurd hμ (Nat.not_lt_zero _)
    | succ n_58 ih_58 =>
      intro s_h58 x1h58 x2h58 x2h58k x4h58 x5h58 x6h58 hμ_58 hJ H locs hP hD hS ls hl
      obtain ⟨K_58, hK_58, h⟩ : ∃ K : St → Int32 → Nat → Nat → Int32 → Int32 → Int32 → Prop, (∀ z (t0 : Int32) (t1 : Nat) (t2 : Nat) (t3 : Int32) (t4 : Int32) (t5 : Int32), K z t0 t1 t2 t3 t4 t5 → I_58 z t0 t1 t2 t3 t4 t5 ∧ μ_58 z t0 t1 t2 t3 t4 t5 < μ_58 s_h58 x1h58 x2h58 x2h58k x4h58 x5h58 x6h58) ∧ wb_Ck_handlersGo_58 y Post K a0 s_h58 x1h58 x2h58 x2h58k x4h58 x5h58 x6h58 := ⟨_, fun _ _ _ _ _ _ _ h => h, hB_58 s_h58 x1h58 x2h58 x2h58k x4h58 x5h58 x6h58 hJ⟩
      unfold wb_Ck_handlersGo_58 at h
      obtain ⟨c_x2h58, h⟩ := h
      refine lv_iload G.1 G.2.1 d_Ck_handlersGo_58 (lv_at hl 5 rfl) ?_
      refine lv_iload G.1 G.2.1 d_Ck_handlersGo_60 (lv_at hl 3 rfl) ?_
      have J_140 : ∀ (s_j140 : St) (x5j140 : Int32) (H : Heap) (locs : List Loc), wj_Ck_handlersGo_140 y Post a0 s_j140 x5j140 → va_P D CL (ws g ad y s_j140) H → va_D A (ws g ad y s_j140) → va_S A s.heap H locs → ∀ ls, lv_has ls 8 [(5, .int x5j140)] → W p l e ru_Ck_handlersGo s m args below meth c H locs 0 0 Q (F0 m 140 ls []) := by
        intro s_j140 x5j140 H locs h hP hD hS ls hl
        unfold wj_Ck_handlersGo_140 at h
        refine lv_iload G.1 G.2.1 d_Ck_handlersGo_140 (lv_at hl 0 rfl) ?_
        exact hret _ _ _ _ _ _ _ ls h hP hD hS (Nat.le_refl _) (Nat.le_refl _) d_Ck_handlersGo_142
      refine lv_icmp_ge (tgt := 140) G.1 G.2.1 d_Ck_handlersGo_62 (by decide) (fun c62 => ?_) (fun c62 => ?_)
      · skip
        have h := h.1 c62
        exact J_140 s_h58 x5h58 H locs h hP hD hS ls (lv_sub hl [4] rfl)
      · skip
        have h := h.2 c62
        refine lv_iload G.1 G.2.1 d_Ck_handlersGo_65 (lv_at hl 4 rfl) ?_
        refine lv_if_ne (tgt := 140) G.1 G.2.1 d_Ck_handlersGo_67 (by decide) (fun c67 => ?_) (fun c67 => ?_)
        · skip
          have h := h.1 c67
          exact J_140 s_h58 x5h58 H locs h hP hD hS ls (lv_sub hl [4] rfl)
        · skip
          have h := h.2 c67
          refine lv_aload_n G.1 G.2.1 d_Ck_handlersGo_70 rfl (lv_at hl 2 rfl) ?_
          refine lv_iload G.1 G.2.1 d_Ck_handlersGo_71 (lv_at hl 5 rfl) ?_
          refine uiald G hP c_x2h58.1 c_x2h58.2 h d_Ck_handlersGo_73 (fun x_14 h => ?_)
          refine lv_iload_n G.1 G.2.1 d_Ck_handlersGo_74 rfl (lv_at hl 1 rfl) ?_
          have J_134 : ∀ (s_j134 : St) (x1j134 : Int32) (x2j134 : Nat) (x2j134k : Nat) (x4j134 : Int32) (x5j134 : Int32) (x6j134 : Int32) (H : Heap) (locs : List Loc), wj_Ck_handlersGo_134 y Post K_58 a0 s_j134 x1j134 x2j134 x2j134k x4j134 x5j134 x6j134 → va_P D CL (ws g ad y s_j134) H → va_D A (ws g ad y s_j134) → va_S A s.heap H locs → ∀ ls, lv_has ls 8 [(0, .ref (ad a0)), (1, .int x1j134), (2, .ref (yP y x2j134 x2j134k)), (4, .int x4j134), (5, .int x5j134), (6, .int x6j134)] → W p l e ru_Ck_handlersGo s m args below meth c H locs 0 0 Q (F0 m 134 ls []) := by
            intro s_j134 x1j134 x2j134 x2j134k x4j134 x5j134 x6j134 H locs h hP hD hS ls hl
            unfold wj_Ck_handlersGo_134 at h
            obtain ⟨c_x2j134, h⟩ := h
            refine lv_iinc (v := x6j134 + 4) (lv' := [(6, .int (x6j134 + 4)), (0, .ref (ad a0)), (1, .int x1j134), (2, .ref (yP y x2j134 x2j134k)), (4, .int x4j134), (5, .int x5j134)]) G.1 G.2.1 d_Ck_handlersGo_134 hl (k := 5) rfl rfl (by decide) rfl (fun ls hl => ?_)
            refine lv_goto (tgt := 58) G.1 G.2.1 d_Ck_handlersGo_137 (by decide) ?_
            have h := hK_58 s_j134 x1j134 x2j134 x2j134k x4j134 x5j134 (x6j134 + 4) h
            exact ih_58 s_j134 x1j134 x2j134 x2j134k x4j134 x5j134 (x6j134 + 4) (Nat.lt_of_lt_of_le h.2 (Nat.le_of_lt_succ hμ_58)) h.1 H locs hP hD hS ls (lv_sub hl [1, 2, 3, 4, 5, 0] rfl)
          refine lv_icmp_gt (tgt := 134) G.1 G.2.1 d_Ck_handlersGo_75 (by decide) (fun c75 => ?_) (fun c75 => ?_)
          · skip
            have h := h.1 c75
            exact J_134 s_h58 x1h58 x2h58 x2h58k x4h58 x5h58 x6h58 H locs h hP hD hS ls (lv_sub hl [0, 1, 2, 3, 4, 5] rfl)
          · skip
            have h := h.2 c75
            refine lv_iload_n G.1 G.2.1 d_Ck_handlersGo_78 rfl (lv_at hl 1 rfl) ?_
            refine W.eq (g2 := F0 m 79 ls [.int x1h58]) rfl ?_
            refine lv_aload_n G.1 G.2.1 d_Ck_handlersGo_79 rfl (lv_at hl 2 rfl) ?_
            refine lv_iload G.1 G.2.1 d_Ck_handlersGo_80 (lv_at hl 5 rfl) ?_
            refine lv_iconst (v := 1) G.1 G.2.1 d_Ck_handlersGo_82 (by decide) ?_
            refine lv_iadd G.1 G.2.1 d_Ck_handlersGo_83 ?_
            refine uiald G hP c_x2h58.1 c_x2h58.2 h d_Ck_handlersGo_84 (fun x_15 h => ?_)
            refine lv_icmp_ge (tgt := 134) G.1 G.2.1 d_Ck_handlersGo_85 (by decide) (fun c85 => ?_) (fun c85 => ?_)
            · skip
              have h := h.1 c85
              exact J_134 s_h58 x1h58 x2h58 x2h58k x4h58 x5h58 x6h58 H locs h hP hD hS ls (lv_sub hl [0, 1, 2, 3, 4, 5] rfl)
            · skip
              have h := h.2 c85
              refine lv_aload_n G.1 G.2.1 d_Ck_handlersGo_88 rfl (lv_at hl 2 rfl) ?_
              refine lv_iload G.1 G.2.1 d_Ck_handlersGo_89 (lv_at hl 5 rfl) ?_
              refine lv_iconst (v := 3) G.1 G.2.1 d_Ck_handlersGo_91 (by decide) ?_
              refine lv_iadd G.1 G.2.1 d_Ck_handlersGo_92 ?_
              refine uiald G hP c_x2h58.1 c_x2h58.2 h d_Ck_handlersGo_93 (fun x_16 h => ?_)
              refine lv_istore (lv' := [(7, .int x_16), (0, .ref (ad a0)), (1, .int x1h58), (2, .ref (yP y x2h58 x2h58k)), (4, .int x4h58), (5, .int x5h58), (6, .int x6h58)]) G.1 G.2.1 d_Ck_handlersGo_94 hl (by decide) rfl (fun ls hl => ?_)
              refine W.eq (g2 := F0 m 96 ls []) rfl ?_
              refine lv_aload_n G.1 G.2.1 d_Ck_handlersGo_96 rfl (lv_at hl 1 rfl) ?_
              refine ugf (v := .int (sV s_h58 a0 8)) G hP h_a0 iCk rfl 8 (by decide) rfl q659 rfl rfl d_Ck_handlersGo_97 ?_
              have J_132 : ∀ (s_j132 : St) (x1j132 : Int32) (x2j132 : Nat) (x2j132k : Nat) (x4j132 : Int32) (x6j132 : Int32) (z0j132 : Int32) (H : Heap) (locs : List Loc), wj_Ck_handlersGo_132 y Post K_58 a0 s_j132 x1j132 x2j132 x2j132k x4j132 x6j132 z0j132 → va_P D CL (ws g ad y s_j132) H → va_D A (ws g ad y s_j132) → va_S A s.heap H locs → ∀ ls, lv_has ls 8 [(0, .ref (ad a0)), (1, .int x1j132), (2, .ref (yP y x2j132 x2j132k)), (4, .int x4j132), (6, .int x6j132)] → W p l e ru_Ck_handlersGo s m args below meth c H locs 0 0 Q (F0 m 132 ls [.int z0j132]) := by
                intro s_j132 x1j132 x2j132 x2j132k x4j132 x6j132 z0j132 H locs h hP hD hS ls hl
                unfold wj_Ck_handlersGo_132 at h
                obtain ⟨c_x2j132, h⟩ := h
                refine lv_istore (lv' := [(5, .int z0j132), (0, .ref (ad a0)), (1, .int x1j132), (2, .ref (yP y x2j132 x2j132k)), (4, .int x4j132), (6, .int x6j132)]) G.1 G.2.1 d_Ck_handlersGo_132 hl (by decide) rfl (fun ls hl => ?_)
                exact J_134 s_j132 x1j132 x2j132 x2j132k x4j132 z0j132 x6j132 H locs h hP hD hS ls (lv_sub hl [1, 2, 3, 4, 0, 5] rfl)
              refine lv_if_ne (tgt := 108) G.1 G.2.1 d_Ck_handlersGo_100 (by decide) (fun c100 => ?_) (fun c100 => ?_)
              · skip
                have h := h.1 c100
                refine lv_aload_n G.1 G.2.1 d_Ck_handlersGo_108 rfl (lv_at hl 1 rfl) ?_
                refine lv_aload_n G.1 G.2.1 d_Ck_handlersGo_109 rfl (lv_at hl 3 rfl) ?_
                refine lv_iload G.1 G.2.1 d_Ck_handlersGo_110 (lv_at hl 6 rfl) ?_
                refine lv_iconst (v := 2) G.1 G.2.1 d_Ck_handlersGo_112 (by decide) ?_
                refine lv_iadd G.1 G.2.1 d_Ck_handlersGo_113 ?_
                refine uiald G hP c_x2h58.1 c_x2h58.2 h d_Ck_handlersGo_114 (fun x_17 h => ?_)
                refine lv_iload G.1 G.2.1 d_Ck_handlersGo_115 (lv_at hl 0 rfl) ?_
                refine lv_bipush (v := 6) G.1 G.2.1 d_Ck_handlersGo_117 (by decide) ?_
                have J_129 : ∀ (s_j129 : St) (x1j129 : Int32) (x2j129 : Nat) (x2j129k : Nat) (x4j129 : Int32) (x6j129 : Int32) (z1j129 : Int32) (z2j129 : Int32) (H : Heap) (locs : List Loc), wj_Ck_handlersGo_129 y Post K_58 a0 s_j129 x1j129 x2j129 x2j129k x4j129 x6j129 z1j129 z2j129 → va_P D CL (ws g ad y s_j129) H → va_D A (ws g ad y s_j129) → va_S A s.heap H locs → ∀ ls, lv_has ls 8 [(0, .ref (ad a0)), (1, .int x1j129), (2, .ref (yP y x2j129 x2j129k)), (4, .int x4j129), (6, .int x6j129)] → W p l e ru_Ck_handlersGo s m args below meth c H locs 0 0 Q (F0 m 129 ls [.int z2j129, .int z1j129, .ref (ad a0)]) := by
                  intro s_j129 x1j129 x2j129 x2j129k x4j129 x6j129 z1j129 z2j129 H locs h hP hD hS ls hl
                  unfold wj_Ck_handlersGo_129 at h
                  obtain ⟨c_x2j129, h⟩ := h
                  refine ucVi (As := [.int z1j129, .int z2j129]) (rest := []) G hP hD hS (cu_Ck_go l D g ad y _ s_j129 a0 z1j129 z2j129 H.size h_a0 h) w9_Ck_go q2283 ⟨Nat.le_of_ble_eq_true rfl, Nat.le_of_ble_eq_true rfl⟩ rfl rfl h_a0 (q := (RCk, TCk, 22)) rfl rfl hl.1 rfl (Nat.le_of_ble_eq_true rfl) rfl ⟨Nat.le_refl _, Nat.le_refl _⟩ d_Ck_handlersGo_129 (fun r_18 s_19 H locs h hP hD hS => ?_)
                  exact J_132 s_19 x1j129 x2j129 x2j129k x4j129 x6j129 r_18 H locs h hP hD hS ls (lv_sub hl [0, 1, 2, 3, 4] rfl)
                refine lv_icmp_ne (tgt := 127) G.1 G.2.1 d_Ck_handlersGo_119 (by decide) (fun c119 => ?_) (fun c119 => ?_)
                · skip
                  have h := h.1 c119
                  refine W.eq (g2 := F0 m 127 ls [.int x_17, .ref (ad a0)]) rfl ?_
                  refine lv_iload G.1 G.2.1 d_Ck_handlersGo_127 (lv_at hl 0 rfl) ?_
                  exact J_129 s_h58 x1h58 x2h58 x2h58k x4h58 x6h58 x_17 x_16 H locs h hP hD hS ls (lv_sub hl [1, 2, 3, 4, 6] rfl)
                · skip
                  have h := h.2 c119
                  refine W.eq (g2 := F0 m 122 ls [.int x_17, .ref (ad a0)]) rfl ?_
                  refine lv_bipush (v := 10) G.1 G.2.1 d_Ck_handlersGo_122 (by decide) ?_
                  refine lv_goto (tgt := 129) G.1 G.2.1 d_Ck_handlersGo_124 (by decide) ?_
                  exact J_129 s_h58 x1h58 x2h58 x2h58k x4h58 x6h58 x_17 10 H locs h hP hD hS ls (lv_sub hl [1, 2, 3, 4, 6] rfl)
              · skip
                have h := h.2 c100
                refine lv_bipush (v := 30) G.1 G.2.1 d_Ck_handlersGo_103 (by decide) ?_
                refine lv_goto (tgt := 132) G.1 G.2.1 d_Ck_handlersGo_105 (by decide) ?_
                exact J_132 s_h58 x1h58 x2h58 x2h58k x4h58 x6h58 30 H locs h hP hD hS ls (lv_sub hl [1, 2, 3, 4, 6] rfl)
  exact L_58 _ s_13 v1 (lk b_1 11) 0 (r_7 + (r_12 * 4)) 0 r_7 (Nat.lt_succ_self _) hI_58 H locs hP hD hS ls (lv_sub hl [5, 6, 4, 2, 1, 0] rfl)
def y_Ck_tellNumbers : MethodName := ⟨"ClassWorks$Checker", "tellNumbers", "()V"⟩
abbrev b_Ck_tellNumbers : ByteArray := prog_2_method_35_code
theorem d_Ck_tellNumbers_0 : decode b_Ck_tellNumbers 0 = .ok (.iconst 0, 1) := by decide +kernel
theorem d_Ck_tellNumbers_1 : decode b_Ck_tellNumbers 1 = .ok (.istore_n 1, 1) := by decide +kernel
theorem d_Ck_tellNumbers_2 : decode b_Ck_tellNumbers 2 = .ok (.iload_n 1, 1) := by decide +kernel
theorem d_Ck_tellNumbers_3 : decode b_Ck_tellNumbers 3 = .ok (.aload_n 0, 1) := by decide +kernel
theorem d_Ck_tellNumbers_4 : decode b_Ck_tellNumbers 4 = .ok (.getfield 68, 3) := by decide +kernel
theorem d_Ck_tellNumbers_7 : decode b_Ck_tellNumbers 7 = .ok (.bipush 40, 2) := by decide +kernel
theorem d_Ck_tellNumbers_9 : decode b_Ck_tellNumbers 9 = .ok (.imul, 1) := by decide +kernel
theorem d_Ck_tellNumbers_10 : decode b_Ck_tellNumbers 10 = .ok (.if_icmp .ge 64, 3) := by decide +kernel
theorem d_Ck_tellNumbers_13 : decode b_Ck_tellNumbers 13 = .ok (.aload_n 0, 1) := by decide +kernel
theorem d_Ck_tellNumbers_14 : decode b_Ck_tellNumbers 14 = .ok (.getfield 62, 3) := by decide +kernel
theorem d_Ck_tellNumbers_17 : decode b_Ck_tellNumbers 17 = .ok (.iload_n 1, 1) := by decide +kernel
theorem d_Ck_tellNumbers_18 : decode b_Ck_tellNumbers 18 = .ok (.iaload, 1) := by decide +kernel
theorem d_Ck_tellNumbers_19 : decode b_Ck_tellNumbers 19 = .ok (.istore_n 2, 1) := by decide +kernel
theorem d_Ck_tellNumbers_20 : decode b_Ck_tellNumbers 20 = .ok (.iload_n 2, 1) := by decide +kernel
theorem d_Ck_tellNumbers_21 : decode b_Ck_tellNumbers 21 = .ok (.ifCond .ge 13, 3) := by decide +kernel
theorem d_Ck_tellNumbers_24 : decode b_Ck_tellNumbers 24 = .ok (.aload_n 0, 1) := by decide +kernel
theorem d_Ck_tellNumbers_25 : decode b_Ck_tellNumbers 25 = .ok (.getfield 62, 3) := by decide +kernel
theorem d_Ck_tellNumbers_28 : decode b_Ck_tellNumbers 28 = .ok (.iload_n 1, 1) := by decide +kernel
theorem d_Ck_tellNumbers_29 : decode b_Ck_tellNumbers 29 = .ok (.iconst 5, 1) := by decide +kernel
theorem d_Ck_tellNumbers_30 : decode b_Ck_tellNumbers 30 = .ok (.iastore, 1) := by decide +kernel
theorem d_Ck_tellNumbers_31 : decode b_Ck_tellNumbers 31 = .ok (.goto 37, 3) := by decide +kernel
theorem d_Ck_tellNumbers_34 : decode b_Ck_tellNumbers 34 = .ok (.iload_n 2, 1) := by decide +kernel
theorem d_Ck_tellNumbers_35 : decode b_Ck_tellNumbers 35 = .ok (.bipush 9, 2) := by decide +kernel
theorem d_Ck_tellNumbers_37 : decode b_Ck_tellNumbers 37 = .ok (.if_icmp .lt 31, 3) := by decide +kernel
theorem d_Ck_tellNumbers_40 : decode b_Ck_tellNumbers 40 = .ok (.aload_n 0, 1) := by decide +kernel
theorem d_Ck_tellNumbers_41 : decode b_Ck_tellNumbers 41 = .ok (.getfield 78, 3) := by decide +kernel
theorem d_Ck_tellNumbers_44 : decode b_Ck_tellNumbers 44 = .ok (.iload_n 2, 1) := by decide +kernel
theorem d_Ck_tellNumbers_45 : decode b_Ck_tellNumbers 45 = .ok (.invokevirtual 255, 3) := by decide +kernel
theorem d_Ck_tellNumbers_48 : decode b_Ck_tellNumbers 48 = .ok (.istore_n 3, 1) := by decide +kernel
theorem d_Ck_tellNumbers_49 : decode b_Ck_tellNumbers 49 = .ok (.aload_n 0, 1) := by decide +kernel
theorem d_Ck_tellNumbers_50 : decode b_Ck_tellNumbers 50 = .ok (.getfield 62, 3) := by decide +kernel
theorem d_Ck_tellNumbers_53 : decode b_Ck_tellNumbers 53 = .ok (.iload_n 1, 1) := by decide +kernel
theorem d_Ck_tellNumbers_54 : decode b_Ck_tellNumbers 54 = .ok (.iload_n 3, 1) := by decide +kernel
theorem d_Ck_tellNumbers_55 : decode b_Ck_tellNumbers 55 = .ok (.ifCond .ge 8, 3) := by decide +kernel
theorem d_Ck_tellNumbers_58 : decode b_Ck_tellNumbers 58 = .ok (.bipush 99, 2) := by decide +kernel
theorem d_Ck_tellNumbers_60 : decode b_Ck_tellNumbers 60 = .ok (.goto 7, 3) := by decide +kernel
theorem d_Ck_tellNumbers_63 : decode b_Ck_tellNumbers 63 = .ok (.bipush 100, 2) := by decide +kernel
theorem d_Ck_tellNumbers_65 : decode b_Ck_tellNumbers 65 = .ok (.iload_n 3, 1) := by decide +kernel
theorem d_Ck_tellNumbers_66 : decode b_Ck_tellNumbers 66 = .ok (.iadd, 1) := by decide +kernel
theorem d_Ck_tellNumbers_67 : decode b_Ck_tellNumbers 67 = .ok (.iastore, 1) := by decide +kernel
theorem d_Ck_tellNumbers_68 : decode b_Ck_tellNumbers 68 = .ok (.iinc 1 1, 3) := by decide +kernel
theorem d_Ck_tellNumbers_71 : decode b_Ck_tellNumbers 71 = .ok (.goto (-69), 3) := by decide +kernel
theorem d_Ck_tellNumbers_74 : decode b_Ck_tellNumbers 74 = .ok (.return_, 1) := by decide +kernel
abbrev ru_Ck_tellNumbers : Room := { frames := 1, cells := 0, slots := 0, locals := 21 }
def wj_Ck_tellNumbers_68 (y : Ly) (Post : St → Prop) (K_2 : St → Int32 → Prop) (a0 : Nat) (s_j68 : St) (x1j68 : Int32) : Prop := K_2 s_j68 (x1j68 + 1)
def wj_Ck_tellNumbers_67 (y : Ly) (Post : St → Prop) (K_2 : St → Int32 → Prop) (a0 : Nat) (s_j67 : St) (x1j67 : Int32) (z1j67 : Int32) (z2j67 : Int32) : Prop := xS y s_j67 a0 18 z1j67 z2j67 (fun s_7 : St => wj_Ck_tellNumbers_68 y Post K_2 a0 s_7 x1j67)
def wb_Ck_tellNumbers_2 (y : Ly) (Post : St → Prop) (K_2 : St → Int32 → Prop) (a0 : Nat) (s_h2 : St) (x1h2 : Int32) : Prop := ((((sV s_h2 a0 20) * 40) ≤ x1h2 → Post s_h2) ∧ (¬ (((sV s_h2 a0 20) * 40) ≤ x1h2) → xA y s_h2 a0 18 x1h2 (fun x_1 : Int32 => ((0 ≤ x_1 → ((x_1 < 9 → wj_Ck_tellNumbers_68 y Post K_2 a0 s_h2 x1h2) ∧ (¬ (x_1 < 9) → ∃ b_2 : Nat, sO s_h2 a0 3 = some b_2 ∧ cl b_2 = 9 ∧ wu_Wd_number y (fun (s_6 : St) (r_5 : Int32) => ((0 ≤ r_5 → wj_Ck_tellNumbers_67 y Post K_2 a0 s_6 x1h2 x1h2 (100 + r_5)) ∧ (¬ (0 ≤ r_5) → wj_Ck_tellNumbers_67 y Post K_2 a0 s_6 x1h2 x1h2 99))) s_h2 b_2 x_1))) ∧ (¬ (0 ≤ x_1) → xS y s_h2 a0 18 x1h2 5 (fun s_8 : St => wj_Ck_tellNumbers_68 y Post K_2 a0 s_8 x1h2))))))
def wl_Ck_tellNumbers_2 (y : Ly) (Post : St → Prop) (a0 : Nat) (s_h2 : St) (x1h2 : Int32) : Prop := ∃ (I : St → Int32 → Prop) (μ : St → Int32 → Nat), I s_h2 x1h2 ∧ ∀ (u : St) (t0 : Int32), I u t0 → wb_Ck_tellNumbers_2 y Post (fun z t0q => I z t0q ∧ μ z t0q < μ u t0) a0 u t0
def wu_Ck_tellNumbers (y : Ly) (Post : St → Prop) (σ : St) (a0 : Nat) : Prop := wl_Ck_tellNumbers_2 y Post a0 σ 0
set_option maxHeartbeats 4000000 in
set_option maxRecDepth 100000 in
theorem cu_Ck_tellNumbers (l : Launch) (D : va_G) (g : Nat → ClassId) (ad : Nat → Nat) (y : Ly) (Post : St → Prop) (σ : St) (a0 : Nat) (sz : Nat) (h_a0 : cl a0 = 0) (h : wu_Ck_tellNumbers y Post σ a0) : Met l y_Ck_tellNumbers (mw y_Ck_tellNumbers b_Ck_tellNumbers 4 (none)) ru_Ck_tellNumbers (PC g D [] [.ref (ad a0)] sz (ws g ad y σ)) (va_Qv (fun u : St => Post u) (QW D (va_A (ws g ad y σ) sz) (fun u => ws g ad y u)) (va_A (ws g ad y σ) sz)) 0 0 (va_A (ws g ad y σ) sz) := by
  refine ofV (by decide +kernel) (Nat.le_of_ble_eq_true rfl) ?_
  intro p e s m args below meth c A Q ls H locs G hsz hP hD hS hl hret
  subst hsz
  have hl : lv_has ls 4 [(0, .ref (ad a0))] := hl
  unfold wu_Ck_tellNumbers at h
  refine lv_iconst (v := 0) G.1 G.2.1 d_Ck_tellNumbers_0 (by decide) ?_
  refine lv_istore_n (lv' := [(1, .int 0), (0, .ref (ad a0))]) G.1 G.2.1 d_Ck_tellNumbers_1 rfl hl (by decide) rfl (fun ls hl => ?_)
  unfold wl_Ck_tellNumbers_2 at h
  obtain ⟨I_2, μ_2, hI_2, hB_2⟩ := h
  have L_2 : ∀ (n_2 : Nat) (s_h2 : St) (x1h2 : Int32), μ_2 s_h2 x1h2 < n_2 → I_2 s_h2 x1h2 → ∀ (H : Heap) (locs : List Loc), va_P D CL (ws g ad y s_h2) H → va_D A (ws g ad y s_h2) → va_S A s.heap H locs → ∀ ls, lv_has ls 4 [(0, .ref (ad a0)), (1, .int x1h2)] → W p l e ru_Ck_tellNumbers s m args below meth c H locs 0 0 Q (F0 m 2 ls []) := by
    intro n_2
    induction n_2 with
    | zero => intro s_h2 x1h2 hμ; exact absurd hμ (Nat.not_lt_zero _)
    | succ n_2 ih_2 =>
      intro s_h2 x1h2 hμ_2 hJ H locs hP hD hS ls hl
      obtain ⟨K_2, hK_2, h⟩ : ∃ K : St → Int32 → Prop, (∀ z (t0 : Int32), K z t0 → I_2 z t0 ∧ μ_2 z t0 < μ_2 s_h2 x1h2) ∧ wb_Ck_tellNumbers_2 y Post K a0 s_h2 x1h2 := ⟨_, fun _ _ h => h, hB_2 s_h2 x1h2 hJ⟩
      unfold wb_Ck_tellNumbers_2 at h
      refine lv_iload_n G.1 G.2.1 d_Ck_tellNumbers_2 rfl (lv_at hl 1 rfl) ?_
      refine lv_aload_n G.1 G.2.1 d_Ck_tellNumbers_3 rfl (lv_at hl 0 rfl) ?_
      refine ugf (v := .int (sV s_h2 a0 20)) G hP h_a0 iCk rfl 20 (by decide) rfl q671 rfl rfl d_Ck_tellNumbers_4 ?_
      refine lv_bipush (v := 40) G.1 G.2.1 d_Ck_tellNumbers_7 (by decide) ?_
      refine lv_imul G.1 G.2.1 d_Ck_tellNumbers_9 ?_
      refine lv_icmp_ge (tgt := 74) G.1 G.2.1 d_Ck_tellNumbers_10 (by decide) (fun c10 => ?_) (fun c10 => ?_)
      · skip
        have h := h.1 c10
        exact hret _ _ _ _ _ _ ls h hP hD hS (Nat.le_refl _) (Nat.le_refl _) d_Ck_tellNumbers_74
      · skip
        have h := h.2 c10
        refine lv_aload_n G.1 G.2.1 d_Ck_tellNumbers_13 rfl (lv_at hl 0 rfl) ?_
        refine ugf (v := .ref (yP y a0 18)) G hP h_a0 iCk rfl 18 (by decide) rfl q669 rfl rfl d_Ck_tellNumbers_14 ?_
        refine lv_iload_n G.1 G.2.1 d_Ck_tellNumbers_17 rfl (lv_at hl 1 rfl) ?_
        refine uiald G hP (kdp h_a0 rfl) (typ h_a0 rfl) h d_Ck_tellNumbers_18 (fun x_1 h => ?_)
        refine lv_istore_n (lv' := [(2, .int x_1), (0, .ref (ad a0)), (1, .int x1h2)]) G.1 G.2.1 d_Ck_tellNumbers_19 rfl hl (by decide) rfl (fun ls hl => ?_)
        refine W.eq (g2 := F0 m 20 ls []) rfl ?_
        refine lv_iload_n G.1 G.2.1 d_Ck_tellNumbers_20 rfl (lv_at hl 0 rfl) ?_
        have J_68 : ∀ (s_j68 : St) (x1j68 : Int32) (H : Heap) (locs : List Loc), wj_Ck_tellNumbers_68 y Post K_2 a0 s_j68 x1j68 → va_P D CL (ws g ad y s_j68) H → va_D A (ws g ad y s_j68) → va_S A s.heap H locs → ∀ ls, lv_has ls 4 [(0, .ref (ad a0)), (1, .int x1j68)] → W p l e ru_Ck_tellNumbers s m args below meth c H locs 0 0 Q (F0 m 68 ls []) := by
          intro s_j68 x1j68 H locs h hP hD hS ls hl
          unfold wj_Ck_tellNumbers_68 at h
          refine lv_iinc (v := x1j68 + 1) (lv' := [(1, .int (x1j68 + 1)), (0, .ref (ad a0))]) G.1 G.2.1 d_Ck_tellNumbers_68 hl (k := 1) rfl rfl (by decide) rfl (fun ls hl => ?_)
          refine lv_goto (tgt := 2) G.1 G.2.1 d_Ck_tellNumbers_71 (by decide) ?_
          have h := hK_2 s_j68 (x1j68 + 1) h
          exact ih_2 s_j68 (x1j68 + 1) (Nat.lt_of_lt_of_le h.2 (Nat.le_of_lt_succ hμ_2)) h.1 H locs hP hD hS ls (lv_sub hl [1, 0] rfl)
        refine lv_if_ge (tgt := 34) G.1 G.2.1 d_Ck_tellNumbers_21 (by decide) (fun c21 => ?_) (fun c21 => ?_)
        · skip
          have h := h.1 c21
          refine lv_iload_n G.1 G.2.1 d_Ck_tellNumbers_34 rfl (lv_at hl 0 rfl) ?_
          refine lv_bipush (v := 9) G.1 G.2.1 d_Ck_tellNumbers_35 (by decide) ?_
          refine lv_icmp_lt (tgt := 68) G.1 G.2.1 d_Ck_tellNumbers_37 (by decide) (fun c37 => ?_) (fun c37 => ?_)
          · skip
            have h := h.1 c37
            exact J_68 s_h2 x1h2 H locs h hP hD hS ls (lv_sub hl [1, 2] rfl)
          · skip
            have h := h.2 c37
            refine lv_aload_n G.1 G.2.1 d_Ck_tellNumbers_40 rfl (lv_at hl 1 rfl) ?_
            obtain ⟨b_2, e_3, c_4, h⟩ := h
            refine ugf (v := .ref (ad b_2)) G hP h_a0 iCk rfl 3 (by decide) rfl q654 rfl (by show va_rf ((sO s_h2 a0 3).map ad) = _; rw [e_3]; rfl) d_Ck_tellNumbers_41 ?_
            refine lv_iload_n G.1 G.2.1 d_Ck_tellNumbers_44 rfl (lv_at hl 0 rfl) ?_
            refine ucVi (As := [.int x_1]) (rest := []) G hP hD hS (cu_Wd_number l D g ad y _ s_h2 b_2 x_1 H.size c_4 h) w9_Wd_number q2291 ⟨Nat.le_of_ble_eq_true rfl, Nat.le_of_ble_eq_true rfl⟩ rfl rfl c_4 (q := (RWd, TWd, 17)) rfl rfl hl.1 rfl (Nat.le_of_ble_eq_true rfl) rfl ⟨Nat.le_refl _, Nat.le_refl _⟩ d_Ck_tellNumbers_45 (fun r_5 s_6 H locs h hP hD hS => ?_)
            refine lv_istore_n (lv' := [(3, .int r_5), (2, .int x_1), (0, .ref (ad a0)), (1, .int x1h2)]) G.1 G.2.1 d_Ck_tellNumbers_48 rfl hl (by decide) rfl (fun ls hl => ?_)
            refine lv_aload_n G.1 G.2.1 d_Ck_tellNumbers_49 rfl (lv_at hl 2 rfl) ?_
            refine ugf (v := .ref (yP y a0 18)) G hP h_a0 iCk rfl 18 (by decide) rfl q669 rfl rfl d_Ck_tellNumbers_50 ?_
            refine W.eq (g2 := F0 m 53 ls [.ref (yP y a0 18)]) rfl ?_
            refine lv_iload_n G.1 G.2.1 d_Ck_tellNumbers_53 rfl (lv_at hl 3 rfl) ?_
            refine lv_iload_n G.1 G.2.1 d_Ck_tellNumbers_54 rfl (lv_at hl 0 rfl) ?_
            have J_67 : ∀ (s_j67 : St) (x1j67 : Int32) (z1j67 : Int32) (z2j67 : Int32) (H : Heap) (locs : List Loc), wj_Ck_tellNumbers_67 y Post K_2 a0 s_j67 x1j67 z1j67 z2j67 → va_P D CL (ws g ad y s_j67) H → va_D A (ws g ad y s_j67) → va_S A s.heap H locs → ∀ ls, lv_has ls 4 [(0, .ref (ad a0)), (1, .int x1j67)] → W p l e ru_Ck_tellNumbers s m args below meth c H locs 0 0 Q (F0 m 67 ls [.int z2j67, .int z1j67, .ref (yP y a0 18)]) := by
              intro s_j67 x1j67 z1j67 z2j67 H locs h hP hD hS ls hl
              unfold wj_Ck_tellNumbers_67 at h
              refine uiast G hP hD hS (kdp h_a0 rfl) (typ h_a0 rfl) h d_Ck_tellNumbers_67 (fun s_7 H locs h hP hD hS => ?_)
              exact J_68 s_7 x1j67 H locs h hP hD hS ls (lv_sub hl [0, 1] rfl)
            refine lv_if_ge (tgt := 63) G.1 G.2.1 d_Ck_tellNumbers_55 (by decide) (fun c55 => ?_) (fun c55 => ?_)
            · skip
              have h := h.1 c55
              refine lv_bipush (v := 100) G.1 G.2.1 d_Ck_tellNumbers_63 (by decide) ?_
              refine lv_iload_n G.1 G.2.1 d_Ck_tellNumbers_65 rfl (lv_at hl 0 rfl) ?_
              refine lv_iadd G.1 G.2.1 d_Ck_tellNumbers_66 ?_
              exact J_67 s_6 x1h2 x1h2 (100 + r_5) H locs h hP hD hS ls (lv_sub hl [2, 3] rfl)
            · skip
              have h := h.2 c55
              refine lv_bipush (v := 99) G.1 G.2.1 d_Ck_tellNumbers_58 (by decide) ?_
              refine lv_goto (tgt := 67) G.1 G.2.1 d_Ck_tellNumbers_60 (by decide) ?_
              exact J_67 s_6 x1h2 x1h2 99 H locs h hP hD hS ls (lv_sub hl [2, 3] rfl)
        · skip
          have h := h.2 c21
          refine lv_aload_n G.1 G.2.1 d_Ck_tellNumbers_24 rfl (lv_at hl 1 rfl) ?_
          refine ugf (v := .ref (yP y a0 18)) G hP h_a0 iCk rfl 18 (by decide) rfl q669 rfl rfl d_Ck_tellNumbers_25 ?_
          refine lv_iload_n G.1 G.2.1 d_Ck_tellNumbers_28 rfl (lv_at hl 2 rfl) ?_
          refine lv_iconst (v := 5) G.1 G.2.1 d_Ck_tellNumbers_29 (by decide) ?_
          refine uiast G hP hD hS (kdp h_a0 rfl) (typ h_a0 rfl) h d_Ck_tellNumbers_30 (fun s_8 H locs h hP hD hS => ?_)
          refine lv_goto (tgt := 68) G.1 G.2.1 d_Ck_tellNumbers_31 (by decide) ?_
          exact J_68 s_8 x1h2 H locs h hP hD hS ls (lv_sub hl [1, 2] rfl)
  exact L_2 _ σ 0 (Nat.lt_succ_self _) hI_2 H locs hP hD hS ls (lv_sub hl [1, 0] rfl)
def y_Ck_toldKind : MethodName := ⟨"ClassWorks$Checker", "toldKind", "(II)I"⟩
abbrev b_Ck_toldKind : ByteArray := prog_2_method_36_code
theorem d_Ck_toldKind_0 : decode b_Ck_toldKind 0 = .ok (.iload_n 1, 1) := by decide +kernel
theorem d_Ck_toldKind_1 : decode b_Ck_toldKind 1 = .ok (.ifCond .lt 31, 3) := by decide +kernel
theorem d_Ck_toldKind_4 : decode b_Ck_toldKind 4 = .ok (.iload_n 1, 1) := by decide +kernel
theorem d_Ck_toldKind_5 : decode b_Ck_toldKind 5 = .ok (.aload_n 0, 1) := by decide +kernel
theorem d_Ck_toldKind_6 : decode b_Ck_toldKind 6 = .ok (.getfield 68, 3) := by decide +kernel
theorem d_Ck_toldKind_9 : decode b_Ck_toldKind 9 = .ok (.if_icmp .ge 23, 3) := by decide +kernel
theorem d_Ck_toldKind_12 : decode b_Ck_toldKind 12 = .ok (.aload_n 0, 1) := by decide +kernel
theorem d_Ck_toldKind_13 : decode b_Ck_toldKind 13 = .ok (.getfield 65, 3) := by decide +kernel
theorem d_Ck_toldKind_16 : decode b_Ck_toldKind 16 = .ok (.iload_n 1, 1) := by decide +kernel
theorem d_Ck_toldKind_17 : decode b_Ck_toldKind 17 = .ok (.iaload, 1) := by decide +kernel
theorem d_Ck_toldKind_18 : decode b_Ck_toldKind 18 = .ok (.ifCond .lt 14, 3) := by decide +kernel
theorem d_Ck_toldKind_21 : decode b_Ck_toldKind 21 = .ok (.iload_n 2, 1) := by decide +kernel
theorem d_Ck_toldKind_22 : decode b_Ck_toldKind 22 = .ok (.iconst (-1), 1) := by decide +kernel
theorem d_Ck_toldKind_23 : decode b_Ck_toldKind 23 = .ok (.if_icmp .lt 9, 3) := by decide +kernel
theorem d_Ck_toldKind_26 : decode b_Ck_toldKind 26 = .ok (.iload_n 2, 1) := by decide +kernel
theorem d_Ck_toldKind_27 : decode b_Ck_toldKind 27 = .ok (.bipush 40, 2) := by decide +kernel
theorem d_Ck_toldKind_29 : decode b_Ck_toldKind 29 = .ok (.if_icmp .lt 5, 3) := by decide +kernel
theorem d_Ck_toldKind_32 : decode b_Ck_toldKind 32 = .ok (.iconst (-1), 1) := by decide +kernel
theorem d_Ck_toldKind_33 : decode b_Ck_toldKind 33 = .ok (.ireturn, 1) := by decide +kernel
theorem d_Ck_toldKind_34 : decode b_Ck_toldKind 34 = .ok (.iload_n 2, 1) := by decide +kernel
theorem d_Ck_toldKind_35 : decode b_Ck_toldKind 35 = .ok (.iconst (-1), 1) := by decide +kernel
theorem d_Ck_toldKind_36 : decode b_Ck_toldKind 36 = .ok (.if_icmp .ne 10, 3) := by decide +kernel
theorem d_Ck_toldKind_39 : decode b_Ck_toldKind 39 = .ok (.aload_n 0, 1) := by decide +kernel
theorem d_Ck_toldKind_40 : decode b_Ck_toldKind 40 = .ok (.getfield 65, 3) := by decide +kernel
theorem d_Ck_toldKind_43 : decode b_Ck_toldKind 43 = .ok (.iload_n 1, 1) := by decide +kernel
theorem d_Ck_toldKind_44 : decode b_Ck_toldKind 44 = .ok (.iaload, 1) := by decide +kernel
theorem d_Ck_toldKind_45 : decode b_Ck_toldKind 45 = .ok (.ireturn, 1) := by decide +kernel
theorem d_Ck_toldKind_46 : decode b_Ck_toldKind 46 = .ok (.iload_n 2, 1) := by decide +kernel
theorem d_Ck_toldKind_47 : decode b_Ck_toldKind 47 = .ok (.bipush 20, 2) := by decide +kernel
theorem d_Ck_toldKind_49 : decode b_Ck_toldKind 49 = .ok (.if_icmp .ge 19, 3) := by decide +kernel
theorem d_Ck_toldKind_52 : decode b_Ck_toldKind 52 = .ok (.iload_n 2, 1) := by decide +kernel
theorem d_Ck_toldKind_53 : decode b_Ck_toldKind 53 = .ok (.aload_n 0, 1) := by decide +kernel
theorem d_Ck_toldKind_54 : decode b_Ck_toldKind 54 = .ok (.getfield 71, 3) := by decide +kernel
theorem d_Ck_toldKind_57 : decode b_Ck_toldKind 57 = .ok (.if_icmp .ge 7, 3) := by decide +kernel
theorem d_Ck_toldKind_60 : decode b_Ck_toldKind 60 = .ok (.iconst 1, 1) := by decide +kernel
theorem d_Ck_toldKind_61 : decode b_Ck_toldKind 61 = .ok (.goto 25, 3) := by decide +kernel
theorem d_Ck_toldKind_64 : decode b_Ck_toldKind 64 = .ok (.iconst 0, 1) := by decide +kernel
theorem d_Ck_toldKind_65 : decode b_Ck_toldKind 65 = .ok (.goto 21, 3) := by decide +kernel
theorem d_Ck_toldKind_68 : decode b_Ck_toldKind 68 = .ok (.iload_n 2, 1) := by decide +kernel
theorem d_Ck_toldKind_69 : decode b_Ck_toldKind 69 = .ok (.bipush 20, 2) := by decide +kernel
theorem d_Ck_toldKind_71 : decode b_Ck_toldKind 71 = .ok (.isub, 1) := by decide +kernel
theorem d_Ck_toldKind_72 : decode b_Ck_toldKind 72 = .ok (.aload_n 0, 1) := by decide +kernel
theorem d_Ck_toldKind_73 : decode b_Ck_toldKind 73 = .ok (.getfield 65, 3) := by decide +kernel
theorem d_Ck_toldKind_76 : decode b_Ck_toldKind 76 = .ok (.iload_n 1, 1) := by decide +kernel
theorem d_Ck_toldKind_77 : decode b_Ck_toldKind 77 = .ok (.iaload, 1) := by decide +kernel
theorem d_Ck_toldKind_78 : decode b_Ck_toldKind 78 = .ok (.if_icmp .ge 7, 3) := by decide +kernel
theorem d_Ck_toldKind_81 : decode b_Ck_toldKind 81 = .ok (.iconst 1, 1) := by decide +kernel
theorem d_Ck_toldKind_82 : decode b_Ck_toldKind 82 = .ok (.goto 4, 3) := by decide +kernel
theorem d_Ck_toldKind_85 : decode b_Ck_toldKind 85 = .ok (.iconst 0, 1) := by decide +kernel
theorem d_Ck_toldKind_86 : decode b_Ck_toldKind 86 = .ok (.istore_n 3, 1) := by decide +kernel
theorem d_Ck_toldKind_87 : decode b_Ck_toldKind 87 = .ok (.iload_n 3, 1) := by decide +kernel
theorem d_Ck_toldKind_88 : decode b_Ck_toldKind 88 = .ok (.ifCond .eq 17, 3) := by decide +kernel
theorem d_Ck_toldKind_91 : decode b_Ck_toldKind 91 = .ok (.aload_n 0, 1) := by decide +kernel
theorem d_Ck_toldKind_92 : decode b_Ck_toldKind 92 = .ok (.getfield 62, 3) := by decide +kernel
theorem d_Ck_toldKind_95 : decode b_Ck_toldKind 95 = .ok (.iload_n 1, 1) := by decide +kernel
theorem d_Ck_toldKind_96 : decode b_Ck_toldKind 96 = .ok (.bipush 40, 2) := by decide +kernel
theorem d_Ck_toldKind_98 : decode b_Ck_toldKind 98 = .ok (.imul, 1) := by decide +kernel
theorem d_Ck_toldKind_99 : decode b_Ck_toldKind 99 = .ok (.iload_n 2, 1) := by decide +kernel
theorem d_Ck_toldKind_100 : decode b_Ck_toldKind 100 = .ok (.iadd, 1) := by decide +kernel
theorem d_Ck_toldKind_101 : decode b_Ck_toldKind 101 = .ok (.iaload, 1) := by decide +kernel
theorem d_Ck_toldKind_102 : decode b_Ck_toldKind 102 = .ok (.goto 4, 3) := by decide +kernel
theorem d_Ck_toldKind_105 : decode b_Ck_toldKind 105 = .ok (.iconst (-1), 1) := by decide +kernel
theorem d_Ck_toldKind_106 : decode b_Ck_toldKind 106 = .ok (.ireturn, 1) := by decide +kernel
abbrev ru_Ck_toldKind : Room := { frames := 0, cells := 0, slots := 0, locals := 0 }
def wj_Ck_toldKind_32 (y : Ly) (Post : St → Int32 → Prop) (a0 : Nat) (s_j32 : St) : Prop := Post s_j32 (-1)
def wj_Ck_toldKind_106 (y : Ly) (Post : St → Int32 → Prop) (a0 : Nat) (s_j106 : St) (z0j106 : Int32) : Prop := Post s_j106 z0j106
def wj_Ck_toldKind_86 (y : Ly) (Post : St → Int32 → Prop) (a0 : Nat) (s_j86 : St) (x1j86 : Int32) (x2j86 : Int32) (z0j86 : Int32) : Prop := ((z0j86 = 0 → wj_Ck_toldKind_106 y Post a0 s_j86 (-1)) ∧ (¬ (z0j86 = 0) → xA y s_j86 a0 18 ((x1j86 * 40) + x2j86) (fun x_2 : Int32 => wj_Ck_toldKind_106 y Post a0 s_j86 x_2)))
def wu_Ck_toldKind (y : Ly) (Post : St → Int32 → Prop) (σ : St) (a0 : Nat) (v1 : Int32) (v2 : Int32) : Prop := ((v1 < 0 → wj_Ck_toldKind_32 y Post a0 σ) ∧ (¬ (v1 < 0) → (((sV σ a0 20) ≤ v1 → wj_Ck_toldKind_32 y Post a0 σ) ∧ (¬ ((sV σ a0 20) ≤ v1) → xA y σ a0 19 v1 (fun x_1 : Int32 => ((x_1 < 0 → wj_Ck_toldKind_32 y Post a0 σ) ∧ (¬ (x_1 < 0) → ((v2 < (-1) → wj_Ck_toldKind_32 y Post a0 σ) ∧ (¬ (v2 < (-1)) → ((v2 < 40 → ((¬ v2 = (-1) → ((20 ≤ v2 → xA y σ a0 19 v1 (fun x_3 : Int32 => ((x_3 ≤ (v2 - 20) → wj_Ck_toldKind_86 y Post a0 σ v1 v2 0) ∧ (¬ (x_3 ≤ (v2 - 20)) → wj_Ck_toldKind_86 y Post a0 σ v1 v2 1)))) ∧ (¬ (20 ≤ v2) → (((sV σ a0 21) ≤ v2 → wj_Ck_toldKind_86 y Post a0 σ v1 v2 0) ∧ (¬ ((sV σ a0 21) ≤ v2) → wj_Ck_toldKind_86 y Post a0 σ v1 v2 1))))) ∧ (v2 = (-1) → xA y σ a0 19 v1 (fun x_4 : Int32 => Post σ x_4)))) ∧ (¬ (v2 < 40) → wj_Ck_toldKind_32 y Post a0 σ)))))))))))
set_option maxHeartbeats 4000000 in
set_option maxRecDepth 100000 in
theorem cu_Ck_toldKind (l : Launch) (D : va_G) (g : Nat → ClassId) (ad : Nat → Nat) (y : Ly) (Post : St → Int32 → Prop) (σ : St) (a0 : Nat) (v1 : Int32) (v2 : Int32) (sz : Nat) (h_a0 : cl a0 = 0) (h : wu_Ck_toldKind y Post σ a0 v1 v2) : Met l y_Ck_toldKind (mw y_Ck_toldKind b_Ck_toldKind 4 (some .int)) ru_Ck_toldKind (PC g D [] [.ref (ad a0), .int v1, .int v2] sz (ws g ad y σ)) (va_Qi (fun (r : Int32) (u : St) => Post u r) (QW D (va_A (ws g ad y σ) sz) (fun u => ws g ad y u)) (va_A (ws g ad y σ) sz)) 0 0 (va_A (ws g ad y σ) sz) := by
  refine ofI (by decide +kernel) (Nat.le_of_ble_eq_true rfl) ?_
  intro p e s m args below meth c A Q ls H locs G hsz hP hD hS hl hret
  subst hsz
  have hl : lv_has ls 4 [(0, .ref (ad a0)), (1, .int v1), (2, .int v2)] := hl
  unfold wu_Ck_toldKind at h
  refine lv_iload_n G.1 G.2.1 d_Ck_toldKind_0 rfl (lv_at hl 1 rfl) ?_
  have J_32 : ∀ (s_j32 : St) (H : Heap) (locs : List Loc), wj_Ck_toldKind_32 y Post a0 s_j32 → va_P D CL (ws g ad y s_j32) H → va_D A (ws g ad y s_j32) → va_S A s.heap H locs → ∀ ls, lv_has ls 4 [] → W p l e ru_Ck_toldKind s m args below meth c H locs 0 0 Q (F0 m 32 ls []) := by
    intro s_j32 H locs h hP hD hS ls hl
    unfold wj_Ck_toldKind_32 at h
    refine lv_iconst (v := (-1)) G.1 G.2.1 d_Ck_toldKind_32 (by decide) ?_
    exact hret _ _ _ _ _ _ _ ls h hP hD hS (Nat.le_refl _) (Nat.le_refl _) d_Ck_toldKind_33
  refine lv_if_lt (tgt := 32) G.1 G.2.1 d_Ck_toldKind_1 (by decide) (fun c1 => ?_) (fun c1 => ?_)
  · skip
    have h := h.1 c1
    exact J_32 σ H locs h hP hD hS ls (lv_sub hl [] rfl)
  · skip
    have h := h.2 c1
    refine lv_iload_n G.1 G.2.1 d_Ck_toldKind_4 rfl (lv_at hl 1 rfl) ?_
    refine lv_aload_n G.1 G.2.1 d_Ck_toldKind_5 rfl (lv_at hl 0 rfl) ?_
    refine ugf (v := .int (sV σ a0 20)) G hP h_a0 iCk rfl 20 (by decide) rfl q671 rfl rfl d_Ck_toldKind_6 ?_
    refine lv_icmp_ge (tgt := 32) G.1 G.2.1 d_Ck_toldKind_9 (by decide) (fun c9 => ?_) (fun c9 => ?_)
    · skip
      have h := h.1 c9
      exact J_32 σ H locs h hP hD hS ls (lv_sub hl [] rfl)
    · skip
      have h := h.2 c9
      refine lv_aload_n G.1 G.2.1 d_Ck_toldKind_12 rfl (lv_at hl 0 rfl) ?_
      refine ugf (v := .ref (yP y a0 19)) G hP h_a0 iCk rfl 19 (by decide) rfl q670 rfl rfl d_Ck_toldKind_13 ?_
      refine lv_iload_n G.1 G.2.1 d_Ck_toldKind_16 rfl (lv_at hl 1 rfl) ?_
      refine uiald G hP (kdp h_a0 rfl) (typ h_a0 rfl) h d_Ck_toldKind_17 (fun x_1 h => ?_)
      refine lv_if_lt (tgt := 32) G.1 G.2.1 d_Ck_toldKind_18 (by decide) (fun c18 => ?_) (fun c18 => ?_)
      · skip
        have h := h.1 c18
        exact J_32 σ H locs h hP hD hS ls (lv_sub hl [] rfl)
      · skip
        have h := h.2 c18
        refine W.eq (g2 := F0 m 21 ls []) rfl ?_
        refine lv_iload_n G.1 G.2.1 d_Ck_toldKind_21 rfl (lv_at hl 2 rfl) ?_
        refine lv_iconst (v := (-1)) G.1 G.2.1 d_Ck_toldKind_22 (by decide) ?_
        refine lv_icmp_lt (tgt := 32) G.1 G.2.1 d_Ck_toldKind_23 (by decide) (fun c23 => ?_) (fun c23 => ?_)
        · skip
          have h := h.1 c23
          exact J_32 σ H locs h hP hD hS ls (lv_sub hl [] rfl)
        · skip
          have h := h.2 c23
          refine lv_iload_n G.1 G.2.1 d_Ck_toldKind_26 rfl (lv_at hl 2 rfl) ?_
          refine lv_bipush (v := 40) G.1 G.2.1 d_Ck_toldKind_27 (by decide) ?_
          refine lv_icmp_lt (tgt := 34) G.1 G.2.1 d_Ck_toldKind_29 (by decide) (fun c29 => ?_) (fun c29 => ?_)
          · skip
            have h := h.1 c29
            refine lv_iload_n G.1 G.2.1 d_Ck_toldKind_34 rfl (lv_at hl 2 rfl) ?_
            refine lv_iconst (v := (-1)) G.1 G.2.1 d_Ck_toldKind_35 (by decide) ?_
            refine lv_icmp_ne (tgt := 46) G.1 G.2.1 d_Ck_toldKind_36 (by decide) (fun c36 => ?_) (fun c36 => ?_)
            · skip
              have h := h.1 c36
              refine lv_iload_n G.1 G.2.1 d_Ck_toldKind_46 rfl (lv_at hl 2 rfl) ?_
              refine lv_bipush (v := 20) G.1 G.2.1 d_Ck_toldKind_47 (by decide) ?_
              have J_86 : ∀ (s_j86 : St) (x1j86 : Int32) (x2j86 : Int32) (z0j86 : Int32) (H : Heap) (locs : List Loc), wj_Ck_toldKind_86 y Post a0 s_j86 x1j86 x2j86 z0j86 → va_P D CL (ws g ad y s_j86) H → va_D A (ws g ad y s_j86) → va_S A s.heap H locs → ∀ ls, lv_has ls 4 [(0, .ref (ad a0)), (1, .int x1j86), (2, .int x2j86)] → W p l e ru_Ck_toldKind s m args below meth c H locs 0 0 Q (F0 m 86 ls [.int z0j86]) := by
                intro s_j86 x1j86 x2j86 z0j86 H locs h hP hD hS ls hl
                unfold wj_Ck_toldKind_86 at h
                refine lv_istore_n (lv' := [(3, .int z0j86), (0, .ref (ad a0)), (1, .int x1j86), (2, .int x2j86)]) G.1 G.2.1 d_Ck_toldKind_86 rfl hl (by decide) rfl (fun ls hl => ?_)
                refine lv_iload_n G.1 G.2.1 d_Ck_toldKind_87 rfl (lv_at hl 0 rfl) ?_
                have J_106 : ∀ (s_j106 : St) (z0j106 : Int32) (H : Heap) (locs : List Loc), wj_Ck_toldKind_106 y Post a0 s_j106 z0j106 → va_P D CL (ws g ad y s_j106) H → va_D A (ws g ad y s_j106) → va_S A s.heap H locs → ∀ ls, lv_has ls 4 [] → W p l e ru_Ck_toldKind s m args below meth c H locs 0 0 Q (F0 m 106 ls [.int z0j106]) := by
                  intro s_j106 z0j106 H locs h hP hD hS ls hl
                  unfold wj_Ck_toldKind_106 at h
                  exact hret _ _ _ _ _ _ _ ls h hP hD hS (Nat.le_refl _) (Nat.le_refl _) d_Ck_toldKind_106
                refine lv_if_eq (tgt := 105) G.1 G.2.1 d_Ck_toldKind_88 (by decide) (fun c88 => ?_) (fun c88 => ?_)
                · skip
                  have h := h.1 c88
                  refine lv_iconst (v := (-1)) G.1 G.2.1 d_Ck_toldKind_105 (by decide) ?_
                  exact J_106 s_j86 (-1) H locs h hP hD hS ls (lv_sub hl [] rfl)
                · skip
                  have h := h.2 c88
                  refine lv_aload_n G.1 G.2.1 d_Ck_toldKind_91 rfl (lv_at hl 1 rfl) ?_
                  refine ugf (v := .ref (yP y a0 18)) G hP h_a0 iCk rfl 18 (by decide) rfl q669 rfl rfl d_Ck_toldKind_92 ?_
                  refine lv_iload_n G.1 G.2.1 d_Ck_toldKind_95 rfl (lv_at hl 2 rfl) ?_
                  refine lv_bipush (v := 40) G.1 G.2.1 d_Ck_toldKind_96 (by decide) ?_
                  refine lv_imul G.1 G.2.1 d_Ck_toldKind_98 ?_
                  refine lv_iload_n G.1 G.2.1 d_Ck_toldKind_99 rfl (lv_at hl 3 rfl) ?_
                  refine lv_iadd G.1 G.2.1 d_Ck_toldKind_100 ?_
                  refine uiald G hP (kdp h_a0 rfl) (typ h_a0 rfl) h d_Ck_toldKind_101 (fun x_2 h => ?_)
                  refine W.eq (g2 := F0 m 102 ls [.int x_2]) rfl ?_
                  refine lv_goto (tgt := 106) G.1 G.2.1 d_Ck_toldKind_102 (by decide) ?_
                  exact J_106 s_j86 x_2 H locs h hP hD hS ls (lv_sub hl [] rfl)
              refine lv_icmp_ge (tgt := 68) G.1 G.2.1 d_Ck_toldKind_49 (by decide) (fun c49 => ?_) (fun c49 => ?_)
              · skip
                have h := h.1 c49
                refine W.eq (g2 := F0 m 68 ls []) rfl ?_
                refine lv_iload_n G.1 G.2.1 d_Ck_toldKind_68 rfl (lv_at hl 2 rfl) ?_
                refine lv_bipush (v := 20) G.1 G.2.1 d_Ck_toldKind_69 (by decide) ?_
                refine lv_isub G.1 G.2.1 d_Ck_toldKind_71 ?_
                refine lv_aload_n G.1 G.2.1 d_Ck_toldKind_72 rfl (lv_at hl 0 rfl) ?_
                refine ugf (v := .ref (yP y a0 19)) G hP h_a0 iCk rfl 19 (by decide) rfl q670 rfl rfl d_Ck_toldKind_73 ?_
                refine lv_iload_n G.1 G.2.1 d_Ck_toldKind_76 rfl (lv_at hl 1 rfl) ?_
                refine uiald G hP (kdp h_a0 rfl) (typ h_a0 rfl) h d_Ck_toldKind_77 (fun x_3 h => ?_)
                refine lv_icmp_ge (tgt := 85) G.1 G.2.1 d_Ck_toldKind_78 (by decide) (fun c78 => ?_) (fun c78 => ?_)
                · skip
                  have h := h.1 c78
                  refine lv_iconst (v := 0) G.1 G.2.1 d_Ck_toldKind_85 (by decide) ?_
                  exact J_86 σ v1 v2 0 H locs h hP hD hS ls (lv_sub hl [0, 1, 2] rfl)
                · skip
                  have h := h.2 c78
                  refine lv_iconst (v := 1) G.1 G.2.1 d_Ck_toldKind_81 (by decide) ?_
                  refine lv_goto (tgt := 86) G.1 G.2.1 d_Ck_toldKind_82 (by decide) ?_
                  exact J_86 σ v1 v2 1 H locs h hP hD hS ls (lv_sub hl [0, 1, 2] rfl)
              · skip
                have h := h.2 c49
                refine W.eq (g2 := F0 m 52 ls []) rfl ?_
                refine lv_iload_n G.1 G.2.1 d_Ck_toldKind_52 rfl (lv_at hl 2 rfl) ?_
                refine lv_aload_n G.1 G.2.1 d_Ck_toldKind_53 rfl (lv_at hl 0 rfl) ?_
                refine ugf (v := .int (sV σ a0 21)) G hP h_a0 iCk rfl 21 (by decide) rfl q672 rfl rfl d_Ck_toldKind_54 ?_
                refine lv_icmp_ge (tgt := 64) G.1 G.2.1 d_Ck_toldKind_57 (by decide) (fun c57 => ?_) (fun c57 => ?_)
                · skip
                  have h := h.1 c57
                  refine lv_iconst (v := 0) G.1 G.2.1 d_Ck_toldKind_64 (by decide) ?_
                  refine lv_goto (tgt := 86) G.1 G.2.1 d_Ck_toldKind_65 (by decide) ?_
                  exact J_86 σ v1 v2 0 H locs h hP hD hS ls (lv_sub hl [0, 1, 2] rfl)
                · skip
                  have h := h.2 c57
                  refine lv_iconst (v := 1) G.1 G.2.1 d_Ck_toldKind_60 (by decide) ?_
                  refine lv_goto (tgt := 86) G.1 G.2.1 d_Ck_toldKind_61 (by decide) ?_
                  exact J_86 σ v1 v2 1 H locs h hP hD hS ls (lv_sub hl [0, 1, 2] rfl)
            · skip
              have h := h.2 c36
              refine lv_aload_n G.1 G.2.1 d_Ck_toldKind_39 rfl (lv_at hl 0 rfl) ?_
              refine ugf (v := .ref (yP y a0 19)) G hP h_a0 iCk rfl 19 (by decide) rfl q670 rfl rfl d_Ck_toldKind_40 ?_
              refine lv_iload_n G.1 G.2.1 d_Ck_toldKind_43 rfl (lv_at hl 1 rfl) ?_
              refine W.eq (g2 := F0 m 44 ls [.int v1, .ref (yP y a0 19)]) rfl ?_
              refine uiald G hP (kdp h_a0 rfl) (typ h_a0 rfl) h d_Ck_toldKind_44 (fun x_4 h => ?_)
              exact hret _ _ _ _ _ _ _ ls h hP hD hS (Nat.le_refl _) (Nat.le_refl _) d_Ck_toldKind_45
          · skip
            have h := h.2 c29
            exact J_32 σ H locs h hP hD hS ls (lv_sub hl [] rfl)
theorem q1136 : Cond.fieldLink "ClassWorks" 88 "ClassWorks" "checker" "LClassWorks$Checker;" ∈ lw_ok := lw_okmem (List.mem_of_getElem? (i := 1136) (by decide +kernel)) rfl
theorem q2306 : Cond.methodLink "ClassWorks" 376 y_Ck_toldKind ∈ lw_ok := lw_okmem (List.mem_of_getElem? (i := 2306) (by decide +kernel)) rfl
theorem q2309 : Cond.code y_Ck_toldKind b_Ck_toldKind 4 (some .int) ∈ lw_ok := lw_okmem (List.mem_of_getElem? (i := 2309) (by decide +kernel)) rfl
theorem q2307 : Cond.instanceMethod y_Ck_toldKind ∈ lw_ok := lw_okmem (List.mem_of_getElem? (i := 2307) (by decide +kernel)) rfl
theorem q2308 : Cond.selects y_Ck_toldKind.cls y_Ck_toldKind y_Ck_toldKind ∈ lw_ok := lw_okmem (List.mem_of_getElem? (i := 2308) (by decide +kernel)) rfl
theorem w9_Ck_toldKind : CWv y_Ck_toldKind b_Ck_toldKind 4 (some .int) 2 ∧ Cond.instanceMethod y_Ck_toldKind ∈ lw_ok ∧ Cond.selects y_Ck_toldKind.cls y_Ck_toldKind y_Ck_toldKind ∈ lw_ok := ⟨⟨q2309, q341, by decide +kernel, by decide +kernel, by decide +kernel⟩, q2307, q2308⟩
def y_Cw_kind : MethodName := ⟨"ClassWorks", "kind", "(II)I"⟩
abbrev b_Cw_kind : ByteArray := prog_1_method_36_code
theorem d_Cw_kind_0 : decode b_Cw_kind 0 = .ok (.aload_n 0, 1) := by decide +kernel
theorem d_Cw_kind_1 : decode b_Cw_kind 1 = .ok (.getfield 88, 3) := by decide +kernel
theorem d_Cw_kind_4 : decode b_Cw_kind 4 = .ok (.iload_n 1, 1) := by decide +kernel
theorem d_Cw_kind_5 : decode b_Cw_kind 5 = .ok (.iload_n 2, 1) := by decide +kernel
theorem d_Cw_kind_6 : decode b_Cw_kind 6 = .ok (.invokevirtual 376, 3) := by decide +kernel
theorem d_Cw_kind_9 : decode b_Cw_kind 9 = .ok (.ireturn, 1) := by decide +kernel
abbrev ru_Cw_kind : Room := { frames := 1, cells := 0, slots := 0, locals := 23 }
def wu_Cw_kind (y : Ly) (Post : St → Int32 → Prop) (σ : St) (a0 : Nat) (v1 : Int32) (v2 : Int32) : Prop := wu_Ck_toldKind y (fun (s_2 : St) (r_1 : Int32) => Post s_2 r_1) σ (lk a0 2) v1 v2
set_option maxHeartbeats 4000000 in
set_option maxRecDepth 100000 in
theorem cu_Cw_kind (l : Launch) (D : va_G) (g : Nat → ClassId) (ad : Nat → Nat) (y : Ly) (Post : St → Int32 → Prop) (σ : St) (a0 : Nat) (v1 : Int32) (v2 : Int32) (sz : Nat) (h_a0 : cl a0 = 11) (h : wu_Cw_kind y Post σ a0 v1 v2) : Met l y_Cw_kind (mw y_Cw_kind b_Cw_kind 3 (some .int)) ru_Cw_kind (PC g D [] [.ref (ad a0), .int v1, .int v2] sz (ws g ad y σ)) (va_Qi (fun (r : Int32) (u : St) => Post u r) (QW D (va_A (ws g ad y σ) sz) (fun u => ws g ad y u)) (va_A (ws g ad y σ) sz)) 0 0 (va_A (ws g ad y σ) sz) := by
  refine ofI (by decide +kernel) (Nat.le_of_ble_eq_true rfl) ?_
  intro p e s m args below meth c A Q ls H locs G hsz hP hD hS hl hret
  subst hsz
  have hl : lv_has ls 3 [(0, .ref (ad a0)), (1, .int v1), (2, .int v2)] := hl
  unfold wu_Cw_kind at h
  refine lv_aload_n G.1 G.2.1 d_Cw_kind_0 rfl (lv_at hl 0 rfl) ?_
  refine ugf (v := .ref (ad (lk a0 2))) G hP h_a0 iCw rfl 2 (by decide) rfl q1136 rfl rfl d_Cw_kind_1 ?_
  refine lv_iload_n G.1 G.2.1 d_Cw_kind_4 rfl (lv_at hl 1 rfl) ?_
  refine lv_iload_n G.1 G.2.1 d_Cw_kind_5 rfl (lv_at hl 2 rfl) ?_
  refine ucVi (As := [.int v1, .int v2]) (rest := []) G hP hD hS (cu_Ck_toldKind l D g ad y _ σ (lk a0 2) v1 v2 H.size (lk_11_2 h_a0) h) w9_Ck_toldKind q2306 ⟨Nat.le_of_ble_eq_true rfl, Nat.le_of_ble_eq_true rfl⟩ rfl rfl (lk_11_2 h_a0) (q := (RCk, TCk, 22)) rfl rfl hl.1 rfl (Nat.le_of_ble_eq_true rfl) rfl ⟨Nat.le_refl _, Nat.le_refl _⟩ d_Cw_kind_6 (fun r_1 s_2 H locs h hP hD hS => ?_)
  exact hret _ _ _ _ _ _ _ ls h hP hD hS (Nat.le_refl _) (Nat.le_refl _) d_Cw_kind_9
def y_Fi_find : MethodName := ⟨"ClassWorks$Finder", "find", "(LClassWorks$World;III)I"⟩
abbrev b_Fi_find : ByteArray := prog_3_method_11_code
theorem q2322 : Cond.methodLink "ClassWorks$Finder" 169 y_Wd_code ∈ lw_ok := lw_okmem (List.mem_of_getElem? (i := 2322) (by decide +kernel)) rfl
theorem q2325 : Cond.methodLink "ClassWorks$Finder" 182 y_Fi_findMethod ∈ lw_ok := lw_okmem (List.mem_of_getElem? (i := 2325) (by decide +kernel)) rfl
theorem q2324 : Cond.methodLink "ClassWorks$Finder" 178 y_Fi_findField ∈ lw_ok := lw_okmem (List.mem_of_getElem? (i := 2324) (by decide +kernel)) rfl
theorem q2323 : Cond.methodLink "ClassWorks$Finder" 175 y_Fi_findNew ∈ lw_ok := lw_okmem (List.mem_of_getElem? (i := 2323) (by decide +kernel)) rfl
theorem d_Fi_find_0 : decode b_Fi_find 0 = .ok (.aload_n 1, 1) := by decide +kernel
theorem d_Fi_find_1 : decode b_Fi_find 1 = .ok (.iload_n 2, 1) := by decide +kernel
theorem d_Fi_find_2 : decode b_Fi_find 2 = .ok (.iload_n 3, 1) := by decide +kernel
theorem d_Fi_find_3 : decode b_Fi_find 3 = .ok (.iload 4, 2) := by decide +kernel
theorem d_Fi_find_5 : decode b_Fi_find 5 = .ok (.invokevirtual 169, 3) := by decide +kernel
theorem d_Fi_find_8 : decode b_Fi_find 8 = .ok (.istore 5, 2) := by decide +kernel
theorem d_Fi_find_10 : decode b_Fi_find 10 = .ok (.aload_n 1, 1) := by decide +kernel
theorem d_Fi_find_11 : decode b_Fi_find 11 = .ok (.getfield 172, 3) := by decide +kernel
theorem d_Fi_find_14 : decode b_Fi_find 14 = .ok (.getfield 163, 3) := by decide +kernel
theorem d_Fi_find_17 : decode b_Fi_find 17 = .ok (.astore 6, 2) := by decide +kernel
theorem d_Fi_find_19 : decode b_Fi_find 19 = .ok (.aload 6, 2) := by decide +kernel
theorem d_Fi_find_21 : decode b_Fi_find 21 = .ok (.iload 5, 2) := by decide +kernel
theorem d_Fi_find_23 : decode b_Fi_find 23 = .ok (.iaload, 1) := by decide +kernel
theorem d_Fi_find_24 : decode b_Fi_find 24 = .ok (.istore 7, 2) := by decide +kernel
theorem d_Fi_find_26 : decode b_Fi_find 26 = .ok (.iload 7, 2) := by decide +kernel
theorem d_Fi_find_28 : decode b_Fi_find 28 = .ok (.bipush 41, 2) := by decide +kernel
theorem d_Fi_find_30 : decode b_Fi_find 30 = .ok (.if_icmp .ne 16, 3) := by decide +kernel
theorem d_Fi_find_33 : decode b_Fi_find 33 = .ok (.aload_n 0, 1) := by decide +kernel
theorem d_Fi_find_34 : decode b_Fi_find 34 = .ok (.aload_n 1, 1) := by decide +kernel
theorem d_Fi_find_35 : decode b_Fi_find 35 = .ok (.aload 6, 2) := by decide +kernel
theorem d_Fi_find_37 : decode b_Fi_find 37 = .ok (.iload 5, 2) := by decide +kernel
theorem d_Fi_find_39 : decode b_Fi_find 39 = .ok (.iconst 1, 1) := by decide +kernel
theorem d_Fi_find_40 : decode b_Fi_find 40 = .ok (.iadd, 1) := by decide +kernel
theorem d_Fi_find_41 : decode b_Fi_find 41 = .ok (.iaload, 1) := by decide +kernel
theorem d_Fi_find_42 : decode b_Fi_find 42 = .ok (.invokevirtual 175, 3) := by decide +kernel
theorem d_Fi_find_45 : decode b_Fi_find 45 = .ok (.ireturn, 1) := by decide +kernel
theorem d_Fi_find_46 : decode b_Fi_find 46 = .ok (.iload 7, 2) := by decide +kernel
theorem d_Fi_find_48 : decode b_Fi_find 48 = .ok (.bipush 46, 2) := by decide +kernel
theorem d_Fi_find_50 : decode b_Fi_find 50 = .ok (.if_icmp .lt 20, 3) := by decide +kernel
theorem d_Fi_find_53 : decode b_Fi_find 53 = .ok (.iload 7, 2) := by decide +kernel
theorem d_Fi_find_55 : decode b_Fi_find 55 = .ok (.bipush 49, 2) := by decide +kernel
theorem d_Fi_find_57 : decode b_Fi_find 57 = .ok (.if_icmp .gt 13, 3) := by decide +kernel
theorem d_Fi_find_60 : decode b_Fi_find 60 = .ok (.aload_n 0, 1) := by decide +kernel
theorem d_Fi_find_61 : decode b_Fi_find 61 = .ok (.aload_n 1, 1) := by decide +kernel
theorem d_Fi_find_62 : decode b_Fi_find 62 = .ok (.iload_n 2, 1) := by decide +kernel
theorem d_Fi_find_63 : decode b_Fi_find 63 = .ok (.iload_n 3, 1) := by decide +kernel
theorem d_Fi_find_64 : decode b_Fi_find 64 = .ok (.iload 5, 2) := by decide +kernel
theorem d_Fi_find_66 : decode b_Fi_find 66 = .ok (.invokevirtual 178, 3) := by decide +kernel
theorem d_Fi_find_69 : decode b_Fi_find 69 = .ok (.ireturn, 1) := by decide +kernel
theorem d_Fi_find_70 : decode b_Fi_find 70 = .ok (.iload 7, 2) := by decide +kernel
theorem d_Fi_find_72 : decode b_Fi_find 72 = .ok (.bipush 50, 2) := by decide +kernel
theorem d_Fi_find_74 : decode b_Fi_find 74 = .ok (.if_icmp .lt 33, 3) := by decide +kernel
theorem d_Fi_find_77 : decode b_Fi_find 77 = .ok (.iload 7, 2) := by decide +kernel
theorem d_Fi_find_79 : decode b_Fi_find 79 = .ok (.bipush 53, 2) := by decide +kernel
theorem d_Fi_find_81 : decode b_Fi_find 81 = .ok (.if_icmp .gt 26, 3) := by decide +kernel
theorem d_Fi_find_84 : decode b_Fi_find 84 = .ok (.aload_n 0, 1) := by decide +kernel
theorem d_Fi_find_85 : decode b_Fi_find 85 = .ok (.aload_n 1, 1) := by decide +kernel
theorem d_Fi_find_86 : decode b_Fi_find 86 = .ok (.iload_n 2, 1) := by decide +kernel
theorem d_Fi_find_87 : decode b_Fi_find 87 = .ok (.iload 7, 2) := by decide +kernel
theorem d_Fi_find_89 : decode b_Fi_find 89 = .ok (.aload 6, 2) := by decide +kernel
theorem d_Fi_find_91 : decode b_Fi_find 91 = .ok (.iload 5, 2) := by decide +kernel
theorem d_Fi_find_93 : decode b_Fi_find 93 = .ok (.iconst 1, 1) := by decide +kernel
theorem d_Fi_find_94 : decode b_Fi_find 94 = .ok (.iadd, 1) := by decide +kernel
theorem d_Fi_find_95 : decode b_Fi_find 95 = .ok (.iaload, 1) := by decide +kernel
theorem d_Fi_find_96 : decode b_Fi_find 96 = .ok (.aload 6, 2) := by decide +kernel
theorem d_Fi_find_98 : decode b_Fi_find 98 = .ok (.iload 5, 2) := by decide +kernel
theorem d_Fi_find_100 : decode b_Fi_find 100 = .ok (.iconst 2, 1) := by decide +kernel
theorem d_Fi_find_101 : decode b_Fi_find 101 = .ok (.iadd, 1) := by decide +kernel
theorem d_Fi_find_102 : decode b_Fi_find 102 = .ok (.iaload, 1) := by decide +kernel
theorem d_Fi_find_103 : decode b_Fi_find 103 = .ok (.invokevirtual 182, 3) := by decide +kernel
theorem d_Fi_find_106 : decode b_Fi_find 106 = .ok (.ireturn, 1) := by decide +kernel
theorem d_Fi_find_107 : decode b_Fi_find 107 = .ok (.iload 7, 2) := by decide +kernel
theorem d_Fi_find_109 : decode b_Fi_find 109 = .ok (.bipush 54, 2) := by decide +kernel
theorem d_Fi_find_111 : decode b_Fi_find 111 = .ok (.if_icmp .eq 10, 3) := by decide +kernel
theorem d_Fi_find_114 : decode b_Fi_find 114 = .ok (.iload 7, 2) := by decide +kernel
theorem d_Fi_find_116 : decode b_Fi_find 116 = .ok (.bipush 55, 2) := by decide +kernel
theorem d_Fi_find_118 : decode b_Fi_find 118 = .ok (.if_icmp .ne 7, 3) := by decide +kernel
theorem d_Fi_find_121 : decode b_Fi_find 121 = .ok (.iconst 1, 1) := by decide +kernel
theorem d_Fi_find_122 : decode b_Fi_find 122 = .ok (.goto 4, 3) := by decide +kernel
theorem d_Fi_find_125 : decode b_Fi_find 125 = .ok (.iconst 0, 1) := by decide +kernel
theorem d_Fi_find_126 : decode b_Fi_find 126 = .ok (.istore 8, 2) := by decide +kernel
theorem d_Fi_find_128 : decode b_Fi_find 128 = .ok (.iload 8, 2) := by decide +kernel
theorem d_Fi_find_130 : decode b_Fi_find 130 = .ok (.ifCond .eq 23, 3) := by decide +kernel
theorem d_Fi_find_133 : decode b_Fi_find 133 = .ok (.aload_n 1, 1) := by decide +kernel
theorem d_Fi_find_134 : decode b_Fi_find 134 = .ok (.aload 6, 2) := by decide +kernel
theorem d_Fi_find_136 : decode b_Fi_find 136 = .ok (.iload 5, 2) := by decide +kernel
theorem d_Fi_find_138 : decode b_Fi_find 138 = .ok (.iconst 1, 1) := by decide +kernel
theorem d_Fi_find_139 : decode b_Fi_find 139 = .ok (.iadd, 1) := by decide +kernel
theorem d_Fi_find_140 : decode b_Fi_find 140 = .ok (.iaload, 1) := by decide +kernel
theorem d_Fi_find_141 : decode b_Fi_find 141 = .ok (.invokevirtual 166, 3) := by decide +kernel
theorem d_Fi_find_144 : decode b_Fi_find 144 = .ok (.ifCond .ge 9, 3) := by decide +kernel
theorem d_Fi_find_147 : decode b_Fi_find 147 = .ok (.sipush 5011, 3) := by decide +kernel
theorem d_Fi_find_150 : decode b_Fi_find 150 = .ok (.goto 4, 3) := by decide +kernel
theorem d_Fi_find_153 : decode b_Fi_find 153 = .ok (.iconst 0, 1) := by decide +kernel
theorem d_Fi_find_154 : decode b_Fi_find 154 = .ok (.ireturn, 1) := by decide +kernel
abbrev ru_Fi_find : Room := { frames := 3, cells := 0, slots := 0, locals := 85 }
def wj_Fi_find_154 (y : Ly) (Post : St → Int32 → Prop) (a0 : Nat) (a1 : Nat) (s_j154 : St) (z0j154 : Int32) : Prop := Post s_j154 z0j154
def wj_Fi_find_153 (y : Ly) (Post : St → Int32 → Prop) (a0 : Nat) (a1 : Nat) (s_j153 : St) : Prop := wj_Fi_find_154 y Post a0 a1 s_j153 0
def wj_Fi_find_126 (y : Ly) (Post : St → Int32 → Prop) (a0 : Nat) (a1 : Nat) (s_j126 : St) (x5j126 : Int32) (z0j126 : Int32) : Prop := ((z0j126 = 0 → wj_Fi_find_153 y Post a0 a1 s_j126) ∧ (¬ (z0j126 = 0) → xA y s_j126 (lk a1 10) 0 (x5j126 + 1) (fun x_4 : Int32 => wu_Wd_number y (fun (s_6 : St) (r_5 : Int32) => ((0 ≤ r_5 → wj_Fi_find_153 y Post a0 a1 s_6) ∧ (¬ (0 ≤ r_5) → wj_Fi_find_154 y Post a0 a1 s_6 5011))) s_j126 a1 x_4)))
def wj_Fi_find_121 (y : Ly) (Post : St → Int32 → Prop) (a0 : Nat) (a1 : Nat) (s_j121 : St) (x5j121 : Int32) : Prop := wj_Fi_find_126 y Post a0 a1 s_j121 x5j121 1
def wj_Fi_find_107 (y : Ly) (Post : St → Int32 → Prop) (a0 : Nat) (a1 : Nat) (s_j107 : St) (x5j107 : Int32) (x7j107 : Int32) : Prop := ((x7j107 = 54 → wj_Fi_find_121 y Post a0 a1 s_j107 x5j107) ∧ (¬ (x7j107 = 54) → ((¬ x7j107 = 55 → wj_Fi_find_126 y Post a0 a1 s_j107 x5j107 0) ∧ (x7j107 = 55 → wj_Fi_find_121 y Post a0 a1 s_j107 x5j107))))
def wj_Fi_find_70 (y : Ly) (Post : St → Int32 → Prop) (a0 : Nat) (a1 : Nat) (s_j70 : St) (x2j70 : Int32) (x5j70 : Int32) (x7j70 : Int32) : Prop := ((x7j70 < 50 → wj_Fi_find_107 y Post a0 a1 s_j70 x5j70 x7j70) ∧ (¬ (x7j70 < 50) → ((53 < x7j70 → wj_Fi_find_107 y Post a0 a1 s_j70 x5j70 x7j70) ∧ (¬ (53 < x7j70) → xA y s_j70 (lk a1 10) 0 (x5j70 + 1) (fun x_7 : Int32 => xA y s_j70 (lk a1 10) 0 (x5j70 + 2) (fun x_8 : Int32 => wu_Fi_findMethod y (fun (s_10 : St) (r_9 : Int32) => Post s_10 r_9) s_j70 a0 a1 x2j70 x7j70 x_7 x_8))))))
def wu_Fi_find (y : Ly) (Post : St → Int32 → Prop) (σ : St) (a0 : Nat) (a1 : Nat) (v2 : Int32) (v3 : Int32) (v4 : Int32) : Prop := wu_Wd_code y (fun (s_2 : St) (r_1 : Int32) => xA y s_2 (lk a1 10) 0 r_1 (fun x_3 : Int32 => ((¬ x_3 = 41 → ((x_3 < 46 → wj_Fi_find_70 y Post a0 a1 s_2 v2 r_1 x_3) ∧ (¬ (x_3 < 46) → ((49 < x_3 → wj_Fi_find_70 y Post a0 a1 s_2 v2 r_1 x_3) ∧ (¬ (49 < x_3) → wu_Fi_findField y (fun (s_12 : St) (r_11 : Int32) => Post s_12 r_11) s_2 a0 a1 v2 v3 r_1))))) ∧ (x_3 = 41 → xA y s_2 (lk a1 10) 0 (r_1 + 1) (fun x_13 : Int32 => wu_Fi_findNew y (fun (s_15 : St) (r_14 : Int32) => Post s_15 r_14) s_2 a0 a1 x_13))))) σ a1 v2 v3 v4
set_option maxHeartbeats 4000000 in
set_option maxRecDepth 100000 in
theorem cu_Fi_find (l : Launch) (D : va_G) (g : Nat → ClassId) (ad : Nat → Nat) (y : Ly) (Post : St → Int32 → Prop) (σ : St) (a0 : Nat) (a1 : Nat) (v2 : Int32) (v3 : Int32) (v4 : Int32) (sz : Nat) (h_a0 : cl a0 = 1) (h_a1 : cl a1 = 9) (h : wu_Fi_find y Post σ a0 a1 v2 v3 v4) : Met l y_Fi_find (mw y_Fi_find b_Fi_find 9 (some .int)) ru_Fi_find (PC g D [] [.ref (ad a0), .ref (ad a1), .int v2, .int v3, .int v4] sz (ws g ad y σ)) (va_Qi (fun (r : Int32) (u : St) => Post u r) (QW D (va_A (ws g ad y σ) sz) (fun u => ws g ad y u)) (va_A (ws g ad y σ) sz)) 0 0 (va_A (ws g ad y σ) sz) := by
  refine ofI (by decide +kernel) (Nat.le_of_ble_eq_true rfl) ?_
  intro p e s m args below meth c A Q ls H locs G hsz hP hD hS hl hret
  subst hsz
  have hl : lv_has ls 9 [(0, .ref (ad a0)), (1, .ref (ad a1)), (2, .int v2), (3, .int v3), (4, .int v4)] := hl
  unfold wu_Fi_find at h
  refine lv_aload_n G.1 G.2.1 d_Fi_find_0 rfl (lv_at hl 1 rfl) ?_
  refine lv_iload_n G.1 G.2.1 d_Fi_find_1 rfl (lv_at hl 2 rfl) ?_
  refine lv_iload_n G.1 G.2.1 d_Fi_find_2 rfl (lv_at hl 3 rfl) ?_
  refine lv_iload G.1 G.2.1 d_Fi_find_3 (lv_at hl 4 rfl) ?_
  refine ucVi (As := [.int v2, .int v3, .int v4]) (rest := []) G hP hD hS (cu_Wd_code l D g ad y _ σ a1 v2 v3 v4 H.size h_a1 h) w9_Wd_code q2322 ⟨Nat.le_of_ble_eq_true rfl, Nat.le_of_ble_eq_true rfl⟩ rfl rfl h_a1 (q := (RWd, TWd, 17)) rfl rfl hl.1 rfl (Nat.le_of_ble_eq_true rfl) rfl ⟨Nat.le_refl _, Nat.le_refl _⟩ d_Fi_find_5 (fun r_1 s_2 H locs h hP hD hS => ?_)
  refine lv_istore (lv' := [(5, .int r_1), (0, .ref (ad a0)), (1, .ref (ad a1)), (2, .int v2), (3, .int v3), (4, .int v4)]) G.1 G.2.1 d_Fi_find_8 hl (by decide) rfl (fun ls hl => ?_)
  refine lv_aload_n G.1 G.2.1 d_Fi_find_10 rfl (lv_at hl 2 rfl) ?_
  refine ugf (v := .ref (ad (lk a1 10))) G hP h_a1 iWd rfl 10 (by decide) rfl q844 rfl rfl d_Fi_find_11 ?_
  refine ugf (v := .ref (yP y (lk a1 10) 0)) G hP (lk_9_10 h_a1) iIn rfl 0 (by decide) rfl q383 rfl rfl d_Fi_find_14 ?_
  refine lv_astore (lv' := [(6, .ref (yP y (lk a1 10) 0)), (5, .int r_1), (0, .ref (ad a0)), (1, .ref (ad a1)), (2, .int v2), (3, .int v3), (4, .int v4)]) G.1 G.2.1 d_Fi_find_17 hl (by decide) rfl (fun ls hl => ?_)
  refine lv_aload G.1 G.2.1 d_Fi_find_19 (lv_at hl 0 rfl) ?_
  refine W.eq (g2 := F0 m 21 ls [.ref (yP y (lk a1 10) 0)]) rfl ?_
  refine lv_iload G.1 G.2.1 d_Fi_find_21 (lv_at hl 1 rfl) ?_
  refine uiald G hP (kdp (lk_9_10 h_a1) rfl) (typ (lk_9_10 h_a1) rfl) h d_Fi_find_23 (fun x_3 h => ?_)
  refine lv_istore (lv' := [(7, .int x_3), (6, .ref (yP y (lk a1 10) 0)), (5, .int r_1), (0, .ref (ad a0)), (1, .ref (ad a1)), (2, .int v2), (3, .int v3), (4, .int v4)]) G.1 G.2.1 d_Fi_find_24 hl (by decide) rfl (fun ls hl => ?_)
  refine lv_iload G.1 G.2.1 d_Fi_find_26 (lv_at hl 0 rfl) ?_
  refine lv_bipush (v := 41) G.1 G.2.1 d_Fi_find_28 (by decide) ?_
  refine lv_icmp_ne (tgt := 46) G.1 G.2.1 d_Fi_find_30 (by decide) (fun c30 => ?_) (fun c30 => ?_)
  · skip
    have h := h.1 c30
    refine lv_iload G.1 G.2.1 d_Fi_find_46 (lv_at hl 0 rfl) ?_
    refine lv_bipush (v := 46) G.1 G.2.1 d_Fi_find_48 (by decide) ?_
    have J_70 : ∀ (s_j70 : St) (x2j70 : Int32) (x5j70 : Int32) (x7j70 : Int32) (H : Heap) (locs : List Loc), wj_Fi_find_70 y Post a0 a1 s_j70 x2j70 x5j70 x7j70 → va_P D CL (ws g ad y s_j70) H → va_D A (ws g ad y s_j70) → va_S A s.heap H locs → ∀ ls, lv_has ls 9 [(0, .ref (ad a0)), (1, .ref (ad a1)), (2, .int x2j70), (5, .int x5j70), (6, .ref (yP y (lk a1 10) 0)), (7, .int x7j70)] → W p l e ru_Fi_find s m args below meth c H locs 0 0 Q (F0 m 70 ls []) := by
      intro s_j70 x2j70 x5j70 x7j70 H locs h hP hD hS ls hl
      unfold wj_Fi_find_70 at h
      refine lv_iload G.1 G.2.1 d_Fi_find_70 (lv_at hl 5 rfl) ?_
      refine lv_bipush (v := 50) G.1 G.2.1 d_Fi_find_72 (by decide) ?_
      have J_107 : ∀ (s_j107 : St) (x5j107 : Int32) (x7j107 : Int32) (H : Heap) (locs : List Loc), wj_Fi_find_107 y Post a0 a1 s_j107 x5j107 x7j107 → va_P D CL (ws g ad y s_j107) H → va_D A (ws g ad y s_j107) → va_S A s.heap H locs → ∀ ls, lv_has ls 9 [(1, .ref (ad a1)), (5, .int x5j107), (6, .ref (yP y (lk a1 10) 0)), (7, .int x7j107)] → W p l e ru_Fi_find s m args below meth c H locs 0 0 Q (F0 m 107 ls []) := by
        intro s_j107 x5j107 x7j107 H locs h hP hD hS ls hl
        unfold wj_Fi_find_107 at h
        refine lv_iload G.1 G.2.1 d_Fi_find_107 (lv_at hl 3 rfl) ?_
        refine lv_bipush (v := 54) G.1 G.2.1 d_Fi_find_109 (by decide) ?_
        have J_126 : ∀ (s_j126 : St) (x5j126 : Int32) (z0j126 : Int32) (H : Heap) (locs : List Loc), wj_Fi_find_126 y Post a0 a1 s_j126 x5j126 z0j126 → va_P D CL (ws g ad y s_j126) H → va_D A (ws g ad y s_j126) → va_S A s.heap H locs → ∀ ls, lv_has ls 9 [(1, .ref (ad a1)), (5, .int x5j126), (6, .ref (yP y (lk a1 10) 0))] → W p l e ru_Fi_find s m args below meth c H locs 0 0 Q (F0 m 126 ls [.int z0j126]) := by
          intro s_j126 x5j126 z0j126 H locs h hP hD hS ls hl
          unfold wj_Fi_find_126 at h
          refine lv_istore (lv' := [(8, .int z0j126), (1, .ref (ad a1)), (5, .int x5j126), (6, .ref (yP y (lk a1 10) 0))]) G.1 G.2.1 d_Fi_find_126 hl (by decide) rfl (fun ls hl => ?_)
          refine lv_iload G.1 G.2.1 d_Fi_find_128 (lv_at hl 0 rfl) ?_
          have J_154 : ∀ (s_j154 : St) (z0j154 : Int32) (H : Heap) (locs : List Loc), wj_Fi_find_154 y Post a0 a1 s_j154 z0j154 → va_P D CL (ws g ad y s_j154) H → va_D A (ws g ad y s_j154) → va_S A s.heap H locs → ∀ ls, lv_has ls 9 [] → W p l e ru_Fi_find s m args below meth c H locs 0 0 Q (F0 m 154 ls [.int z0j154]) := by
            intro s_j154 z0j154 H locs h hP hD hS ls hl
            unfold wj_Fi_find_154 at h
            exact hret _ _ _ _ _ _ _ ls h hP hD hS (Nat.le_refl _) (Nat.le_refl _) d_Fi_find_154
          have J_153 : ∀ (s_j153 : St) (H : Heap) (locs : List Loc), wj_Fi_find_153 y Post a0 a1 s_j153 → va_P D CL (ws g ad y s_j153) H → va_D A (ws g ad y s_j153) → va_S A s.heap H locs → ∀ ls, lv_has ls 9 [] → W p l e ru_Fi_find s m args below meth c H locs 0 0 Q (F0 m 153 ls []) := by
            intro s_j153 H locs h hP hD hS ls hl
            unfold wj_Fi_find_153 at h
            refine lv_iconst (v := 0) G.1 G.2.1 d_Fi_find_153 (by decide) ?_
            exact J_154 s_j153 0 H locs h hP hD hS ls (lv_sub hl [] rfl)
          refine lv_if_eq (tgt := 153) G.1 G.2.1 d_Fi_find_130 (by decide) (fun c130 => ?_) (fun c130 => ?_)
          · skip
            have h := h.1 c130
            exact J_153 s_j126 H locs h hP hD hS ls (lv_sub hl [] rfl)
          · skip
            have h := h.2 c130
            refine lv_aload_n G.1 G.2.1 d_Fi_find_133 rfl (lv_at hl 1 rfl) ?_
            refine lv_aload G.1 G.2.1 d_Fi_find_134 (lv_at hl 3 rfl) ?_
            refine lv_iload G.1 G.2.1 d_Fi_find_136 (lv_at hl 2 rfl) ?_
            refine lv_iconst (v := 1) G.1 G.2.1 d_Fi_find_138 (by decide) ?_
            refine lv_iadd G.1 G.2.1 d_Fi_find_139 ?_
            refine uiald G hP (kdp (lk_9_10 h_a1) rfl) (typ (lk_9_10 h_a1) rfl) h d_Fi_find_140 (fun x_4 h => ?_)
            refine ucVi (As := [.int x_4]) (rest := []) G hP hD hS (cu_Wd_number l D g ad y _ s_j126 a1 x_4 H.size h_a1 h) w9_Wd_number q1824 ⟨Nat.le_of_ble_eq_true rfl, Nat.le_of_ble_eq_true rfl⟩ rfl rfl h_a1 (q := (RWd, TWd, 17)) rfl rfl hl.1 rfl (Nat.le_of_ble_eq_true rfl) rfl ⟨Nat.le_refl _, Nat.le_refl _⟩ d_Fi_find_141 (fun r_5 s_6 H locs h hP hD hS => ?_)
            refine lv_if_ge (tgt := 153) G.1 G.2.1 d_Fi_find_144 (by decide) (fun c144 => ?_) (fun c144 => ?_)
            · skip
              have h := h.1 c144
              exact J_153 s_6 H locs h hP hD hS ls (lv_sub hl [] rfl)
            · skip
              have h := h.2 c144
              refine W.eq (g2 := F0 m 147 ls []) rfl ?_
              refine lv_sipush (v := 5011) G.1 G.2.1 d_Fi_find_147 (by decide) ?_
              refine lv_goto (tgt := 154) G.1 G.2.1 d_Fi_find_150 (by decide) ?_
              exact J_154 s_6 5011 H locs h hP hD hS ls (lv_sub hl [] rfl)
        have J_121 : ∀ (s_j121 : St) (x5j121 : Int32) (H : Heap) (locs : List Loc), wj_Fi_find_121 y Post a0 a1 s_j121 x5j121 → va_P D CL (ws g ad y s_j121) H → va_D A (ws g ad y s_j121) → va_S A s.heap H locs → ∀ ls, lv_has ls 9 [(1, .ref (ad a1)), (5, .int x5j121), (6, .ref (yP y (lk a1 10) 0))] → W p l e ru_Fi_find s m args below meth c H locs 0 0 Q (F0 m 121 ls []) := by
          intro s_j121 x5j121 H locs h hP hD hS ls hl
          unfold wj_Fi_find_121 at h
          refine lv_iconst (v := 1) G.1 G.2.1 d_Fi_find_121 (by decide) ?_
          refine lv_goto (tgt := 126) G.1 G.2.1 d_Fi_find_122 (by decide) ?_
          exact J_126 s_j121 x5j121 1 H locs h hP hD hS ls (lv_sub hl [0, 1, 2] rfl)
        refine lv_icmp_eq (tgt := 121) G.1 G.2.1 d_Fi_find_111 (by decide) (fun c111 => ?_) (fun c111 => ?_)
        · skip
          have h := h.1 c111
          exact J_121 s_j107 x5j107 H locs h hP hD hS ls (lv_sub hl [0, 1, 2] rfl)
        · skip
          have h := h.2 c111
          refine lv_iload G.1 G.2.1 d_Fi_find_114 (lv_at hl 3 rfl) ?_
          refine lv_bipush (v := 55) G.1 G.2.1 d_Fi_find_116 (by decide) ?_
          refine lv_icmp_ne (tgt := 125) G.1 G.2.1 d_Fi_find_118 (by decide) (fun c118 => ?_) (fun c118 => ?_)
          · skip
            have h := h.1 c118
            refine lv_iconst (v := 0) G.1 G.2.1 d_Fi_find_125 (by decide) ?_
            exact J_126 s_j107 x5j107 0 H locs h hP hD hS ls (lv_sub hl [0, 1, 2] rfl)
          · skip
            have h := h.2 c118
            exact J_121 s_j107 x5j107 H locs h hP hD hS ls (lv_sub hl [0, 1, 2] rfl)
      refine lv_icmp_lt (tgt := 107) G.1 G.2.1 d_Fi_find_74 (by decide) (fun c74 => ?_) (fun c74 => ?_)
      · skip
        have h := h.1 c74
        exact J_107 s_j70 x5j70 x7j70 H locs h hP hD hS ls (lv_sub hl [1, 3, 4, 5] rfl)
      · skip
        have h := h.2 c74
        refine lv_iload G.1 G.2.1 d_Fi_find_77 (lv_at hl 5 rfl) ?_
        refine lv_bipush (v := 53) G.1 G.2.1 d_Fi_find_79 (by decide) ?_
        refine lv_icmp_gt (tgt := 107) G.1 G.2.1 d_Fi_find_81 (by decide) (fun c81 => ?_) (fun c81 => ?_)
        · skip
          have h := h.1 c81
          exact J_107 s_j70 x5j70 x7j70 H locs h hP hD hS ls (lv_sub hl [1, 3, 4, 5] rfl)
        · skip
          have h := h.2 c81
          refine lv_aload_n G.1 G.2.1 d_Fi_find_84 rfl (lv_at hl 0 rfl) ?_
          refine lv_aload_n G.1 G.2.1 d_Fi_find_85 rfl (lv_at hl 1 rfl) ?_
          refine lv_iload_n G.1 G.2.1 d_Fi_find_86 rfl (lv_at hl 2 rfl) ?_
          refine lv_iload G.1 G.2.1 d_Fi_find_87 (lv_at hl 5 rfl) ?_
          refine lv_aload G.1 G.2.1 d_Fi_find_89 (lv_at hl 4 rfl) ?_
          refine W.eq (g2 := F0 m 91 ls [.ref (yP y (lk a1 10) 0), .int x7j70, .int x2j70, .ref (ad a1), .ref (ad a0)]) rfl ?_
          refine lv_iload G.1 G.2.1 d_Fi_find_91 (lv_at hl 3 rfl) ?_
          refine lv_iconst (v := 1) G.1 G.2.1 d_Fi_find_93 (by decide) ?_
          refine lv_iadd G.1 G.2.1 d_Fi_find_94 ?_
          refine uiald G hP (kdp (lk_9_10 h_a1) rfl) (typ (lk_9_10 h_a1) rfl) h d_Fi_find_95 (fun x_7 h => ?_)
          refine lv_aload G.1 G.2.1 d_Fi_find_96 (lv_at hl 4 rfl) ?_
          refine lv_iload G.1 G.2.1 d_Fi_find_98 (lv_at hl 3 rfl) ?_
          refine lv_iconst (v := 2) G.1 G.2.1 d_Fi_find_100 (by decide) ?_
          refine lv_iadd G.1 G.2.1 d_Fi_find_101 ?_
          refine uiald G hP (kdp (lk_9_10 h_a1) rfl) (typ (lk_9_10 h_a1) rfl) h d_Fi_find_102 (fun x_8 h => ?_)
          refine ucVi (As := [.ref (ad a1), .int x2j70, .int x7j70, .int x_7, .int x_8]) (rest := []) G hP hD hS (cu_Fi_findMethod l D g ad y _ s_j70 a0 a1 x2j70 x7j70 x_7 x_8 H.size h_a0 h_a1 h) w9_Fi_findMethod q2325 ⟨Nat.le_of_ble_eq_true rfl, Nat.le_of_ble_eq_true rfl⟩ rfl rfl h_a0 (q := (RFi, TFi, 10)) rfl rfl hl.1 rfl (Nat.le_of_ble_eq_true rfl) rfl ⟨Nat.le_refl _, Nat.le_refl _⟩ d_Fi_find_103 (fun r_9 s_10 H locs h hP hD hS => ?_)
          exact hret _ _ _ _ _ _ _ ls h hP hD hS (Nat.le_refl _) (Nat.le_refl _) d_Fi_find_106
    refine lv_icmp_lt (tgt := 70) G.1 G.2.1 d_Fi_find_50 (by decide) (fun c50 => ?_) (fun c50 => ?_)
    · skip
      have h := h.1 c50
      exact J_70 s_2 v2 r_1 x_3 H locs h hP hD hS ls (lv_sub hl [3, 4, 5, 2, 1, 0] rfl)
    · skip
      have h := h.2 c50
      refine lv_iload G.1 G.2.1 d_Fi_find_53 (lv_at hl 0 rfl) ?_
      refine lv_bipush (v := 49) G.1 G.2.1 d_Fi_find_55 (by decide) ?_
      refine lv_icmp_gt (tgt := 70) G.1 G.2.1 d_Fi_find_57 (by decide) (fun c57 => ?_) (fun c57 => ?_)
      · skip
        have h := h.1 c57
        exact J_70 s_2 v2 r_1 x_3 H locs h hP hD hS ls (lv_sub hl [3, 4, 5, 2, 1, 0] rfl)
      · skip
        have h := h.2 c57
        refine W.eq (g2 := F0 m 60 ls []) rfl ?_
        refine lv_aload_n G.1 G.2.1 d_Fi_find_60 rfl (lv_at hl 3 rfl) ?_
        refine lv_aload_n G.1 G.2.1 d_Fi_find_61 rfl (lv_at hl 4 rfl) ?_
        refine lv_iload_n G.1 G.2.1 d_Fi_find_62 rfl (lv_at hl 5 rfl) ?_
        refine lv_iload_n G.1 G.2.1 d_Fi_find_63 rfl (lv_at hl 6 rfl) ?_
        refine lv_iload G.1 G.2.1 d_Fi_find_64 (lv_at hl 2 rfl) ?_
        refine ucVi (As := [.ref (ad a1), .int v2, .int v3, .int r_1]) (rest := []) G hP hD hS (cu_Fi_findField l D g ad y _ s_2 a0 a1 v2 v3 r_1 H.size h_a0 h_a1 h) w9_Fi_findField q2324 ⟨Nat.le_of_ble_eq_true rfl, Nat.le_of_ble_eq_true rfl⟩ rfl rfl h_a0 (q := (RFi, TFi, 10)) rfl rfl hl.1 rfl (Nat.le_of_ble_eq_true rfl) rfl ⟨Nat.le_refl _, Nat.le_refl _⟩ d_Fi_find_66 (fun r_11 s_12 H locs h hP hD hS => ?_)
        exact hret _ _ _ _ _ _ _ ls h hP hD hS (Nat.le_refl _) (Nat.le_refl _) d_Fi_find_69
  · skip
    have h := h.2 c30
    refine lv_aload_n G.1 G.2.1 d_Fi_find_33 rfl (lv_at hl 3 rfl) ?_
    refine lv_aload_n G.1 G.2.1 d_Fi_find_34 rfl (lv_at hl 4 rfl) ?_
    refine lv_aload G.1 G.2.1 d_Fi_find_35 (lv_at hl 1 rfl) ?_
    refine lv_iload G.1 G.2.1 d_Fi_find_37 (lv_at hl 2 rfl) ?_
    refine lv_iconst (v := 1) G.1 G.2.1 d_Fi_find_39 (by decide) ?_
    refine lv_iadd G.1 G.2.1 d_Fi_find_40 ?_
    refine W.eq (g2 := F0 m 41 ls [.int (r_1 + 1), .ref (yP y (lk a1 10) 0), .ref (ad a1), .ref (ad a0)]) rfl ?_
    refine uiald G hP (kdp (lk_9_10 h_a1) rfl) (typ (lk_9_10 h_a1) rfl) h d_Fi_find_41 (fun x_13 h => ?_)
    refine ucVi (As := [.ref (ad a1), .int x_13]) (rest := []) G hP hD hS (cu_Fi_findNew l D g ad y _ s_2 a0 a1 x_13 H.size h_a0 h_a1 h) w9_Fi_findNew q2323 ⟨Nat.le_of_ble_eq_true rfl, Nat.le_of_ble_eq_true rfl⟩ rfl rfl h_a0 (q := (RFi, TFi, 10)) rfl rfl hl.1 rfl (Nat.le_of_ble_eq_true rfl) rfl ⟨Nat.le_refl _, Nat.le_refl _⟩ d_Fi_find_42 (fun r_14 s_15 H locs h hP hD hS => ?_)
    exact hret _ _ _ _ _ _ _ ls h hP hD hS (Nat.le_refl _) (Nat.le_refl _) d_Fi_find_45
theorem q2340 : Cond.methodLink "ClassWorks$Finder" 210 y_Fi_seekForObject ∈ lw_ok := lw_okmem (List.mem_of_getElem? (i := 2340) (by decide +kernel)) rfl
theorem q1896 : Cond.code y_Fi_seekForObject b_Fi_seekForObject 6 (some (.boolean)) ∈ lw_ok := lw_okmem (List.mem_of_getElem? (i := 1896) (by decide +kernel)) rfl
theorem q1894 : Cond.instanceMethod y_Fi_seekForObject ∈ lw_ok := lw_okmem (List.mem_of_getElem? (i := 1894) (by decide +kernel)) rfl
theorem q1895 : Cond.selects y_Fi_seekForObject.cls y_Fi_seekForObject y_Fi_seekForObject ∈ lw_ok := lw_okmem (List.mem_of_getElem? (i := 1895) (by decide +kernel)) rfl
theorem w9_Fi_seekForObject : CWv y_Fi_seekForObject b_Fi_seekForObject 6 (some (.boolean)) 3 ∧ Cond.instanceMethod y_Fi_seekForObject ∈ lw_ok ∧ Cond.selects y_Fi_seekForObject.cls y_Fi_seekForObject y_Fi_seekForObject ∈ lw_ok := ⟨⟨q1896, q342, by decide +kernel, by decide +kernel, by decide +kernel⟩, q1894, q1895⟩
theorem q2335 : Cond.methodLink "ClassWorks$Finder" 213 y_Fi_isFound ∈ lw_ok := lw_okmem (List.mem_of_getElem? (i := 2335) (by decide +kernel)) rfl
theorem q1884 : Cond.code y_Fi_isFound b_Fi_isFound 3 (some (.boolean)) ∈ lw_ok := lw_okmem (List.mem_of_getElem? (i := 1884) (by decide +kernel)) rfl
theorem q1882 : Cond.instanceMethod y_Fi_isFound ∈ lw_ok := lw_okmem (List.mem_of_getElem? (i := 1882) (by decide +kernel)) rfl
theorem q1883 : Cond.selects y_Fi_isFound.cls y_Fi_isFound y_Fi_isFound ∈ lw_ok := lw_okmem (List.mem_of_getElem? (i := 1883) (by decide +kernel)) rfl
theorem w9_Fi_isFound : CWv y_Fi_isFound b_Fi_isFound 3 (some (.boolean)) 2 ∧ Cond.instanceMethod y_Fi_isFound ∈ lw_ok ∧ Cond.selects y_Fi_isFound.cls y_Fi_isFound y_Fi_isFound ∈ lw_ok := ⟨⟨q1884, q342, by decide +kernel, by decide +kernel, by decide +kernel⟩, q1882, q1883⟩
def y_Fi_select : MethodName := ⟨"ClassWorks$Finder", "select", "(LClassWorks$World;II)I"⟩
abbrev b_Fi_select : ByteArray := prog_3_method_21_code
theorem d_Fi_select_0 : decode b_Fi_select 0 = .ok (.aload_n 0, 1) := by decide +kernel
theorem d_Fi_select_1 : decode b_Fi_select 1 = .ok (.aload_n 1, 1) := by decide +kernel
theorem d_Fi_select_2 : decode b_Fi_select 2 = .ok (.iload_n 2, 1) := by decide +kernel
theorem d_Fi_select_3 : decode b_Fi_select 3 = .ok (.iload_n 3, 1) := by decide +kernel
theorem d_Fi_select_4 : decode b_Fi_select 4 = .ok (.invokevirtual 210, 3) := by decide +kernel
theorem d_Fi_select_7 : decode b_Fi_select 7 = .ok (.ifCond .ne 14, 3) := by decide +kernel
theorem d_Fi_select_10 : decode b_Fi_select 10 = .ok (.aload_n 0, 1) := by decide +kernel
theorem d_Fi_select_11 : decode b_Fi_select 11 = .ok (.aload_n 1, 1) := by decide +kernel
theorem d_Fi_select_12 : decode b_Fi_select 12 = .ok (.iload_n 2, 1) := by decide +kernel
theorem d_Fi_select_13 : decode b_Fi_select 13 = .ok (.iload_n 3, 1) := by decide +kernel
theorem d_Fi_select_14 : decode b_Fi_select 14 = .ok (.iconst 5, 1) := by decide +kernel
theorem d_Fi_select_15 : decode b_Fi_select 15 = .ok (.invokevirtual 206, 3) := by decide +kernel
theorem d_Fi_select_18 : decode b_Fi_select 18 = .ok (.ifCond .eq 7, 3) := by decide +kernel
theorem d_Fi_select_21 : decode b_Fi_select 21 = .ok (.iconst 1, 1) := by decide +kernel
theorem d_Fi_select_22 : decode b_Fi_select 22 = .ok (.goto 4, 3) := by decide +kernel
theorem d_Fi_select_25 : decode b_Fi_select 25 = .ok (.iconst 0, 1) := by decide +kernel
theorem d_Fi_select_26 : decode b_Fi_select 26 = .ok (.istore 4, 2) := by decide +kernel
theorem d_Fi_select_28 : decode b_Fi_select 28 = .ok (.iload 4, 2) := by decide +kernel
theorem d_Fi_select_30 : decode b_Fi_select 30 = .ok (.ifCond .eq 17, 3) := by decide +kernel
theorem d_Fi_select_33 : decode b_Fi_select 33 = .ok (.aload_n 0, 1) := by decide +kernel
theorem d_Fi_select_34 : decode b_Fi_select 34 = .ok (.aload_n 1, 1) := by decide +kernel
theorem d_Fi_select_35 : decode b_Fi_select 35 = .ok (.bipush 8, 2) := by decide +kernel
theorem d_Fi_select_37 : decode b_Fi_select 37 = .ok (.invokevirtual 213, 3) := by decide +kernel
theorem d_Fi_select_40 : decode b_Fi_select 40 = .ok (.ifCond .ne 7, 3) := by decide +kernel
theorem d_Fi_select_43 : decode b_Fi_select 43 = .ok (.iconst 0, 1) := by decide +kernel
theorem d_Fi_select_44 : decode b_Fi_select 44 = .ok (.goto 6, 3) := by decide +kernel
theorem d_Fi_select_47 : decode b_Fi_select 47 = .ok (.sipush 5818, 3) := by decide +kernel
theorem d_Fi_select_50 : decode b_Fi_select 50 = .ok (.ireturn, 1) := by decide +kernel
abbrev ru_Fi_select : Room := { frames := 2, cells := 0, slots := 0, locals := 54 }
def wj_Fi_select_50 (y : Ly) (Post : St → Int32 → Prop) (a0 : Nat) (a1 : Nat) (s_j50 : St) (z0j50 : Int32) : Prop := Post s_j50 z0j50
def wj_Fi_select_47 (y : Ly) (Post : St → Int32 → Prop) (a0 : Nat) (a1 : Nat) (s_j47 : St) : Prop := wj_Fi_select_50 y Post a0 a1 s_j47 5818
def wj_Fi_select_26 (y : Ly) (Post : St → Int32 → Prop) (a0 : Nat) (a1 : Nat) (s_j26 : St) (z0j26 : Int32) : Prop := ((z0j26 = 0 → wj_Fi_select_47 y Post a0 a1 s_j26) ∧ (¬ (z0j26 = 0) → wu_Fi_isFound y (fun (s_4 : St) (r_3 : Int32) => ((¬ r_3 = 0 → wj_Fi_select_47 y Post a0 a1 s_4) ∧ (r_3 = 0 → wj_Fi_select_50 y Post a0 a1 s_4 0))) s_j26 a0 a1 8))
def wj_Fi_select_21 (y : Ly) (Post : St → Int32 → Prop) (a0 : Nat) (a1 : Nat) (s_j21 : St) : Prop := wj_Fi_select_26 y Post a0 a1 s_j21 1
def wu_Fi_select (y : Ly) (Post : St → Int32 → Prop) (σ : St) (a0 : Nat) (a1 : Nat) (v2 : Int32) (v3 : Int32) : Prop := wu_Fi_seekForObject y (fun (s_2 : St) (r_1 : Int32) => ((¬ r_1 = 0 → wj_Fi_select_21 y Post a0 a1 s_2) ∧ (r_1 = 0 → wu_Fi_seekInFaces y (fun (s_6 : St) (r_5 : Int32) => ((r_5 = 0 → wj_Fi_select_26 y Post a0 a1 s_6 0) ∧ (¬ (r_5 = 0) → wj_Fi_select_21 y Post a0 a1 s_6))) s_2 a0 a1 v2 v3 5))) σ a0 a1 v2 v3
set_option maxHeartbeats 4000000 in
set_option maxRecDepth 100000 in
theorem cu_Fi_select (l : Launch) (D : va_G) (g : Nat → ClassId) (ad : Nat → Nat) (y : Ly) (Post : St → Int32 → Prop) (σ : St) (a0 : Nat) (a1 : Nat) (v2 : Int32) (v3 : Int32) (sz : Nat) (h_a0 : cl a0 = 1) (h_a1 : cl a1 = 9) (h : wu_Fi_select y Post σ a0 a1 v2 v3) : Met l y_Fi_select (mw y_Fi_select b_Fi_select 5 (some .int)) ru_Fi_select (PC g D [] [.ref (ad a0), .ref (ad a1), .int v2, .int v3] sz (ws g ad y σ)) (va_Qi (fun (r : Int32) (u : St) => Post u r) (QW D (va_A (ws g ad y σ) sz) (fun u => ws g ad y u)) (va_A (ws g ad y σ) sz)) 0 0 (va_A (ws g ad y σ) sz) := by
  refine ofI (by decide +kernel) (Nat.le_of_ble_eq_true rfl) ?_
  intro p e s m args below meth c A Q ls H locs G hsz hP hD hS hl hret
  subst hsz
  have hl : lv_has ls 5 [(0, .ref (ad a0)), (1, .ref (ad a1)), (2, .int v2), (3, .int v3)] := hl
  unfold wu_Fi_select at h
  refine lv_aload_n G.1 G.2.1 d_Fi_select_0 rfl (lv_at hl 0 rfl) ?_
  refine lv_aload_n G.1 G.2.1 d_Fi_select_1 rfl (lv_at hl 1 rfl) ?_
  refine lv_iload_n G.1 G.2.1 d_Fi_select_2 rfl (lv_at hl 2 rfl) ?_
  refine lv_iload_n G.1 G.2.1 d_Fi_select_3 rfl (lv_at hl 3 rfl) ?_
  refine ucVi (As := [.ref (ad a1), .int v2, .int v3]) (rest := []) G hP hD hS (cu_Fi_seekForObject l D g ad y _ σ a0 a1 v2 v3 H.size h_a0 h_a1 h) w9_Fi_seekForObject q2340 ⟨Nat.le_of_ble_eq_true rfl, Nat.le_of_ble_eq_true rfl⟩ rfl rfl h_a0 (q := (RFi, TFi, 10)) rfl rfl hl.1 rfl (Nat.le_of_ble_eq_true rfl) rfl ⟨Nat.le_refl _, Nat.le_refl _⟩ d_Fi_select_4 (fun r_1 s_2 H locs h hP hD hS => ?_)
  have J_26 : ∀ (s_j26 : St) (z0j26 : Int32) (H : Heap) (locs : List Loc), wj_Fi_select_26 y Post a0 a1 s_j26 z0j26 → va_P D CL (ws g ad y s_j26) H → va_D A (ws g ad y s_j26) → va_S A s.heap H locs → ∀ ls, lv_has ls 5 [(0, .ref (ad a0)), (1, .ref (ad a1))] → W p l e ru_Fi_select s m args below meth c H locs 0 0 Q (F0 m 26 ls [.int z0j26]) := by
    intro s_j26 z0j26 H locs h hP hD hS ls hl
    unfold wj_Fi_select_26 at h
    refine lv_istore (lv' := [(4, .int z0j26), (0, .ref (ad a0)), (1, .ref (ad a1))]) G.1 G.2.1 d_Fi_select_26 hl (by decide) rfl (fun ls hl => ?_)
    refine lv_iload G.1 G.2.1 d_Fi_select_28 (lv_at hl 0 rfl) ?_
    have J_50 : ∀ (s_j50 : St) (z0j50 : Int32) (H : Heap) (locs : List Loc), wj_Fi_select_50 y Post a0 a1 s_j50 z0j50 → va_P D CL (ws g ad y s_j50) H → va_D A (ws g ad y s_j50) → va_S A s.heap H locs → ∀ ls, lv_has ls 5 [] → W p l e ru_Fi_select s m args below meth c H locs 0 0 Q (F0 m 50 ls [.int z0j50]) := by
      intro s_j50 z0j50 H locs h hP hD hS ls hl
      unfold wj_Fi_select_50 at h
      exact hret _ _ _ _ _ _ _ ls h hP hD hS (Nat.le_refl _) (Nat.le_refl _) d_Fi_select_50
    have J_47 : ∀ (s_j47 : St) (H : Heap) (locs : List Loc), wj_Fi_select_47 y Post a0 a1 s_j47 → va_P D CL (ws g ad y s_j47) H → va_D A (ws g ad y s_j47) → va_S A s.heap H locs → ∀ ls, lv_has ls 5 [] → W p l e ru_Fi_select s m args below meth c H locs 0 0 Q (F0 m 47 ls []) := by
      intro s_j47 H locs h hP hD hS ls hl
      unfold wj_Fi_select_47 at h
      refine lv_sipush (v := 5818) G.1 G.2.1 d_Fi_select_47 (by decide) ?_
      exact J_50 s_j47 5818 H locs h hP hD hS ls (lv_sub hl [] rfl)
    refine lv_if_eq (tgt := 47) G.1 G.2.1 d_Fi_select_30 (by decide) (fun c30 => ?_) (fun c30 => ?_)
    · skip
      have h := h.1 c30
      exact J_47 s_j26 H locs h hP hD hS ls (lv_sub hl [] rfl)
    · skip
      have h := h.2 c30
      refine lv_aload_n G.1 G.2.1 d_Fi_select_33 rfl (lv_at hl 1 rfl) ?_
      refine lv_aload_n G.1 G.2.1 d_Fi_select_34 rfl (lv_at hl 2 rfl) ?_
      refine lv_bipush (v := 8) G.1 G.2.1 d_Fi_select_35 (by decide) ?_
      refine ucVi (As := [.ref (ad a1), .int 8]) (rest := []) G hP hD hS (cu_Fi_isFound l D g ad y _ s_j26 a0 a1 8 H.size h_a0 h_a1 h) w9_Fi_isFound q2335 ⟨Nat.le_of_ble_eq_true rfl, Nat.le_of_ble_eq_true rfl⟩ rfl rfl h_a0 (q := (RFi, TFi, 10)) rfl rfl hl.1 rfl (Nat.le_of_ble_eq_true rfl) rfl ⟨Nat.le_refl _, Nat.le_refl _⟩ d_Fi_select_37 (fun r_3 s_4 H locs h hP hD hS => ?_)
      refine lv_if_ne (tgt := 47) G.1 G.2.1 d_Fi_select_40 (by decide) (fun c40 => ?_) (fun c40 => ?_)
      · skip
        have h := h.1 c40
        exact J_47 s_4 H locs h hP hD hS ls (lv_sub hl [] rfl)
      · skip
        have h := h.2 c40
        refine lv_iconst (v := 0) G.1 G.2.1 d_Fi_select_43 (by decide) ?_
        refine lv_goto (tgt := 50) G.1 G.2.1 d_Fi_select_44 (by decide) ?_
        exact J_50 s_4 0 H locs h hP hD hS ls (lv_sub hl [] rfl)
  have J_21 : ∀ (s_j21 : St) (H : Heap) (locs : List Loc), wj_Fi_select_21 y Post a0 a1 s_j21 → va_P D CL (ws g ad y s_j21) H → va_D A (ws g ad y s_j21) → va_S A s.heap H locs → ∀ ls, lv_has ls 5 [(0, .ref (ad a0)), (1, .ref (ad a1))] → W p l e ru_Fi_select s m args below meth c H locs 0 0 Q (F0 m 21 ls []) := by
    intro s_j21 H locs h hP hD hS ls hl
    unfold wj_Fi_select_21 at h
    refine lv_iconst (v := 1) G.1 G.2.1 d_Fi_select_21 (by decide) ?_
    refine lv_goto (tgt := 26) G.1 G.2.1 d_Fi_select_22 (by decide) ?_
    exact J_26 s_j21 1 H locs h hP hD hS ls (lv_sub hl [0, 1] rfl)
  refine lv_if_ne (tgt := 21) G.1 G.2.1 d_Fi_select_7 (by decide) (fun c7 => ?_) (fun c7 => ?_)
  · skip
    have h := h.1 c7
    exact J_21 s_2 H locs h hP hD hS ls (lv_sub hl [0, 1] rfl)
  · skip
    have h := h.2 c7
    refine lv_aload_n G.1 G.2.1 d_Fi_select_10 rfl (lv_at hl 0 rfl) ?_
    refine lv_aload_n G.1 G.2.1 d_Fi_select_11 rfl (lv_at hl 1 rfl) ?_
    refine lv_iload_n G.1 G.2.1 d_Fi_select_12 rfl (lv_at hl 2 rfl) ?_
    refine lv_iload_n G.1 G.2.1 d_Fi_select_13 rfl (lv_at hl 3 rfl) ?_
    refine lv_iconst (v := 5) G.1 G.2.1 d_Fi_select_14 (by decide) ?_
    refine W.eq (g2 := F0 m 15 ls [.int 5, .int v3, .int v2, .ref (ad a1), .ref (ad a0)]) rfl ?_
    refine ucVi (As := [.ref (ad a1), .int v2, .int v3, .int 5]) (rest := []) G hP hD hS (cu_Fi_seekInFaces l D g ad y _ s_2 a0 a1 v2 v3 5 H.size h_a0 h_a1 h) w9_Fi_seekInFaces q1829 ⟨Nat.le_of_ble_eq_true rfl, Nat.le_of_ble_eq_true rfl⟩ rfl rfl h_a0 (q := (RFi, TFi, 10)) rfl rfl hl.1 rfl (Nat.le_of_ble_eq_true rfl) rfl ⟨Nat.le_refl _, Nat.le_refl _⟩ d_Fi_select_15 (fun r_5 s_6 H locs h hP hD hS => ?_)
    refine lv_if_eq (tgt := 25) G.1 G.2.1 d_Fi_select_18 (by decide) (fun c18 => ?_) (fun c18 => ?_)
    · skip
      have h := h.1 c18
      refine lv_iconst (v := 0) G.1 G.2.1 d_Fi_select_25 (by decide) ?_
      exact J_26 s_6 0 H locs h hP hD hS ls (lv_sub hl [0, 1] rfl)
    · skip
      have h := h.2 c18
      exact J_21 s_6 H locs h hP hD hS ls (lv_sub hl [0, 1] rfl)
def y_Cw_trace : MethodName := ⟨"ClassWorks", "trace", "(III)I"⟩
abbrev b_Cw_trace : ByteArray := prog_1_method_39_code
theorem q1076 : Cond.fieldLink "ClassWorks" 398 "ClassWorks$Machine" "traceCount" "I" ∈ lw_ok := lw_okmem (List.mem_of_getElem? (i := 1076) (by decide +kernel)) rfl
theorem q1074 : Cond.fieldLink "ClassWorks" 401 "ClassWorks$Machine" "traceRow" "[I" ∈ lw_ok := lw_okmem (List.mem_of_getElem? (i := 1074) (by decide +kernel)) rfl
theorem d_Cw_trace_0 : decode b_Cw_trace 0 = .ok (.aload_n 0, 1) := by decide +kernel
theorem d_Cw_trace_1 : decode b_Cw_trace 1 = .ok (.iload_n 1, 1) := by decide +kernel
theorem d_Cw_trace_2 : decode b_Cw_trace 2 = .ok (.invokevirtual 129, 3) := by decide +kernel
theorem d_Cw_trace_5 : decode b_Cw_trace 5 = .ok (.astore 4, 2) := by decide +kernel
theorem d_Cw_trace_7 : decode b_Cw_trace 7 = .ok (.aload 4, 2) := by decide +kernel
theorem d_Cw_trace_9 : decode b_Cw_trace 9 = .ok (.ifnull 16, 3) := by decide +kernel
theorem d_Cw_trace_12 : decode b_Cw_trace 12 = .ok (.iload_n 2, 1) := by decide +kernel
theorem d_Cw_trace_13 : decode b_Cw_trace 13 = .ok (.ifCond .lt 12, 3) := by decide +kernel
theorem d_Cw_trace_16 : decode b_Cw_trace 16 = .ok (.iload_n 3, 1) := by decide +kernel
theorem d_Cw_trace_17 : decode b_Cw_trace 17 = .ok (.ifCond .lt 8, 3) := by decide +kernel
theorem d_Cw_trace_20 : decode b_Cw_trace 20 = .ok (.iload_n 3, 1) := by decide +kernel
theorem d_Cw_trace_21 : decode b_Cw_trace 21 = .ok (.iconst 5, 1) := by decide +kernel
theorem d_Cw_trace_22 : decode b_Cw_trace 22 = .ok (.if_icmp .lt 5, 3) := by decide +kernel
theorem d_Cw_trace_25 : decode b_Cw_trace 25 = .ok (.iconst (-1), 1) := by decide +kernel
theorem d_Cw_trace_26 : decode b_Cw_trace 26 = .ok (.ireturn, 1) := by decide +kernel
theorem d_Cw_trace_27 : decode b_Cw_trace 27 = .ok (.iload_n 2, 1) := by decide +kernel
theorem d_Cw_trace_28 : decode b_Cw_trace 28 = .ok (.aload 4, 2) := by decide +kernel
theorem d_Cw_trace_30 : decode b_Cw_trace 30 = .ok (.getfield 398, 3) := by decide +kernel
theorem d_Cw_trace_33 : decode b_Cw_trace 33 = .ok (.if_icmp .lt 8, 3) := by decide +kernel
theorem d_Cw_trace_36 : decode b_Cw_trace 36 = .ok (.bipush (-2), 2) := by decide +kernel
theorem d_Cw_trace_38 : decode b_Cw_trace 38 = .ok (.goto 14, 3) := by decide +kernel
theorem d_Cw_trace_41 : decode b_Cw_trace 41 = .ok (.aload 4, 2) := by decide +kernel
theorem d_Cw_trace_43 : decode b_Cw_trace 43 = .ok (.getfield 401, 3) := by decide +kernel
theorem d_Cw_trace_46 : decode b_Cw_trace 46 = .ok (.iload_n 2, 1) := by decide +kernel
theorem d_Cw_trace_47 : decode b_Cw_trace 47 = .ok (.iconst 5, 1) := by decide +kernel
theorem d_Cw_trace_48 : decode b_Cw_trace 48 = .ok (.imul, 1) := by decide +kernel
theorem d_Cw_trace_49 : decode b_Cw_trace 49 = .ok (.iload_n 3, 1) := by decide +kernel
theorem d_Cw_trace_50 : decode b_Cw_trace 50 = .ok (.iadd, 1) := by decide +kernel
theorem d_Cw_trace_51 : decode b_Cw_trace 51 = .ok (.iaload, 1) := by decide +kernel
theorem d_Cw_trace_52 : decode b_Cw_trace 52 = .ok (.ireturn, 1) := by decide +kernel
abbrev ru_Cw_trace : Room := { frames := 1, cells := 0, slots := 0, locals := 21 }
def wj_Cw_trace_25 (y : Ly) (Post : St → Int32 → Prop) (a0 : Nat) (s_j25 : St) : Prop := Post s_j25 (-1)
def wj_Cw_trace_52 (y : Ly) (Post : St → Int32 → Prop) (a0 : Nat) (s_j52 : St) (z0j52 : Int32) : Prop := Post s_j52 z0j52
def wu_Cw_trace (y : Ly) (Post : St → Int32 → Prop) (σ : St) (a0 : Nat) (v1 : Int32) (v2 : Int32) (v3 : Int32) : Prop := wu_Cw_machine y (fun (s_2 : St) (r_1 : Option Nat) => ((r_1 = none → wj_Cw_trace_25 y Post a0 s_2) ∧ (∀ r_1b : Nat, r_1 = some r_1b → (cl r_1b = 4 ∧ ((v2 < 0 → wj_Cw_trace_25 y Post a0 s_2) ∧ (¬ (v2 < 0) → ((v3 < 0 → wj_Cw_trace_25 y Post a0 s_2) ∧ (¬ (v3 < 0) → ((v3 < 5 → ((v2 < (sV s_2 r_1b 5) → xA y s_2 r_1b 4 ((v2 * 5) + v3) (fun x_3 : Int32 => wj_Cw_trace_52 y Post a0 s_2 x_3)) ∧ (¬ (v2 < (sV s_2 r_1b 5)) → wj_Cw_trace_52 y Post a0 s_2 (-2)))) ∧ (¬ (v3 < 5) → wj_Cw_trace_25 y Post a0 s_2)))))))))) σ a0 v1
set_option maxHeartbeats 4000000 in
set_option maxRecDepth 100000 in
theorem cu_Cw_trace (l : Launch) (D : va_G) (g : Nat → ClassId) (ad : Nat → Nat) (y : Ly) (Post : St → Int32 → Prop) (σ : St) (a0 : Nat) (v1 : Int32) (v2 : Int32) (v3 : Int32) (sz : Nat) (h_a0 : cl a0 = 11) (h : wu_Cw_trace y Post σ a0 v1 v2 v3) : Met l y_Cw_trace (mw y_Cw_trace b_Cw_trace 5 (some .int)) ru_Cw_trace (PC g D [] [.ref (ad a0), .int v1, .int v2, .int v3] sz (ws g ad y σ)) (va_Qi (fun (r : Int32) (u : St) => Post u r) (QW D (va_A (ws g ad y σ) sz) (fun u => ws g ad y u)) (va_A (ws g ad y σ) sz)) 0 0 (va_A (ws g ad y σ) sz) := by
  refine ofI (by decide +kernel) (Nat.le_of_ble_eq_true rfl) ?_
  intro p e s m args below meth c A Q ls H locs G hsz hP hD hS hl hret
  subst hsz
  have hl : lv_has ls 5 [(0, .ref (ad a0)), (1, .int v1), (2, .int v2), (3, .int v3)] := hl
  unfold wu_Cw_trace at h
  refine lv_aload_n G.1 G.2.1 d_Cw_trace_0 rfl (lv_at hl 0 rfl) ?_
  refine lv_iload_n G.1 G.2.1 d_Cw_trace_1 rfl (lv_at hl 1 rfl) ?_
  refine ucVq (As := [.int v1]) (rest := []) G hP hD hS (cu_Cw_machine l D g ad y _ σ a0 v1 H.size h_a0 h) w9_Cw_machine q1248 ⟨Nat.le_of_ble_eq_true rfl, Nat.le_of_ble_eq_true rfl⟩ rfl rfl h_a0 (q := (RCw, TCw, 20)) rfl rfl hl.1 rfl (Nat.le_of_ble_eq_true rfl) rfl ⟨Nat.le_refl _, Nat.le_refl _⟩ d_Cw_trace_2 (fun r_1 s_2 H locs h hP hD hS => ?_)
  rcases r_1 with _ | r_1b
  · skip
    have h := h.1 rfl
    show W p l e ru_Cw_trace s m args below meth c H locs 0 0 Q (F0 m 5 ls [.null])
    refine lv_astoreN (lv' := [(4, .null), (0, .ref (ad a0)), (1, .int v1), (2, .int v2), (3, .int v3)]) G.1 G.2.1 d_Cw_trace_5 hl (by decide) rfl (fun ls hl => ?_)
    refine lv_aloadN G.1 G.2.1 d_Cw_trace_7 (lv_at hl 0 rfl) ?_
    have J_25 : ∀ (s_j25 : St) (H : Heap) (locs : List Loc), wj_Cw_trace_25 y Post a0 s_j25 → va_P D CL (ws g ad y s_j25) H → va_D A (ws g ad y s_j25) → va_S A s.heap H locs → ∀ ls, lv_has ls 5 [] → W p l e ru_Cw_trace s m args below meth c H locs 0 0 Q (F0 m 25 ls []) := by
      intro s_j25 H locs h hP hD hS ls hl
      unfold wj_Cw_trace_25 at h
      refine lv_iconst (v := (-1)) G.1 G.2.1 d_Cw_trace_25 (by decide) ?_
      exact hret _ _ _ _ _ _ _ ls h hP hD hS (Nat.le_refl _) (Nat.le_refl _) d_Cw_trace_26
    refine lv_ifnullN (tgt := 25) G.1 G.2.1 d_Cw_trace_9 (by decide) ?_
    exact J_25 s_2 H locs h hP hD hS ls (lv_sub hl [] rfl)
  · skip
    obtain ⟨c_r_1b, h⟩ := h.2 _ rfl
    show W p l e ru_Cw_trace s m args below meth c H locs 0 0 Q (F0 m 5 ls [.ref (ad r_1b)])
    refine lv_astore (lv' := [(4, .ref (ad r_1b)), (0, .ref (ad a0)), (1, .int v1), (2, .int v2), (3, .int v3)]) G.1 G.2.1 d_Cw_trace_5 hl (by decide) rfl (fun ls hl => ?_)
    refine lv_aload G.1 G.2.1 d_Cw_trace_7 (lv_at hl 0 rfl) ?_
    have J_25 : ∀ (s_j25 : St) (H : Heap) (locs : List Loc), wj_Cw_trace_25 y Post a0 s_j25 → va_P D CL (ws g ad y s_j25) H → va_D A (ws g ad y s_j25) → va_S A s.heap H locs → ∀ ls, lv_has ls 5 [] → W p l e ru_Cw_trace s m args below meth c H locs 0 0 Q (F0 m 25 ls []) := by
      intro s_j25 H locs h hP hD hS ls hl
      unfold wj_Cw_trace_25 at h
      refine lv_iconst (v := (-1)) G.1 G.2.1 d_Cw_trace_25 (by decide) ?_
      exact hret _ _ _ _ _ _ _ ls h hP hD hS (Nat.le_refl _) (Nat.le_refl _) d_Cw_trace_26
    refine lv_ifnull G.1 G.2.1 d_Cw_trace_9 ?_
    refine lv_iload_n G.1 G.2.1 d_Cw_trace_12 rfl (lv_at hl 3 rfl) ?_
    refine lv_if_lt (tgt := 25) G.1 G.2.1 d_Cw_trace_13 (by decide) (fun c13 => ?_) (fun c13 => ?_)
    · skip
      have h := h.1 c13
      exact J_25 s_2 H locs h hP hD hS ls (lv_sub hl [] rfl)
    · skip
      have h := h.2 c13
      refine lv_iload_n G.1 G.2.1 d_Cw_trace_16 rfl (lv_at hl 4 rfl) ?_
      refine lv_if_lt (tgt := 25) G.1 G.2.1 d_Cw_trace_17 (by decide) (fun c17 => ?_) (fun c17 => ?_)
      · skip
        have h := h.1 c17
        exact J_25 s_2 H locs h hP hD hS ls (lv_sub hl [] rfl)
      · skip
        have h := h.2 c17
        refine lv_iload_n G.1 G.2.1 d_Cw_trace_20 rfl (lv_at hl 4 rfl) ?_
        refine W.eq (g2 := F0 m 21 ls [.int v3]) rfl ?_
        refine lv_iconst (v := 5) G.1 G.2.1 d_Cw_trace_21 (by decide) ?_
        refine lv_icmp_lt (tgt := 27) G.1 G.2.1 d_Cw_trace_22 (by decide) (fun c22 => ?_) (fun c22 => ?_)
        · skip
          have h := h.1 c22
          refine lv_iload_n G.1 G.2.1 d_Cw_trace_27 rfl (lv_at hl 3 rfl) ?_
          refine lv_aload G.1 G.2.1 d_Cw_trace_28 (lv_at hl 0 rfl) ?_
          refine ugf (v := .int (sV s_2 r_1b 5)) G hP c_r_1b iMa rfl 5 (by decide) rfl q1076 rfl rfl d_Cw_trace_30 ?_
          have J_52 : ∀ (s_j52 : St) (z0j52 : Int32) (H : Heap) (locs : List Loc), wj_Cw_trace_52 y Post a0 s_j52 z0j52 → va_P D CL (ws g ad y s_j52) H → va_D A (ws g ad y s_j52) → va_S A s.heap H locs → ∀ ls, lv_has ls 5 [] → W p l e ru_Cw_trace s m args below meth c H locs 0 0 Q (F0 m 52 ls [.int z0j52]) := by
            intro s_j52 z0j52 H locs h hP hD hS ls hl
            unfold wj_Cw_trace_52 at h
            exact hret _ _ _ _ _ _ _ ls h hP hD hS (Nat.le_refl _) (Nat.le_refl _) d_Cw_trace_52
          refine lv_icmp_lt (tgt := 41) G.1 G.2.1 d_Cw_trace_33 (by decide) (fun c33 => ?_) (fun c33 => ?_)
          · skip
            have h := h.1 c33
            refine lv_aload G.1 G.2.1 d_Cw_trace_41 (lv_at hl 0 rfl) ?_
            refine ugf (v := .ref (yP y r_1b 4)) G hP c_r_1b iMa rfl 4 (by decide) rfl q1074 rfl rfl d_Cw_trace_43 ?_
            refine lv_iload_n G.1 G.2.1 d_Cw_trace_46 rfl (lv_at hl 3 rfl) ?_
            refine lv_iconst (v := 5) G.1 G.2.1 d_Cw_trace_47 (by decide) ?_
            refine lv_imul G.1 G.2.1 d_Cw_trace_48 ?_
            refine lv_iload_n G.1 G.2.1 d_Cw_trace_49 rfl (lv_at hl 4 rfl) ?_
            refine W.eq (g2 := F0 m 50 ls [.int v3, .int (v2 * 5), .ref (yP y r_1b 4)]) rfl ?_
            refine lv_iadd G.1 G.2.1 d_Cw_trace_50 ?_
            refine uiald G hP (kdp c_r_1b rfl) (typ c_r_1b rfl) h d_Cw_trace_51 (fun x_3 h => ?_)
            exact J_52 s_2 x_3 H locs h hP hD hS ls (lv_sub hl [] rfl)
          · skip
            have h := h.2 c33
            refine lv_bipush (v := (-2)) G.1 G.2.1 d_Cw_trace_36 (by decide) ?_
            refine lv_goto (tgt := 52) G.1 G.2.1 d_Cw_trace_38 (by decide) ?_
            exact J_52 s_2 (-2) H locs h hP hD hS ls (lv_sub hl [] rfl)
        · skip
          have h := h.2 c22
          exact J_25 s_2 H locs h hP hD hS ls (lv_sub hl [] rfl)
def y_Cw_done : MethodName := ⟨"ClassWorks", "done", "(II)I"⟩
abbrev b_Cw_done : ByteArray := prog_1_method_40_code
theorem q1072 : Cond.fieldLink "ClassWorks" 404 "ClassWorks$Machine" "counts" "[I" ∈ lw_ok := lw_okmem (List.mem_of_getElem? (i := 1072) (by decide +kernel)) rfl
theorem d_Cw_done_0 : decode b_Cw_done 0 = .ok (.aload_n 0, 1) := by decide +kernel
theorem d_Cw_done_1 : decode b_Cw_done 1 = .ok (.iload_n 1, 1) := by decide +kernel
theorem d_Cw_done_2 : decode b_Cw_done 2 = .ok (.invokevirtual 129, 3) := by decide +kernel
theorem d_Cw_done_5 : decode b_Cw_done 5 = .ok (.astore_n 3, 1) := by decide +kernel
theorem d_Cw_done_6 : decode b_Cw_done 6 = .ok (.aload_n 3, 1) := by decide +kernel
theorem d_Cw_done_7 : decode b_Cw_done 7 = .ok (.ifnull 13, 3) := by decide +kernel
theorem d_Cw_done_10 : decode b_Cw_done 10 = .ok (.iload_n 2, 1) := by decide +kernel
theorem d_Cw_done_11 : decode b_Cw_done 11 = .ok (.ifCond .lt 9, 3) := by decide +kernel
theorem d_Cw_done_14 : decode b_Cw_done 14 = .ok (.iload_n 2, 1) := by decide +kernel
theorem d_Cw_done_15 : decode b_Cw_done 15 = .ok (.bipush 62, 2) := by decide +kernel
theorem d_Cw_done_17 : decode b_Cw_done 17 = .ok (.if_icmp .lt 7, 3) := by decide +kernel
theorem d_Cw_done_20 : decode b_Cw_done 20 = .ok (.iconst (-1), 1) := by decide +kernel
theorem d_Cw_done_21 : decode b_Cw_done 21 = .ok (.goto 9, 3) := by decide +kernel
theorem d_Cw_done_24 : decode b_Cw_done 24 = .ok (.aload_n 3, 1) := by decide +kernel
theorem d_Cw_done_25 : decode b_Cw_done 25 = .ok (.getfield 404, 3) := by decide +kernel
theorem d_Cw_done_28 : decode b_Cw_done 28 = .ok (.iload_n 2, 1) := by decide +kernel
theorem d_Cw_done_29 : decode b_Cw_done 29 = .ok (.iaload, 1) := by decide +kernel
theorem d_Cw_done_30 : decode b_Cw_done 30 = .ok (.ireturn, 1) := by decide +kernel
abbrev ru_Cw_done : Room := { frames := 1, cells := 0, slots := 0, locals := 21 }
def wj_Cw_done_30 (y : Ly) (Post : St → Int32 → Prop) (a0 : Nat) (s_j30 : St) (z0j30 : Int32) : Prop := Post s_j30 z0j30
def wj_Cw_done_20 (y : Ly) (Post : St → Int32 → Prop) (a0 : Nat) (s_j20 : St) : Prop := wj_Cw_done_30 y Post a0 s_j20 (-1)
def wu_Cw_done (y : Ly) (Post : St → Int32 → Prop) (σ : St) (a0 : Nat) (v1 : Int32) (v2 : Int32) : Prop := wu_Cw_machine y (fun (s_2 : St) (r_1 : Option Nat) => ((r_1 = none → wj_Cw_done_20 y Post a0 s_2) ∧ (∀ r_1b : Nat, r_1 = some r_1b → (cl r_1b = 4 ∧ ((v2 < 0 → wj_Cw_done_20 y Post a0 s_2) ∧ (¬ (v2 < 0) → ((v2 < 62 → xA y s_2 r_1b 3 v2 (fun x_3 : Int32 => wj_Cw_done_30 y Post a0 s_2 x_3)) ∧ (¬ (v2 < 62) → wj_Cw_done_20 y Post a0 s_2)))))))) σ a0 v1
set_option maxHeartbeats 4000000 in
set_option maxRecDepth 100000 in
theorem cu_Cw_done (l : Launch) (D : va_G) (g : Nat → ClassId) (ad : Nat → Nat) (y : Ly) (Post : St → Int32 → Prop) (σ : St) (a0 : Nat) (v1 : Int32) (v2 : Int32) (sz : Nat) (h_a0 : cl a0 = 11) (h : wu_Cw_done y Post σ a0 v1 v2) : Met l y_Cw_done (mw y_Cw_done b_Cw_done 4 (some .int)) ru_Cw_done (PC g D [] [.ref (ad a0), .int v1, .int v2] sz (ws g ad y σ)) (va_Qi (fun (r : Int32) (u : St) => Post u r) (QW D (va_A (ws g ad y σ) sz) (fun u => ws g ad y u)) (va_A (ws g ad y σ) sz)) 0 0 (va_A (ws g ad y σ) sz) := by
  refine ofI (by decide +kernel) (Nat.le_of_ble_eq_true rfl) ?_
  intro p e s m args below meth c A Q ls H locs G hsz hP hD hS hl hret
  subst hsz
  have hl : lv_has ls 4 [(0, .ref (ad a0)), (1, .int v1), (2, .int v2)] := hl
  unfold wu_Cw_done at h
  refine lv_aload_n G.1 G.2.1 d_Cw_done_0 rfl (lv_at hl 0 rfl) ?_
  refine lv_iload_n G.1 G.2.1 d_Cw_done_1 rfl (lv_at hl 1 rfl) ?_
  refine ucVq (As := [.int v1]) (rest := []) G hP hD hS (cu_Cw_machine l D g ad y _ σ a0 v1 H.size h_a0 h) w9_Cw_machine q1248 ⟨Nat.le_of_ble_eq_true rfl, Nat.le_of_ble_eq_true rfl⟩ rfl rfl h_a0 (q := (RCw, TCw, 20)) rfl rfl hl.1 rfl (Nat.le_of_ble_eq_true rfl) rfl ⟨Nat.le_refl _, Nat.le_refl _⟩ d_Cw_done_2 (fun r_1 s_2 H locs h hP hD hS => ?_)
  rcases r_1 with _ | r_1b
  · skip
    have h := h.1 rfl
    show W p l e ru_Cw_done s m args below meth c H locs 0 0 Q (F0 m 5 ls [.null])
    refine lv_astore_nN (lv' := [(3, .null), (0, .ref (ad a0)), (1, .int v1), (2, .int v2)]) G.1 G.2.1 d_Cw_done_5 rfl hl (by decide) rfl (fun ls hl => ?_)
    refine lv_aload_nN G.1 G.2.1 d_Cw_done_6 rfl (lv_at hl 0 rfl) ?_
    have J_30 : ∀ (s_j30 : St) (z0j30 : Int32) (H : Heap) (locs : List Loc), wj_Cw_done_30 y Post a0 s_j30 z0j30 → va_P D CL (ws g ad y s_j30) H → va_D A (ws g ad y s_j30) → va_S A s.heap H locs → ∀ ls, lv_has ls 4 [] → W p l e ru_Cw_done s m args below meth c H locs 0 0 Q (F0 m 30 ls [.int z0j30]) := by
      intro s_j30 z0j30 H locs h hP hD hS ls hl
      unfold wj_Cw_done_30 at h
      exact hret _ _ _ _ _ _ _ ls h hP hD hS (Nat.le_refl _) (Nat.le_refl _) d_Cw_done_30
    have J_20 : ∀ (s_j20 : St) (H : Heap) (locs : List Loc), wj_Cw_done_20 y Post a0 s_j20 → va_P D CL (ws g ad y s_j20) H → va_D A (ws g ad y s_j20) → va_S A s.heap H locs → ∀ ls, lv_has ls 4 [] → W p l e ru_Cw_done s m args below meth c H locs 0 0 Q (F0 m 20 ls []) := by
      intro s_j20 H locs h hP hD hS ls hl
      unfold wj_Cw_done_20 at h
      refine lv_iconst (v := (-1)) G.1 G.2.1 d_Cw_done_20 (by decide) ?_
      refine lv_goto (tgt := 30) G.1 G.2.1 d_Cw_done_21 (by decide) ?_
      exact J_30 s_j20 (-1) H locs h hP hD hS ls (lv_sub hl [] rfl)
    refine lv_ifnullN (tgt := 20) G.1 G.2.1 d_Cw_done_7 (by decide) ?_
    exact J_20 s_2 H locs h hP hD hS ls (lv_sub hl [] rfl)
  · skip
    obtain ⟨c_r_1b, h⟩ := h.2 _ rfl
    show W p l e ru_Cw_done s m args below meth c H locs 0 0 Q (F0 m 5 ls [.ref (ad r_1b)])
    refine lv_astore_n (lv' := [(3, .ref (ad r_1b)), (0, .ref (ad a0)), (1, .int v1), (2, .int v2)]) G.1 G.2.1 d_Cw_done_5 rfl hl (by decide) rfl (fun ls hl => ?_)
    refine lv_aload_n G.1 G.2.1 d_Cw_done_6 rfl (lv_at hl 0 rfl) ?_
    have J_30 : ∀ (s_j30 : St) (z0j30 : Int32) (H : Heap) (locs : List Loc), wj_Cw_done_30 y Post a0 s_j30 z0j30 → va_P D CL (ws g ad y s_j30) H → va_D A (ws g ad y s_j30) → va_S A s.heap H locs → ∀ ls, lv_has ls 4 [] → W p l e ru_Cw_done s m args below meth c H locs 0 0 Q (F0 m 30 ls [.int z0j30]) := by
      intro s_j30 z0j30 H locs h hP hD hS ls hl
      unfold wj_Cw_done_30 at h
      exact hret _ _ _ _ _ _ _ ls h hP hD hS (Nat.le_refl _) (Nat.le_refl _) d_Cw_done_30
    have J_20 : ∀ (s_j20 : St) (H : Heap) (locs : List Loc), wj_Cw_done_20 y Post a0 s_j20 → va_P D CL (ws g ad y s_j20) H → va_D A (ws g ad y s_j20) → va_S A s.heap H locs → ∀ ls, lv_has ls 4 [] → W p l e ru_Cw_done s m args below meth c H locs 0 0 Q (F0 m 20 ls []) := by
      intro s_j20 H locs h hP hD hS ls hl
      unfold wj_Cw_done_20 at h
      refine lv_iconst (v := (-1)) G.1 G.2.1 d_Cw_done_20 (by decide) ?_
      refine lv_goto (tgt := 30) G.1 G.2.1 d_Cw_done_21 (by decide) ?_
      exact J_30 s_j20 (-1) H locs h hP hD hS ls (lv_sub hl [] rfl)
    refine lv_ifnull G.1 G.2.1 d_Cw_done_7 ?_
    refine lv_iload_n G.1 G.2.1 d_Cw_done_10 rfl (lv_at hl 3 rfl) ?_
    refine lv_if_lt (tgt := 20) G.1 G.2.1 d_Cw_done_11 (by decide) (fun c11 => ?_) (fun c11 => ?_)
    · skip
      have h := h.1 c11
      exact J_20 s_2 H locs h hP hD hS ls (lv_sub hl [] rfl)
    · skip
      have h := h.2 c11
      refine lv_iload_n G.1 G.2.1 d_Cw_done_14 rfl (lv_at hl 3 rfl) ?_
      refine lv_bipush (v := 62) G.1 G.2.1 d_Cw_done_15 (by decide) ?_
      refine lv_icmp_lt (tgt := 24) G.1 G.2.1 d_Cw_done_17 (by decide) (fun c17 => ?_) (fun c17 => ?_)
      · skip
        have h := h.1 c17
        refine W.eq (g2 := F0 m 24 ls []) rfl ?_
        refine lv_aload_n G.1 G.2.1 d_Cw_done_24 rfl (lv_at hl 0 rfl) ?_
        refine ugf (v := .ref (yP y r_1b 3)) G hP c_r_1b iMa rfl 3 (by decide) rfl q1072 rfl rfl d_Cw_done_25 ?_
        refine lv_iload_n G.1 G.2.1 d_Cw_done_28 rfl (lv_at hl 3 rfl) ?_
        refine uiald G hP (kdp c_r_1b rfl) (typ c_r_1b rfl) h d_Cw_done_29 (fun x_3 h => ?_)
        exact J_30 s_2 x_3 H locs h hP hD hS ls (lv_sub hl [] rfl)
      · skip
        have h := h.2 c17
        exact J_20 s_2 H locs h hP hD hS ls (lv_sub hl [] rfl)
theorem q933 : Cond.fieldLink "ClassWorks$Heap" 55 "ClassWorks$Heap" "touched" "[B" ∈ lw_ok := lw_okmem (List.mem_of_getElem? (i := 933) (by decide +kernel)) rfl
theorem q2361 : Cond.methodLink "ClassWorks$Heap" 98 y_Ja_fill_aBBV ∈ lw_ok := lw_okmem (List.mem_of_getElem? (i := 2361) (by decide +kernel)) rfl
theorem q2363 : Cond.code y_Ja_fill_aBBV b_Ja_fill_aBBV 4 (none) ∈ lw_ok := lw_okmem (List.mem_of_getElem? (i := 2363) (by decide +kernel)) rfl
theorem q2362 : Cond.static y_Ja_fill_aBBV ∈ lw_ok := lw_okmem (List.mem_of_getElem? (i := 2362) (by decide +kernel)) rfl
theorem w9_Ja_fill_aBBV : CWv y_Ja_fill_aBBV b_Ja_fill_aBBV 4 (none) 2 ∧ Cond.static y_Ja_fill_aBBV ∈ lw_ok := ⟨⟨q2363, q332, by decide +kernel, by decide +kernel, by decide +kernel⟩, q2362⟩
def y_Hp_beginTouch : MethodName := ⟨"ClassWorks$Heap", "beginTouch", "()V"⟩
abbrev b_Hp_beginTouch : ByteArray := prog_4_method_18_code
theorem q935 : Cond.fieldLink "ClassWorks$Heap" 62 "ClassWorks$Heap" "opened" "I" ∈ lw_ok := lw_okmem (List.mem_of_getElem? (i := 935) (by decide +kernel)) rfl
theorem d_Hp_beginTouch_0 : decode b_Hp_beginTouch 0 = .ok (.aload_n 0, 1) := by decide +kernel
theorem d_Hp_beginTouch_1 : decode b_Hp_beginTouch 1 = .ok (.getfield 55, 3) := by decide +kernel
theorem d_Hp_beginTouch_4 : decode b_Hp_beginTouch 4 = .ok (.iconst 0, 1) := by decide +kernel
theorem d_Hp_beginTouch_5 : decode b_Hp_beginTouch 5 = .ok (.invokestatic 98, 3) := by decide +kernel
theorem d_Hp_beginTouch_8 : decode b_Hp_beginTouch 8 = .ok (.aload_n 0, 1) := by decide +kernel
theorem d_Hp_beginTouch_9 : decode b_Hp_beginTouch 9 = .ok (.iconst 0, 1) := by decide +kernel
theorem d_Hp_beginTouch_10 : decode b_Hp_beginTouch 10 = .ok (.putfield 62, 3) := by decide +kernel
theorem d_Hp_beginTouch_13 : decode b_Hp_beginTouch 13 = .ok (.return_, 1) := by decide +kernel
abbrev ru_Hp_beginTouch : Room := { frames := 1, cells := 0, slots := 0, locals := 23 }
def wu_Hp_beginTouch (y : Ly) (Post : St → Prop) (σ : St) (a0 : Nat) : Prop := wu_Ja_fill_aBBV y (fun (s_2 : St) => xP (uV s_2 a0 14 0) (fun s_3 : St => Post s_3)) σ a0 12 0
set_option maxHeartbeats 4000000 in
set_option maxRecDepth 100000 in
theorem cu_Hp_beginTouch (l : Launch) (D : va_G) (g : Nat → ClassId) (ad : Nat → Nat) (y : Ly) (Post : St → Prop) (σ : St) (a0 : Nat) (sz : Nat) (h_a0 : cl a0 = 2) (h : wu_Hp_beginTouch y Post σ a0) : Met l y_Hp_beginTouch (mw y_Hp_beginTouch b_Hp_beginTouch 1 (none)) ru_Hp_beginTouch (PC g D [] [.ref (ad a0)] sz (ws g ad y σ)) (va_Qv (fun u : St => Post u) (QW D (va_A (ws g ad y σ) sz) (fun u => ws g ad y u)) (va_A (ws g ad y σ) sz)) 0 0 (va_A (ws g ad y σ) sz) := by
  refine ofV (by decide +kernel) (Nat.le_of_ble_eq_true rfl) ?_
  intro p e s m args below meth c A Q ls H locs G hsz hP hD hS hl hret
  subst hsz
  have hl : lv_has ls 1 [(0, .ref (ad a0))] := hl
  unfold wu_Hp_beginTouch at h
  refine lv_aload_n G.1 G.2.1 d_Hp_beginTouch_0 rfl (lv_at hl 0 rfl) ?_
  refine ugf (v := .ref (yP y a0 12)) G hP h_a0 iHp rfl 12 (by decide) rfl q933 rfl rfl d_Hp_beginTouch_1 ?_
  refine lv_iconst (v := 0) G.1 G.2.1 d_Hp_beginTouch_4 (by decide) ?_
  refine ucSv (As := [.ref (yP y a0 12), .int 0]) (rest := []) G hP hD hS (cu_Ja_fill_aBBV l D g ad y _ σ a0 12 0 H.size ⟨(kdp h_a0 rfl), (typ h_a0 rfl)⟩ h) w9_Ja_fill_aBBV q2361 ⟨Nat.le_of_ble_eq_true rfl, Nat.le_of_ble_eq_true rfl⟩ rfl rfl hl.1 rfl (Nat.le_of_ble_eq_true rfl) rfl ⟨Nat.le_refl _, Nat.le_refl _⟩ d_Hp_beginTouch_5 (fun s_2 H locs h hP hD hS => ?_)
  refine lv_aload_n G.1 G.2.1 d_Hp_beginTouch_8 rfl (lv_at hl 0 rfl) ?_
  refine lv_iconst (v := 0) G.1 G.2.1 d_Hp_beginTouch_9 (by decide) ?_
  refine upf G hP hD hS h 14 putV h_a0 iHp tHp tHp_ok nHp rfl (by decide) rfl q935 rfl rfl fV rfl rfl d_Hp_beginTouch_10 (fun s_3 H locs h hP hD hS => ?_)
  exact hret _ _ _ _ _ _ ls h hP hD hS (Nat.le_refl _) (Nat.le_refl _) d_Hp_beginTouch_13
def y_Hp_touch : MethodName := ⟨"ClassWorks$Heap", "touch", "(I)V"⟩
abbrev b_Hp_touch : ByteArray := prog_4_method_19_code
theorem q2368 : Cond.methodLink "ClassWorks$Heap" 101 y_Hp_there ∈ lw_ok := lw_okmem (List.mem_of_getElem? (i := 2368) (by decide +kernel)) rfl
theorem q934 : Cond.fieldLink "ClassWorks$Heap" 59 "ClassWorks$Heap" "open" "[I" ∈ lw_ok := lw_okmem (List.mem_of_getElem? (i := 934) (by decide +kernel)) rfl
theorem d_Hp_touch_0 : decode b_Hp_touch 0 = .ok (.aload_n 0, 1) := by decide +kernel
theorem d_Hp_touch_1 : decode b_Hp_touch 1 = .ok (.iload_n 1, 1) := by decide +kernel
theorem d_Hp_touch_2 : decode b_Hp_touch 2 = .ok (.invokevirtual 101, 3) := by decide +kernel
theorem d_Hp_touch_5 : decode b_Hp_touch 5 = .ok (.ifCond .eq 39, 3) := by decide +kernel
theorem d_Hp_touch_8 : decode b_Hp_touch 8 = .ok (.aload_n 0, 1) := by decide +kernel
theorem d_Hp_touch_9 : decode b_Hp_touch 9 = .ok (.getfield 55, 3) := by decide +kernel
theorem d_Hp_touch_12 : decode b_Hp_touch 12 = .ok (.iload_n 1, 1) := by decide +kernel
theorem d_Hp_touch_13 : decode b_Hp_touch 13 = .ok (.baload, 1) := by decide +kernel
theorem d_Hp_touch_14 : decode b_Hp_touch 14 = .ok (.ifCond .ne 30, 3) := by decide +kernel
theorem d_Hp_touch_17 : decode b_Hp_touch 17 = .ok (.aload_n 0, 1) := by decide +kernel
theorem d_Hp_touch_18 : decode b_Hp_touch 18 = .ok (.getfield 55, 3) := by decide +kernel
theorem d_Hp_touch_21 : decode b_Hp_touch 21 = .ok (.iload_n 1, 1) := by decide +kernel
theorem d_Hp_touch_22 : decode b_Hp_touch 22 = .ok (.iconst 1, 1) := by decide +kernel
theorem d_Hp_touch_23 : decode b_Hp_touch 23 = .ok (.bastore, 1) := by decide +kernel
theorem d_Hp_touch_24 : decode b_Hp_touch 24 = .ok (.aload_n 0, 1) := by decide +kernel
theorem d_Hp_touch_25 : decode b_Hp_touch 25 = .ok (.getfield 59, 3) := by decide +kernel
theorem d_Hp_touch_28 : decode b_Hp_touch 28 = .ok (.aload_n 0, 1) := by decide +kernel
theorem d_Hp_touch_29 : decode b_Hp_touch 29 = .ok (.getfield 62, 3) := by decide +kernel
theorem d_Hp_touch_32 : decode b_Hp_touch 32 = .ok (.iload_n 1, 1) := by decide +kernel
theorem d_Hp_touch_33 : decode b_Hp_touch 33 = .ok (.iastore, 1) := by decide +kernel
theorem d_Hp_touch_34 : decode b_Hp_touch 34 = .ok (.aload_n 0, 1) := by decide +kernel
theorem d_Hp_touch_35 : decode b_Hp_touch 35 = .ok (.dup, 1) := by decide +kernel
theorem d_Hp_touch_36 : decode b_Hp_touch 36 = .ok (.getfield 62, 3) := by decide +kernel
theorem d_Hp_touch_39 : decode b_Hp_touch 39 = .ok (.iconst 1, 1) := by decide +kernel
theorem d_Hp_touch_40 : decode b_Hp_touch 40 = .ok (.iadd, 1) := by decide +kernel
theorem d_Hp_touch_41 : decode b_Hp_touch 41 = .ok (.putfield 62, 3) := by decide +kernel
theorem d_Hp_touch_44 : decode b_Hp_touch 44 = .ok (.return_, 1) := by decide +kernel
abbrev ru_Hp_touch : Room := { frames := 1, cells := 0, slots := 0, locals := 21 }
def wj_Hp_touch_44 (y : Ly) (Post : St → Prop) (a0 : Nat) (s_j44 : St) : Prop := Post s_j44
def wu_Hp_touch (y : Ly) (Post : St → Prop) (σ : St) (a0 : Nat) (v1 : Int32) : Prop := wu_Hp_there y (fun (s_2 : St) (r_1 : Int32) => ((r_1 = 0 → wj_Hp_touch_44 y Post a0 s_2) ∧ (¬ (r_1 = 0) → xA y s_2 a0 12 v1 (fun x_3 : Int32 => ((¬ x_3 = 0 → wj_Hp_touch_44 y Post a0 s_2) ∧ (x_3 = 0 → xS y s_2 a0 12 v1 (vp_nar .byte 1) (fun s_4 : St => xS y s_4 a0 13 (sV s_4 a0 14) v1 (fun s_5 : St => xP (uV s_5 a0 14 ((sV s_5 a0 14) + 1)) (fun s_6 : St => wj_Hp_touch_44 y Post a0 s_6))))))))) σ a0 v1
set_option maxHeartbeats 4000000 in
set_option maxRecDepth 100000 in
theorem cu_Hp_touch (l : Launch) (D : va_G) (g : Nat → ClassId) (ad : Nat → Nat) (y : Ly) (Post : St → Prop) (σ : St) (a0 : Nat) (v1 : Int32) (sz : Nat) (h_a0 : cl a0 = 2) (h : wu_Hp_touch y Post σ a0 v1) : Met l y_Hp_touch (mw y_Hp_touch b_Hp_touch 2 (none)) ru_Hp_touch (PC g D [] [.ref (ad a0), .int v1] sz (ws g ad y σ)) (va_Qv (fun u : St => Post u) (QW D (va_A (ws g ad y σ) sz) (fun u => ws g ad y u)) (va_A (ws g ad y σ) sz)) 0 0 (va_A (ws g ad y σ) sz) := by
  refine ofV (by decide +kernel) (Nat.le_of_ble_eq_true rfl) ?_
  intro p e s m args below meth c A Q ls H locs G hsz hP hD hS hl hret
  subst hsz
  have hl : lv_has ls 2 [(0, .ref (ad a0)), (1, .int v1)] := hl
  unfold wu_Hp_touch at h
  refine lv_aload_n G.1 G.2.1 d_Hp_touch_0 rfl (lv_at hl 0 rfl) ?_
  refine lv_iload_n G.1 G.2.1 d_Hp_touch_1 rfl (lv_at hl 1 rfl) ?_
  refine ucVi (As := [.int v1]) (rest := []) G hP hD hS (cu_Hp_there l D g ad y _ σ a0 v1 H.size h_a0 h) w9_Hp_there q2368 ⟨Nat.le_of_ble_eq_true rfl, Nat.le_of_ble_eq_true rfl⟩ rfl rfl h_a0 (q := (RHp, THp, 15)) rfl rfl hl.1 rfl (Nat.le_of_ble_eq_true rfl) rfl ⟨Nat.le_refl _, Nat.le_refl _⟩ d_Hp_touch_2 (fun r_1 s_2 H locs h hP hD hS => ?_)
  have J_44 : ∀ (s_j44 : St) (H : Heap) (locs : List Loc), wj_Hp_touch_44 y Post a0 s_j44 → va_P D CL (ws g ad y s_j44) H → va_D A (ws g ad y s_j44) → va_S A s.heap H locs → ∀ ls, lv_has ls 2 [] → W p l e ru_Hp_touch s m args below meth c H locs 0 0 Q (F0 m 44 ls []) := by
    intro s_j44 H locs h hP hD hS ls hl
    unfold wj_Hp_touch_44 at h
    exact hret _ _ _ _ _ _ ls h hP hD hS (Nat.le_refl _) (Nat.le_refl _) d_Hp_touch_44
  refine lv_if_eq (tgt := 44) G.1 G.2.1 d_Hp_touch_5 (by decide) (fun c5 => ?_) (fun c5 => ?_)
  · skip
    have h := h.1 c5
    exact J_44 s_2 H locs h hP hD hS ls (lv_sub hl [] rfl)
  · skip
    have h := h.2 c5
    refine lv_aload_n G.1 G.2.1 d_Hp_touch_8 rfl (lv_at hl 0 rfl) ?_
    refine ugf (v := .ref (yP y a0 12)) G hP h_a0 iHp rfl 12 (by decide) rfl q933 rfl rfl d_Hp_touch_9 ?_
    refine lv_iload_n G.1 G.2.1 d_Hp_touch_12 rfl (lv_at hl 1 rfl) ?_
    refine ubald G hP (kdp h_a0 rfl) (typ h_a0 rfl) h d_Hp_touch_13 (fun x_3 h => ?_)
    refine lv_if_ne (tgt := 44) G.1 G.2.1 d_Hp_touch_14 (by decide) (fun c14 => ?_) (fun c14 => ?_)
    · skip
      have h := h.1 c14
      exact J_44 s_2 H locs h hP hD hS ls (lv_sub hl [] rfl)
    · skip
      have h := h.2 c14
      refine lv_aload_n G.1 G.2.1 d_Hp_touch_17 rfl (lv_at hl 0 rfl) ?_
      refine ugf (v := .ref (yP y a0 12)) G hP h_a0 iHp rfl 12 (by decide) rfl q933 rfl rfl d_Hp_touch_18 ?_
      refine W.eq (g2 := F0 m 21 ls [.ref (yP y a0 12)]) rfl ?_
      refine lv_iload_n G.1 G.2.1 d_Hp_touch_21 rfl (lv_at hl 1 rfl) ?_
      refine lv_iconst (v := 1) G.1 G.2.1 d_Hp_touch_22 (by decide) ?_
      refine ubast G hP hD hS (kdp h_a0 rfl) (typ h_a0 rfl) h d_Hp_touch_23 (fun s_4 H locs h hP hD hS => ?_)
      refine lv_aload_n G.1 G.2.1 d_Hp_touch_24 rfl (lv_at hl 0 rfl) ?_
      refine ugf (v := .ref (yP y a0 13)) G hP h_a0 iHp rfl 13 (by decide) rfl q934 rfl rfl d_Hp_touch_25 ?_
      refine lv_aload_n G.1 G.2.1 d_Hp_touch_28 rfl (lv_at hl 0 rfl) ?_
      refine ugf (v := .int (sV s_4 a0 14)) G hP h_a0 iHp rfl 14 (by decide) rfl q935 rfl rfl d_Hp_touch_29 ?_
      refine lv_iload_n G.1 G.2.1 d_Hp_touch_32 rfl (lv_at hl 1 rfl) ?_
      refine uiast G hP hD hS (kdp h_a0 rfl) (typ h_a0 rfl) h d_Hp_touch_33 (fun s_5 H locs h hP hD hS => ?_)
      refine lv_aload_n G.1 G.2.1 d_Hp_touch_34 rfl (lv_at hl 0 rfl) ?_
      refine lv_dup G.1 G.2.1 d_Hp_touch_35 rfl ?_
      refine ugf (v := .int (sV s_5 a0 14)) G hP h_a0 iHp rfl 14 (by decide) rfl q935 rfl rfl d_Hp_touch_36 ?_
      refine W.eq (g2 := F0 m 39 ls [.int (sV s_5 a0 14), .ref (ad a0)]) rfl ?_
      refine lv_iconst (v := 1) G.1 G.2.1 d_Hp_touch_39 (by decide) ?_
      refine lv_iadd G.1 G.2.1 d_Hp_touch_40 ?_
      refine upf G hP hD hS h 14 putV h_a0 iHp tHp tHp_ok nHp rfl (by decide) rfl q935 rfl rfl fV rfl rfl d_Hp_touch_41 (fun s_6 H locs h hP hD hS => ?_)
      exact J_44 s_6 H locs h hP hD hS ls (lv_sub hl [] rfl)
theorem q2373 : Cond.methodLink "ClassWorks$Runner" 93 y_Hp_touch ∈ lw_ok := lw_okmem (List.mem_of_getElem? (i := 2373) (by decide +kernel)) rfl
theorem q2367 : Cond.code y_Hp_touch b_Hp_touch 2 (none) ∈ lw_ok := lw_okmem (List.mem_of_getElem? (i := 2367) (by decide +kernel)) rfl
theorem q2365 : Cond.instanceMethod y_Hp_touch ∈ lw_ok := lw_okmem (List.mem_of_getElem? (i := 2365) (by decide +kernel)) rfl
theorem q2366 : Cond.selects y_Hp_touch.cls y_Hp_touch y_Hp_touch ∈ lw_ok := lw_okmem (List.mem_of_getElem? (i := 2366) (by decide +kernel)) rfl
theorem w9_Hp_touch : CWv y_Hp_touch b_Hp_touch 2 (none) 1 ∧ Cond.instanceMethod y_Hp_touch ∈ lw_ok ∧ Cond.selects y_Hp_touch.cls y_Hp_touch y_Hp_touch ∈ lw_ok := ⟨⟨q2367, q346, by decide +kernel, by decide +kernel, by decide +kernel⟩, q2365, q2366⟩
def y_Ru_touchPlaces : MethodName := ⟨"ClassWorks$Runner", "touchPlaces", "(LClassWorks$Heap;)V"⟩
abbrev b_Ru_touchPlaces : ByteArray := prog_9_method_16_code
theorem d_Ru_touchPlaces_0 : decode b_Ru_touchPlaces 0 = .ok (.iconst 0, 1) := by decide +kernel
theorem d_Ru_touchPlaces_1 : decode b_Ru_touchPlaces 1 = .ok (.istore_n 2, 1) := by decide +kernel
theorem d_Ru_touchPlaces_2 : decode b_Ru_touchPlaces 2 = .ok (.iload_n 2, 1) := by decide +kernel
theorem d_Ru_touchPlaces_3 : decode b_Ru_touchPlaces 3 = .ok (.aload_n 0, 1) := by decide +kernel
theorem d_Ru_touchPlaces_4 : decode b_Ru_touchPlaces 4 = .ok (.getfield 44, 3) := by decide +kernel
theorem d_Ru_touchPlaces_7 : decode b_Ru_touchPlaces 7 = .ok (.if_icmp .ge 61, 3) := by decide +kernel
theorem d_Ru_touchPlaces_10 : decode b_Ru_touchPlaces 10 = .ok (.iconst 0, 1) := by decide +kernel
theorem d_Ru_touchPlaces_11 : decode b_Ru_touchPlaces 11 = .ok (.istore_n 3, 1) := by decide +kernel
theorem d_Ru_touchPlaces_12 : decode b_Ru_touchPlaces 12 = .ok (.iload_n 3, 1) := by decide +kernel
theorem d_Ru_touchPlaces_13 : decode b_Ru_touchPlaces 13 = .ok (.bipush 20, 2) := by decide +kernel
theorem d_Ru_touchPlaces_15 : decode b_Ru_touchPlaces 15 = .ok (.aload_n 0, 1) := by decide +kernel
theorem d_Ru_touchPlaces_16 : decode b_Ru_touchPlaces 16 = .ok (.getfield 56, 3) := by decide +kernel
theorem d_Ru_touchPlaces_19 : decode b_Ru_touchPlaces 19 = .ok (.iload_n 2, 1) := by decide +kernel
theorem d_Ru_touchPlaces_20 : decode b_Ru_touchPlaces 20 = .ok (.iaload, 1) := by decide +kernel
theorem d_Ru_touchPlaces_21 : decode b_Ru_touchPlaces 21 = .ok (.iadd, 1) := by decide +kernel
theorem d_Ru_touchPlaces_22 : decode b_Ru_touchPlaces 22 = .ok (.if_icmp .ge 40, 3) := by decide +kernel
theorem d_Ru_touchPlaces_25 : decode b_Ru_touchPlaces 25 = .ok (.aload_n 0, 1) := by decide +kernel
theorem d_Ru_touchPlaces_26 : decode b_Ru_touchPlaces 26 = .ok (.getfield 59, 3) := by decide +kernel
theorem d_Ru_touchPlaces_29 : decode b_Ru_touchPlaces 29 = .ok (.iload_n 2, 1) := by decide +kernel
theorem d_Ru_touchPlaces_30 : decode b_Ru_touchPlaces 30 = .ok (.bipush 40, 2) := by decide +kernel
theorem d_Ru_touchPlaces_32 : decode b_Ru_touchPlaces 32 = .ok (.imul, 1) := by decide +kernel
theorem d_Ru_touchPlaces_33 : decode b_Ru_touchPlaces 33 = .ok (.iload_n 3, 1) := by decide +kernel
theorem d_Ru_touchPlaces_34 : decode b_Ru_touchPlaces 34 = .ok (.iadd, 1) := by decide +kernel
theorem d_Ru_touchPlaces_35 : decode b_Ru_touchPlaces 35 = .ok (.laload, 1) := by decide +kernel
theorem d_Ru_touchPlaces_36 : decode b_Ru_touchPlaces 36 = .ok (.lstore 4, 2) := by decide +kernel
theorem d_Ru_touchPlaces_38 : decode b_Ru_touchPlaces 38 = .ok (.lload 4, 2) := by decide +kernel
theorem d_Ru_touchPlaces_40 : decode b_Ru_touchPlaces 40 = .ok (.ldc2_w 85, 3) := by decide +kernel
theorem d_Ru_touchPlaces_43 : decode b_Ru_touchPlaces 43 = .ok (.land, 1) := by decide +kernel
theorem d_Ru_touchPlaces_44 : decode b_Ru_touchPlaces 44 = .ok (.lconst 0, 1) := by decide +kernel
theorem d_Ru_touchPlaces_45 : decode b_Ru_touchPlaces 45 = .ok (.lcmp, 1) := by decide +kernel
theorem d_Ru_touchPlaces_46 : decode b_Ru_touchPlaces 46 = .ok (.ifCond .eq 10, 3) := by decide +kernel
theorem d_Ru_touchPlaces_49 : decode b_Ru_touchPlaces 49 = .ok (.aload_n 1, 1) := by decide +kernel
theorem d_Ru_touchPlaces_50 : decode b_Ru_touchPlaces 50 = .ok (.lload 4, 2) := by decide +kernel
theorem d_Ru_touchPlaces_52 : decode b_Ru_touchPlaces 52 = .ok (.l2i, 1) := by decide +kernel
theorem d_Ru_touchPlaces_53 : decode b_Ru_touchPlaces 53 = .ok (.invokevirtual 93, 3) := by decide +kernel
theorem d_Ru_touchPlaces_56 : decode b_Ru_touchPlaces 56 = .ok (.iinc 3 1, 3) := by decide +kernel
theorem d_Ru_touchPlaces_59 : decode b_Ru_touchPlaces 59 = .ok (.goto (-47), 3) := by decide +kernel
theorem d_Ru_touchPlaces_62 : decode b_Ru_touchPlaces 62 = .ok (.iinc 2 1, 3) := by decide +kernel
theorem d_Ru_touchPlaces_65 : decode b_Ru_touchPlaces 65 = .ok (.goto (-63), 3) := by decide +kernel
theorem d_Ru_touchPlaces_68 : decode b_Ru_touchPlaces 68 = .ok (.return_, 1) := by decide +kernel
abbrev ru_Ru_touchPlaces : Room := { frames := 2, cells := 0, slots := 0, locals := 42 }
def wj_Ru_touchPlaces_56 (y : Ly) (Post : St → Prop) (K_2 : St → Int32 → Prop) (K_12 : St → Int32 → Int32 → Prop) (a0 : Nat) (a1 : Nat) (s_j56 : St) (x2j56 : Int32) (x3j56 : Int32) : Prop := K_12 s_j56 x2j56 (x3j56 + 1)
def wb_Ru_touchPlaces_12 (y : Ly) (Post : St → Prop) (K_2 : St → Int32 → Prop) (K_12 : St → Int32 → Int32 → Prop) (a0 : Nat) (a1 : Nat) (s_h12 : St) (x2h12 : Int32) (x3h12 : Int32) : Prop := xA y s_h12 a0 14 x2h12 (fun x_1 : Int32 => (((20 + x_1) ≤ x3h12 → K_2 s_h12 (x2h12 + 1)) ∧ (¬ ((20 + x_1) ≤ x3h12) → xB y s_h12 a0 15 ((x2h12 * 40) + x3h12) (fun x_2 : Int64 => (((lg_cmp (x_2 &&& (4294967296)) 0) = 0 → wj_Ru_touchPlaces_56 y Post K_2 K_12 a0 a1 s_h12 x2h12 x3h12) ∧ (¬ ((lg_cmp (x_2 &&& (4294967296)) 0) = 0) → wu_Hp_touch y (fun (s_4 : St) => wj_Ru_touchPlaces_56 y Post K_2 K_12 a0 a1 s_4 x2h12 x3h12) s_h12 a1 x_2.toInt32))))))
def wl_Ru_touchPlaces_12 (y : Ly) (Post : St → Prop) (K_2 : St → Int32 → Prop) (a0 : Nat) (a1 : Nat) (s_h12 : St) (x2h12 : Int32) (x3h12 : Int32) : Prop := ∃ (I : St → Int32 → Int32 → Prop) (μ : St → Int32 → Int32 → Nat), I s_h12 x2h12 x3h12 ∧ ∀ (u : St) (t0 : Int32) (t1 : Int32), I u t0 t1 → wb_Ru_touchPlaces_12 y Post K_2 (fun z t0q t1q => I z t0q t1q ∧ μ z t0q t1q < μ u t0 t1) a0 a1 u t0 t1
def wb_Ru_touchPlaces_2 (y : Ly) (Post : St → Prop) (K_2 : St → Int32 → Prop) (a0 : Nat) (a1 : Nat) (s_h2 : St) (x2h2 : Int32) : Prop := (((sV s_h2 a0 10) ≤ x2h2 → Post s_h2) ∧ (¬ ((sV s_h2 a0 10) ≤ x2h2) → wl_Ru_touchPlaces_12 y Post K_2 a0 a1 s_h2 x2h2 0))
def wl_Ru_touchPlaces_2 (y : Ly) (Post : St → Prop) (a0 : Nat) (a1 : Nat) (s_h2 : St) (x2h2 : Int32) : Prop := ∃ (I : St → Int32 → Prop) (μ : St → Int32 → Nat), I s_h2 x2h2 ∧ ∀ (u : St) (t0 : Int32), I u t0 → wb_Ru_touchPlaces_2 y Post (fun z t0q => I z t0q ∧ μ z t0q < μ u t0) a0 a1 u t0
def wu_Ru_touchPlaces (y : Ly) (Post : St → Prop) (σ : St) (a0 : Nat) (a1 : Nat) : Prop := wl_Ru_touchPlaces_2 y Post a0 a1 σ 0
set_option maxHeartbeats 4000000 in
set_option maxRecDepth 100000 in
theorem cu_Ru_touchPlaces (l : Launch) (D : va_G) (g : Nat → ClassId) (ad : Nat → Nat) (y : Ly) (Post : St → Prop) (σ : St) (a0 : Nat) (a1 : Nat) (sz : Nat) (h_a0 : cl a0 = 7) (h_a1 : cl a1 = 2) (h : wu_Ru_touchPlaces y Post σ a0 a1) : Met l y_Ru_touchPlaces (mw y_Ru_touchPlaces b_Ru_touchPlaces 6 (none)) ru_Ru_touchPlaces (PC g D [] [.ref (ad a0), .ref (ad a1)] sz (ws g ad y σ)) (va_Qv (fun u : St => Post u) (QW D (va_A (ws g ad y σ) sz) (fun u => ws g ad y u)) (va_A (ws g ad y σ) sz)) 0 0 (va_A (ws g ad y σ) sz) := by
  refine ofV (by decide +kernel) (Nat.le_of_ble_eq_true rfl) ?_
  intro p e s m args below meth c A Q ls H locs G hsz hP hD hS hl hret
  subst hsz
  have hl : lv_has ls 6 [(0, .ref (ad a0)), (1, .ref (ad a1))] := hl
  unfold wu_Ru_touchPlaces at h
  refine lv_iconst (v := 0) G.1 G.2.1 d_Ru_touchPlaces_0 (by decide) ?_
  refine lv_istore_n (lv' := [(2, .int 0), (0, .ref (ad a0)), (1, .ref (ad a1))]) G.1 G.2.1 d_Ru_touchPlaces_1 rfl hl (by decide) rfl (fun ls hl => ?_)
  unfold wl_Ru_touchPlaces_2 at h
  obtain ⟨I_2, μ_2, hI_2, hB_2⟩ := h
  have L_2 : ∀ (n_2 : Nat) (s_h2 : St) (x2h2 : Int32), μ_2 s_h2 x2h2 < n_2 → I_2 s_h2 x2h2 → ∀ (H : Heap) (locs : List Loc), va_P D CL (ws g ad y s_h2) H → va_D A (ws g ad y s_h2) → va_S A s.heap H locs → ∀ ls, lv_has ls 6 [(0, .ref (ad a0)), (1, .ref (ad a1)), (2, .int x2h2)] → W p l e ru_Ru_touchPlaces s m args below meth c H locs 0 0 Q (F0 m 2 ls []) := by
    intro n_2
    induction n_2 with
    | zero => intro s_h2 x2h2 hμ; exact absurd hμ (Nat.not_lt_zero _)
    | succ n_2 ih_2 =>
      intro s_h2 x2h2 hμ_2 hJ H locs hP hD hS ls hl
      obtain ⟨K_2, hK_2, h⟩ : ∃ K : St → Int32 → Prop, (∀ z (t0 : Int32), K z t0 → I_2 z t0 ∧ μ_2 z t0 < μ_2 s_h2 x2h2) ∧ wb_Ru_touchPlaces_2 y Post K a0 a1 s_h2 x2h2 := ⟨_, fun _ _ h => h, hB_2 s_h2 x2h2 hJ⟩
      unfold wb_Ru_touchPlaces_2 at h
      refine lv_iload_n G.1 G.2.1 d_Ru_touchPlaces_2 rfl (lv_at hl 2 rfl) ?_
      refine lv_aload_n G.1 G.2.1 d_Ru_touchPlaces_3 rfl (lv_at hl 0 rfl) ?_
      refine ugf (v := .int (sV s_h2 a0 10)) G hP h_a0 iRu rfl 10 (by decide) rfl q1005 rfl rfl d_Ru_touchPlaces_4 ?_
      refine lv_icmp_ge (tgt := 68) G.1 G.2.1 d_Ru_touchPlaces_7 (by decide) (fun c7 => ?_) (fun c7 => ?_)
      · skip
        have h := h.1 c7
        exact hret _ _ _ _ _ _ ls h hP hD hS (Nat.le_refl _) (Nat.le_refl _) d_Ru_touchPlaces_68
      · skip
        have h := h.2 c7
        refine lv_iconst (v := 0) G.1 G.2.1 d_Ru_touchPlaces_10 (by decide) ?_
        refine lv_istore_n (lv' := [(3, .int 0), (0, .ref (ad a0)), (1, .ref (ad a1)), (2, .int x2h2)]) G.1 G.2.1 d_Ru_touchPlaces_11 rfl hl (by decide) rfl (fun ls hl => ?_)
        unfold wl_Ru_touchPlaces_12 at h
        obtain ⟨I_12, μ_12, hI_12, hB_12⟩ := h
        have L_12 : ∀ (n_12 : Nat) (s_h12 : St) (x2h12 : Int32) (x3h12 : Int32), μ_12 s_h12 x2h12 x3h12 < n_12 → I_12 s_h12 x2h12 x3h12 → ∀ (H : Heap) (locs : List Loc), va_P D CL (ws g ad y s_h12) H → va_D A (ws g ad y s_h12) → va_S A s.heap H locs → ∀ ls, lv_has ls 6 [(0, .ref (ad a0)), (1, .ref (ad a1)), (2, .int x2h12), (3, .int x3h12)] → W p l e ru_Ru_touchPlaces s m args below meth c H locs 0 0 Q (F0 m 12 ls []) := by
          intro n_12
          induction n_12 with
          | zero => intro s_h12 x2h12 x3h12 hμ; exact absurd hμ (Nat.not_lt_zero _)
          | succ n_12 ih_12 =>
            intro s_h12 x2h12 x3h12 hμ_12 hJ H locs hP hD hS ls hl
            obtain ⟨K_12, hK_12, h⟩ : ∃ K : St → Int32 → Int32 → Prop, (∀ z (t0 : Int32) (t1 : Int32), K z t0 t1 → I_12 z t0 t1 ∧ μ_12 z t0 t1 < μ_12 s_h12 x2h12 x3h12) ∧ wb_Ru_touchPlaces_12 y Post K_2 K a0 a1 s_h12 x2h12 x3h12 := ⟨_, fun _ _ _ h => h, hB_12 s_h12 x2h12 x3h12 hJ⟩
            unfold wb_Ru_touchPlaces_12 at h
            refine lv_iload_n G.1 G.2.1 d_Ru_touchPlaces_12 rfl (lv_at hl 3 rfl) ?_
            refine lv_bipush (v := 20) G.1 G.2.1 d_Ru_touchPlaces_13 (by decide) ?_
            refine lv_aload_n G.1 G.2.1 d_Ru_touchPlaces_15 rfl (lv_at hl 0 rfl) ?_
            refine ugf (v := .ref (yP y a0 14)) G hP h_a0 iRu rfl 14 (by decide) rfl q1017 rfl rfl d_Ru_touchPlaces_16 ?_
            refine lv_iload_n G.1 G.2.1 d_Ru_touchPlaces_19 rfl (lv_at hl 2 rfl) ?_
            refine uiald G hP (kdp h_a0 rfl) (typ h_a0 rfl) h d_Ru_touchPlaces_20 (fun x_1 h => ?_)
            refine lv_iadd G.1 G.2.1 d_Ru_touchPlaces_21 ?_
            refine lv_icmp_ge (tgt := 62) G.1 G.2.1 d_Ru_touchPlaces_22 (by decide) (fun c22 => ?_) (fun c22 => ?_)
            · skip
              have h := h.1 c22
              refine lv_iinc (v := x2h12 + 1) (lv' := [(2, .int (x2h12 + 1)), (0, .ref (ad a0)), (1, .ref (ad a1)), (3, .int x3h12)]) G.1 G.2.1 d_Ru_touchPlaces_62 hl (k := 2) rfl rfl (by decide) rfl (fun ls hl => ?_)
              refine lv_goto (tgt := 2) G.1 G.2.1 d_Ru_touchPlaces_65 (by decide) ?_
              have h := hK_2 s_h12 (x2h12 + 1) h
              exact ih_2 s_h12 (x2h12 + 1) (Nat.lt_of_lt_of_le h.2 (Nat.le_of_lt_succ hμ_2)) h.1 H locs hP hD hS ls (lv_sub hl [1, 2, 0] rfl)
            · skip
              have h := h.2 c22
              refine lv_aload_n G.1 G.2.1 d_Ru_touchPlaces_25 rfl (lv_at hl 0 rfl) ?_
              refine ugf (v := .ref (yP y a0 15)) G hP h_a0 iRu rfl 15 (by decide) rfl q1020 rfl rfl d_Ru_touchPlaces_26 ?_
              refine lv_iload_n G.1 G.2.1 d_Ru_touchPlaces_29 rfl (lv_at hl 2 rfl) ?_
              refine W.eq (g2 := F0 m 30 ls [.int x2h12, .ref (yP y a0 15)]) rfl ?_
              refine lv_bipush (v := 40) G.1 G.2.1 d_Ru_touchPlaces_30 (by decide) ?_
              refine lv_imul G.1 G.2.1 d_Ru_touchPlaces_32 ?_
              refine lv_iload_n G.1 G.2.1 d_Ru_touchPlaces_33 rfl (lv_at hl 3 rfl) ?_
              refine lv_iadd G.1 G.2.1 d_Ru_touchPlaces_34 ?_
              refine ulald G hP (kdp h_a0 rfl) (typ h_a0 rfl) h d_Ru_touchPlaces_35 (fun x_2 h => ?_)
              refine lv_lstore (lv' := [(4, .long x_2), (0, .ref (ad a0)), (1, .ref (ad a1)), (2, .int x2h12), (3, .int x3h12)]) G.1 G.2.1 d_Ru_touchPlaces_36 hl (by decide) rfl (fun ls hl => ?_)
              refine lv_lload G.1 G.2.1 d_Ru_touchPlaces_38 (lv_at hl 0 rfl) ?_
              refine lv_ldc2 (v := (4294967296)) G.1 G.2.1 G.2.2.2.2.2.2.1 (G.2.2.2.2.2.1 _ q1965) d_Ru_touchPlaces_40 ?_
              refine lv_land G.1 G.2.1 d_Ru_touchPlaces_43 ?_
              refine lv_lconst (v := 0) G.1 G.2.1 d_Ru_touchPlaces_44 (by decide) ?_
              refine W.lcmp G.1 G.2.1 d_Ru_touchPlaces_45 ?_
              have J_56 : ∀ (s_j56 : St) (x2j56 : Int32) (x3j56 : Int32) (H : Heap) (locs : List Loc), wj_Ru_touchPlaces_56 y Post K_2 K_12 a0 a1 s_j56 x2j56 x3j56 → va_P D CL (ws g ad y s_j56) H → va_D A (ws g ad y s_j56) → va_S A s.heap H locs → ∀ ls, lv_has ls 6 [(0, .ref (ad a0)), (1, .ref (ad a1)), (2, .int x2j56), (3, .int x3j56)] → W p l e ru_Ru_touchPlaces s m args below meth c H locs 0 0 Q (F0 m 56 ls []) := by
                intro s_j56 x2j56 x3j56 H locs h hP hD hS ls hl
                unfold wj_Ru_touchPlaces_56 at h
                refine lv_iinc (v := x3j56 + 1) (lv' := [(3, .int (x3j56 + 1)), (0, .ref (ad a0)), (1, .ref (ad a1)), (2, .int x2j56)]) G.1 G.2.1 d_Ru_touchPlaces_56 hl (k := 3) rfl rfl (by decide) rfl (fun ls hl => ?_)
                refine lv_goto (tgt := 12) G.1 G.2.1 d_Ru_touchPlaces_59 (by decide) ?_
                have h := hK_12 s_j56 x2j56 (x3j56 + 1) h
                exact ih_12 s_j56 x2j56 (x3j56 + 1) (Nat.lt_of_lt_of_le h.2 (Nat.le_of_lt_succ hμ_12)) h.1 H locs hP hD hS ls (lv_sub hl [1, 2, 3, 0] rfl)
              refine lv_if_eq (tgt := 56) G.1 G.2.1 d_Ru_touchPlaces_46 (by decide) (fun c46 => ?_) (fun c46 => ?_)
              · skip
                have h := h.1 c46
                exact J_56 s_h12 x2h12 x3h12 H locs h hP hD hS ls (lv_sub hl [1, 2, 3, 4] rfl)
              · skip
                have h := h.2 c46
                refine W.eq (g2 := F0 m 49 ls []) rfl ?_
                refine lv_aload_n G.1 G.2.1 d_Ru_touchPlaces_49 rfl (lv_at hl 2 rfl) ?_
                refine lv_lload G.1 G.2.1 d_Ru_touchPlaces_50 (lv_at hl 0 rfl) ?_
                refine lv_l2i G.1 G.2.1 d_Ru_touchPlaces_52 rfl ?_
                refine ucVv (As := [.int x_2.toInt32]) (rest := []) G hP hD hS (cu_Hp_touch l D g ad y _ s_h12 a1 x_2.toInt32 H.size h_a1 h) w9_Hp_touch q2373 ⟨Nat.le_of_ble_eq_true rfl, Nat.le_of_ble_eq_true rfl⟩ rfl rfl h_a1 (q := (RHp, THp, 15)) rfl rfl hl.1 rfl (Nat.le_of_ble_eq_true rfl) rfl ⟨Nat.le_refl _, Nat.le_refl _⟩ d_Ru_touchPlaces_53 (fun s_4 H locs h hP hD hS => ?_)
                exact J_56 s_4 x2h12 x3h12 H locs h hP hD hS ls (lv_sub hl [1, 2, 3, 4] rfl)
        exact L_12 _ s_h2 x2h2 0 (Nat.lt_succ_self _) hI_12 H locs hP hD hS ls (lv_sub hl [1, 2, 3, 0] rfl)
  exact L_2 _ σ 0 (Nat.lt_succ_self _) hI_2 H locs hP hD hS ls (lv_sub hl [1, 2, 0] rfl)
def y_Hp_nextTouched : MethodName := ⟨"ClassWorks$Heap", "nextTouched", "()I"⟩
abbrev b_Hp_nextTouched : ByteArray := prog_4_method_20_code
theorem d_Hp_nextTouched_0 : decode b_Hp_nextTouched 0 = .ok (.aload_n 0, 1) := by decide +kernel
theorem d_Hp_nextTouched_1 : decode b_Hp_nextTouched 1 = .ok (.getfield 62, 3) := by decide +kernel
theorem d_Hp_nextTouched_4 : decode b_Hp_nextTouched 4 = .ok (.ifCond .ne 5, 3) := by decide +kernel
theorem d_Hp_nextTouched_7 : decode b_Hp_nextTouched 7 = .ok (.iconst 0, 1) := by decide +kernel
theorem d_Hp_nextTouched_8 : decode b_Hp_nextTouched 8 = .ok (.ireturn, 1) := by decide +kernel
theorem d_Hp_nextTouched_9 : decode b_Hp_nextTouched 9 = .ok (.aload_n 0, 1) := by decide +kernel
theorem d_Hp_nextTouched_10 : decode b_Hp_nextTouched 10 = .ok (.dup, 1) := by decide +kernel
theorem d_Hp_nextTouched_11 : decode b_Hp_nextTouched 11 = .ok (.getfield 62, 3) := by decide +kernel
theorem d_Hp_nextTouched_14 : decode b_Hp_nextTouched 14 = .ok (.iconst 1, 1) := by decide +kernel
theorem d_Hp_nextTouched_15 : decode b_Hp_nextTouched 15 = .ok (.isub, 1) := by decide +kernel
theorem d_Hp_nextTouched_16 : decode b_Hp_nextTouched 16 = .ok (.putfield 62, 3) := by decide +kernel
theorem d_Hp_nextTouched_19 : decode b_Hp_nextTouched 19 = .ok (.aload_n 0, 1) := by decide +kernel
theorem d_Hp_nextTouched_20 : decode b_Hp_nextTouched 20 = .ok (.getfield 59, 3) := by decide +kernel
theorem d_Hp_nextTouched_23 : decode b_Hp_nextTouched 23 = .ok (.aload_n 0, 1) := by decide +kernel
theorem d_Hp_nextTouched_24 : decode b_Hp_nextTouched 24 = .ok (.getfield 62, 3) := by decide +kernel
theorem d_Hp_nextTouched_27 : decode b_Hp_nextTouched 27 = .ok (.iaload, 1) := by decide +kernel
theorem d_Hp_nextTouched_28 : decode b_Hp_nextTouched 28 = .ok (.ireturn, 1) := by decide +kernel
abbrev ru_Hp_nextTouched : Room := { frames := 0, cells := 0, slots := 0, locals := 0 }
def wu_Hp_nextTouched (y : Ly) (Post : St → Int32 → Prop) (σ : St) (a0 : Nat) : Prop := ((¬ (sV σ a0 14) = 0 → xP (uV σ a0 14 ((sV σ a0 14) - 1)) (fun s_1 : St => xA y s_1 a0 13 (sV s_1 a0 14) (fun x_2 : Int32 => Post s_1 x_2))) ∧ ((sV σ a0 14) = 0 → Post σ 0))
set_option maxHeartbeats 4000000 in
set_option maxRecDepth 100000 in
theorem cu_Hp_nextTouched (l : Launch) (D : va_G) (g : Nat → ClassId) (ad : Nat → Nat) (y : Ly) (Post : St → Int32 → Prop) (σ : St) (a0 : Nat) (sz : Nat) (h_a0 : cl a0 = 2) (h : wu_Hp_nextTouched y Post σ a0) : Met l y_Hp_nextTouched (mw y_Hp_nextTouched b_Hp_nextTouched 1 (some .int)) ru_Hp_nextTouched (PC g D [] [.ref (ad a0)] sz (ws g ad y σ)) (va_Qi (fun (r : Int32) (u : St) => Post u r) (QW D (va_A (ws g ad y σ) sz) (fun u => ws g ad y u)) (va_A (ws g ad y σ) sz)) 0 0 (va_A (ws g ad y σ) sz) := by
  refine ofI (by decide +kernel) (Nat.le_of_ble_eq_true rfl) ?_
  intro p e s m args below meth c A Q ls H locs G hsz hP hD hS hl hret
  subst hsz
  have hl : lv_has ls 1 [(0, .ref (ad a0))] := hl
  unfold wu_Hp_nextTouched at h
  refine lv_aload_n G.1 G.2.1 d_Hp_nextTouched_0 rfl (lv_at hl 0 rfl) ?_
  refine ugf (v := .int (sV σ a0 14)) G hP h_a0 iHp rfl 14 (by decide) rfl q935 rfl rfl d_Hp_nextTouched_1 ?_
  refine lv_if_ne (tgt := 9) G.1 G.2.1 d_Hp_nextTouched_4 (by decide) (fun c4 => ?_) (fun c4 => ?_)
  · skip
    have h := h.1 c4
    refine lv_aload_n G.1 G.2.1 d_Hp_nextTouched_9 rfl (lv_at hl 0 rfl) ?_
    refine lv_dup G.1 G.2.1 d_Hp_nextTouched_10 rfl ?_
    refine ugf (v := .int (sV σ a0 14)) G hP h_a0 iHp rfl 14 (by decide) rfl q935 rfl rfl d_Hp_nextTouched_11 ?_
    refine lv_iconst (v := 1) G.1 G.2.1 d_Hp_nextTouched_14 (by decide) ?_
    refine lv_isub G.1 G.2.1 d_Hp_nextTouched_15 ?_
    refine upf G hP hD hS h 14 putV h_a0 iHp tHp tHp_ok nHp rfl (by decide) rfl q935 rfl rfl fV rfl rfl d_Hp_nextTouched_16 (fun s_1 H locs h hP hD hS => ?_)
    refine lv_aload_n G.1 G.2.1 d_Hp_nextTouched_19 rfl (lv_at hl 0 rfl) ?_
    refine ugf (v := .ref (yP y a0 13)) G hP h_a0 iHp rfl 13 (by decide) rfl q934 rfl rfl d_Hp_nextTouched_20 ?_
    refine W.eq (g2 := F0 m 23 ls [.ref (yP y a0 13)]) rfl ?_
    refine lv_aload_n G.1 G.2.1 d_Hp_nextTouched_23 rfl (lv_at hl 0 rfl) ?_
    refine ugf (v := .int (sV s_1 a0 14)) G hP h_a0 iHp rfl 14 (by decide) rfl q935 rfl rfl d_Hp_nextTouched_24 ?_
    refine uiald G hP (kdp h_a0 rfl) (typ h_a0 rfl) h d_Hp_nextTouched_27 (fun x_2 h => ?_)
    exact hret _ _ _ _ _ _ _ ls h hP hD hS (Nat.le_refl _) (Nat.le_refl _) d_Hp_nextTouched_28
  · skip
    have h := h.2 c4
    refine lv_iconst (v := 0) G.1 G.2.1 d_Hp_nextTouched_7 (by decide) ?_
    exact hret _ _ _ _ _ _ _ ls h hP hD hS (Nat.le_refl _) (Nat.le_refl _) d_Hp_nextTouched_8
def y_Ma_touchFields : MethodName := ⟨"ClassWorks$Machine", "touchFields", "(I)V"⟩
abbrev b_Ma_touchFields : ByteArray := prog_6_method_47_code
theorem q2364 : Cond.methodLink "ClassWorks$Machine" 476 y_Hp_touch ∈ lw_ok := lw_okmem (List.mem_of_getElem? (i := 2364) (by decide +kernel)) rfl
theorem d_Ma_touchFields_0 : decode b_Ma_touchFields 0 = .ok (.aload_n 0, 1) := by decide +kernel
theorem d_Ma_touchFields_1 : decode b_Ma_touchFields 1 = .ok (.getfield 12, 3) := by decide +kernel
theorem d_Ma_touchFields_4 : decode b_Ma_touchFields 4 = .ok (.getfield 464, 3) := by decide +kernel
theorem d_Ma_touchFields_7 : decode b_Ma_touchFields 7 = .ok (.iload_n 1, 1) := by decide +kernel
theorem d_Ma_touchFields_8 : decode b_Ma_touchFields 8 = .ok (.iaload, 1) := by decide +kernel
theorem d_Ma_touchFields_9 : decode b_Ma_touchFields 9 = .ok (.istore_n 2, 1) := by decide +kernel
theorem d_Ma_touchFields_10 : decode b_Ma_touchFields 10 = .ok (.iconst 0, 1) := by decide +kernel
theorem d_Ma_touchFields_11 : decode b_Ma_touchFields 11 = .ok (.istore_n 3, 1) := by decide +kernel
theorem d_Ma_touchFields_12 : decode b_Ma_touchFields 12 = .ok (.iload_n 3, 1) := by decide +kernel
theorem d_Ma_touchFields_13 : decode b_Ma_touchFields 13 = .ok (.bipush 51, 2) := by decide +kernel
theorem d_Ma_touchFields_15 : decode b_Ma_touchFields 15 = .ok (.if_icmp .ge 96, 3) := by decide +kernel
theorem d_Ma_touchFields_18 : decode b_Ma_touchFields 18 = .ok (.iload_n 2, 1) := by decide +kernel
theorem d_Ma_touchFields_19 : decode b_Ma_touchFields 19 = .ok (.ifCond .lt 92, 3) := by decide +kernel
theorem d_Ma_touchFields_22 : decode b_Ma_touchFields 22 = .ok (.iconst 0, 1) := by decide +kernel
theorem d_Ma_touchFields_23 : decode b_Ma_touchFields 23 = .ok (.istore 4, 2) := by decide +kernel
theorem d_Ma_touchFields_25 : decode b_Ma_touchFields 25 = .ok (.iload 4, 2) := by decide +kernel
theorem d_Ma_touchFields_27 : decode b_Ma_touchFields 27 = .ok (.aload_n 0, 1) := by decide +kernel
theorem d_Ma_touchFields_28 : decode b_Ma_touchFields 28 = .ok (.getfield 69, 3) := by decide +kernel
theorem d_Ma_touchFields_31 : decode b_Ma_touchFields 31 = .ok (.iload_n 2, 1) := by decide +kernel
theorem d_Ma_touchFields_32 : decode b_Ma_touchFields 32 = .ok (.bipush 9, 2) := by decide +kernel
theorem d_Ma_touchFields_34 : decode b_Ma_touchFields 34 = .ok (.invokevirtual 192, 3) := by decide +kernel
theorem d_Ma_touchFields_37 : decode b_Ma_touchFields 37 = .ok (.if_icmp .ge 59, 3) := by decide +kernel
theorem d_Ma_touchFields_40 : decode b_Ma_touchFields 40 = .ok (.aload_n 0, 1) := by decide +kernel
theorem d_Ma_touchFields_41 : decode b_Ma_touchFields 41 = .ok (.iload_n 2, 1) := by decide +kernel
theorem d_Ma_touchFields_42 : decode b_Ma_touchFields 42 = .ok (.iload 4, 2) := by decide +kernel
theorem d_Ma_touchFields_44 : decode b_Ma_touchFields 44 = .ok (.invokevirtual 467, 3) := by decide +kernel
theorem d_Ma_touchFields_47 : decode b_Ma_touchFields 47 = .ok (.ifCond .eq 43, 3) := by decide +kernel
theorem d_Ma_touchFields_50 : decode b_Ma_touchFields 50 = .ok (.aload_n 0, 1) := by decide +kernel
theorem d_Ma_touchFields_51 : decode b_Ma_touchFields 51 = .ok (.getfield 69, 3) := by decide +kernel
theorem d_Ma_touchFields_54 : decode b_Ma_touchFields 54 = .ok (.iload_n 2, 1) := by decide +kernel
theorem d_Ma_touchFields_55 : decode b_Ma_touchFields 55 = .ok (.iload 4, 2) := by decide +kernel
theorem d_Ma_touchFields_57 : decode b_Ma_touchFields 57 = .ok (.iconst 1, 1) := by decide +kernel
theorem d_Ma_touchFields_58 : decode b_Ma_touchFields 58 = .ok (.invokevirtual 280, 3) := by decide +kernel
theorem d_Ma_touchFields_61 : decode b_Ma_touchFields 61 = .ok (.ifCond .eq 29, 3) := by decide +kernel
theorem d_Ma_touchFields_64 : decode b_Ma_touchFields 64 = .ok (.aload_n 0, 1) := by decide +kernel
theorem d_Ma_touchFields_65 : decode b_Ma_touchFields 65 = .ok (.getfield 12, 3) := by decide +kernel
theorem d_Ma_touchFields_68 : decode b_Ma_touchFields 68 = .ok (.aload_n 0, 1) := by decide +kernel
theorem d_Ma_touchFields_69 : decode b_Ma_touchFields 69 = .ok (.getfield 12, 3) := by decide +kernel
theorem d_Ma_touchFields_72 : decode b_Ma_touchFields 72 = .ok (.iload_n 1, 1) := by decide +kernel
theorem d_Ma_touchFields_73 : decode b_Ma_touchFields 73 = .ok (.aload_n 0, 1) := by decide +kernel
theorem d_Ma_touchFields_74 : decode b_Ma_touchFields 74 = .ok (.getfield 69, 3) := by decide +kernel
theorem d_Ma_touchFields_77 : decode b_Ma_touchFields 77 = .ok (.iload_n 2, 1) := by decide +kernel
theorem d_Ma_touchFields_78 : decode b_Ma_touchFields 78 = .ok (.iload 4, 2) := by decide +kernel
theorem d_Ma_touchFields_80 : decode b_Ma_touchFields 80 = .ok (.iconst 5, 1) := by decide +kernel
theorem d_Ma_touchFields_81 : decode b_Ma_touchFields 81 = .ok (.invokevirtual 280, 3) := by decide +kernel
theorem d_Ma_touchFields_84 : decode b_Ma_touchFields 84 = .ok (.invokevirtual 426, 3) := by decide +kernel
theorem d_Ma_touchFields_87 : decode b_Ma_touchFields 87 = .ok (.invokevirtual 476, 3) := by decide +kernel
theorem d_Ma_touchFields_90 : decode b_Ma_touchFields 90 = .ok (.iinc 4 1, 3) := by decide +kernel
theorem d_Ma_touchFields_93 : decode b_Ma_touchFields 93 = .ok (.goto (-68), 3) := by decide +kernel
theorem d_Ma_touchFields_96 : decode b_Ma_touchFields 96 = .ok (.aload_n 0, 1) := by decide +kernel
theorem d_Ma_touchFields_97 : decode b_Ma_touchFields 97 = .ok (.getfield 69, 3) := by decide +kernel
theorem d_Ma_touchFields_100 : decode b_Ma_touchFields 100 = .ok (.iload_n 2, 1) := by decide +kernel
theorem d_Ma_touchFields_101 : decode b_Ma_touchFields 101 = .ok (.invokevirtual 171, 3) := by decide +kernel
theorem d_Ma_touchFields_104 : decode b_Ma_touchFields 104 = .ok (.istore_n 2, 1) := by decide +kernel
theorem d_Ma_touchFields_105 : decode b_Ma_touchFields 105 = .ok (.iinc 3 1, 3) := by decide +kernel
theorem d_Ma_touchFields_108 : decode b_Ma_touchFields 108 = .ok (.goto (-96), 3) := by decide +kernel
theorem d_Ma_touchFields_111 : decode b_Ma_touchFields 111 = .ok (.return_, 1) := by decide +kernel
abbrev ru_Ma_touchFields : Room := { frames := 2, cells := 0, slots := 0, locals := 45 }
def wj_Ma_touchFields_111 (y : Ly) (Post : St → Prop) (a0 : Nat) (s_j111 : St) : Prop := Post s_j111
def wj_Ma_touchFields_90 (y : Ly) (Post : St → Prop) (K_12 : St → Int32 → Int32 → Int32 → Prop) (K_25 : St → Int32 → Int32 → Int32 → Int32 → Prop) (a0 : Nat) (s_j90 : St) (x1j90 : Int32) (x2j90 : Int32) (x3j90 : Int32) (x4j90 : Int32) : Prop := K_25 s_j90 x1j90 x2j90 x3j90 (x4j90 + 1)
def wb_Ma_touchFields_25 (y : Ly) (Post : St → Prop) (K_12 : St → Int32 → Int32 → Int32 → Prop) (K_25 : St → Int32 → Int32 → Int32 → Int32 → Prop) (a0 : Nat) (s_h25 : St) (x1h25 : Int32) (x2h25 : Int32) (x3h25 : Int32) (x4h25 : Int32) : Prop := wu_Wd_of y (fun (s_3 : St) (r_2 : Int32) => ((r_2 ≤ x4h25 → wu_Wd_up y (fun (s_5 : St) (r_4 : Int32) => K_12 s_5 x1h25 r_4 (x3h25 + 1)) s_3 (lk a0 0) x2h25) ∧ (¬ (r_2 ≤ x4h25) → wu_Ma_isOfObject y (fun (s_7 : St) (r_6 : Int32) => ((r_6 = 0 → wj_Ma_touchFields_90 y Post K_12 K_25 a0 s_7 x1h25 x2h25 x3h25 x4h25) ∧ (¬ (r_6 = 0) → wu_Wd_field y (fun (s_9 : St) (r_8 : Int32) => ((r_8 = 0 → wj_Ma_touchFields_90 y Post K_12 K_25 a0 s_9 x1h25 x2h25 x3h25 x4h25) ∧ (¬ (r_8 = 0) → wu_Wd_field y (fun (s_11 : St) (r_10 : Int32) => wu_Hp_get y (fun (s_13 : St) (r_12 : Int32) => wu_Hp_touch y (fun (s_15 : St) => wj_Ma_touchFields_90 y Post K_12 K_25 a0 s_15 x1h25 x2h25 x3h25 x4h25) s_13 (lk a0 1) r_12) s_11 (lk a0 1) x1h25 r_10) s_9 (lk a0 0) x2h25 x4h25 5))) s_7 (lk a0 0) x2h25 x4h25 1))) s_3 a0 x2h25 x4h25))) s_h25 (lk a0 0) x2h25 9
def wl_Ma_touchFields_25 (y : Ly) (Post : St → Prop) (K_12 : St → Int32 → Int32 → Int32 → Prop) (a0 : Nat) (s_h25 : St) (x1h25 : Int32) (x2h25 : Int32) (x3h25 : Int32) (x4h25 : Int32) : Prop := ∃ (I : St → Int32 → Int32 → Int32 → Int32 → Prop) (μ : St → Int32 → Int32 → Int32 → Int32 → Nat), I s_h25 x1h25 x2h25 x3h25 x4h25 ∧ ∀ (u : St) (t0 : Int32) (t1 : Int32) (t2 : Int32) (t3 : Int32), I u t0 t1 t2 t3 → wb_Ma_touchFields_25 y Post K_12 (fun z t0q t1q t2q t3q => I z t0q t1q t2q t3q ∧ μ z t0q t1q t2q t3q < μ u t0 t1 t2 t3) a0 u t0 t1 t2 t3
def wb_Ma_touchFields_12 (y : Ly) (Post : St → Prop) (K_12 : St → Int32 → Int32 → Int32 → Prop) (a0 : Nat) (s_h12 : St) (x1h12 : Int32) (x2h12 : Int32) (x3h12 : Int32) : Prop := ((51 ≤ x3h12 → wj_Ma_touchFields_111 y Post a0 s_h12) ∧ (¬ (51 ≤ x3h12) → ((x2h12 < 0 → wj_Ma_touchFields_111 y Post a0 s_h12) ∧ (¬ (x2h12 < 0) → wl_Ma_touchFields_25 y Post K_12 a0 s_h12 x1h12 x2h12 x3h12 0))))
def wl_Ma_touchFields_12 (y : Ly) (Post : St → Prop) (a0 : Nat) (s_h12 : St) (x1h12 : Int32) (x2h12 : Int32) (x3h12 : Int32) : Prop := ∃ (I : St → Int32 → Int32 → Int32 → Prop) (μ : St → Int32 → Int32 → Int32 → Nat), I s_h12 x1h12 x2h12 x3h12 ∧ ∀ (u : St) (t0 : Int32) (t1 : Int32) (t2 : Int32), I u t0 t1 t2 → wb_Ma_touchFields_12 y Post (fun z t0q t1q t2q => I z t0q t1q t2q ∧ μ z t0q t1q t2q < μ u t0 t1 t2) a0 u t0 t1 t2
def wu_Ma_touchFields (y : Ly) (Post : St → Prop) (σ : St) (a0 : Nat) (v1 : Int32) : Prop := xA y σ (lk a0 1) 0 v1 (fun x_1 : Int32 => wl_Ma_touchFields_12 y Post a0 σ v1 x_1 0)
set_option maxHeartbeats 4000000 in
set_option maxRecDepth 100000 in
theorem cu_Ma_touchFields (l : Launch) (D : va_G) (g : Nat → ClassId) (ad : Nat → Nat) (y : Ly) (Post : St → Prop) (σ : St) (a0 : Nat) (v1 : Int32) (sz : Nat) (h_a0 : cl a0 = 4) (h : wu_Ma_touchFields y Post σ a0 v1) : Met l y_Ma_touchFields (mw y_Ma_touchFields b_Ma_touchFields 5 (none)) ru_Ma_touchFields (PC g D [] [.ref (ad a0), .int v1] sz (ws g ad y σ)) (va_Qv (fun u : St => Post u) (QW D (va_A (ws g ad y σ) sz) (fun u => ws g ad y u)) (va_A (ws g ad y σ) sz)) 0 0 (va_A (ws g ad y σ) sz) := by
  refine ofV (by decide +kernel) (Nat.le_of_ble_eq_true rfl) ?_
  intro p e s m args below meth c A Q ls H locs G hsz hP hD hS hl hret
  subst hsz
  have hl : lv_has ls 5 [(0, .ref (ad a0)), (1, .int v1)] := hl
  unfold wu_Ma_touchFields at h
  refine lv_aload_n G.1 G.2.1 d_Ma_touchFields_0 rfl (lv_at hl 0 rfl) ?_
  refine ugf (v := .ref (ad (lk a0 1))) G hP h_a0 iMa rfl 1 (by decide) rfl q1067 rfl rfl d_Ma_touchFields_1 ?_
  refine ugf (v := .ref (yP y (lk a0 1) 0)) G hP (lk_4_1 h_a0) iHp rfl 0 (by decide) rfl q915 rfl rfl d_Ma_touchFields_4 ?_
  refine lv_iload_n G.1 G.2.1 d_Ma_touchFields_7 rfl (lv_at hl 1 rfl) ?_
  refine uiald G hP (kdp (lk_4_1 h_a0) rfl) (typ (lk_4_1 h_a0) rfl) h d_Ma_touchFields_8 (fun x_1 h => ?_)
  refine lv_istore_n (lv' := [(2, .int x_1), (0, .ref (ad a0)), (1, .int v1)]) G.1 G.2.1 d_Ma_touchFields_9 rfl hl (by decide) rfl (fun ls hl => ?_)
  refine lv_iconst (v := 0) G.1 G.2.1 d_Ma_touchFields_10 (by decide) ?_
  refine lv_istore_n (lv' := [(3, .int 0), (2, .int x_1), (0, .ref (ad a0)), (1, .int v1)]) G.1 G.2.1 d_Ma_touchFields_11 rfl hl (by decide) rfl (fun ls hl => ?_)
  unfold wl_Ma_touchFields_12 at h
  obtain ⟨I_12, μ_12, hI_12, hB_12⟩ := h
  have L_12 : ∀ (n_12 : Nat) (s_h12 : St) (x1h12 : Int32) (x2h12 : Int32) (x3h12 : Int32), μ_12 s_h12 x1h12 x2h12 x3h12 < n_12 → I_12 s_h12 x1h12 x2h12 x3h12 → ∀ (H : Heap) (locs : List Loc), va_P D CL (ws g ad y s_h12) H → va_D A (ws g ad y s_h12) → va_S A s.heap H locs → ∀ ls, lv_has ls 5 [(0, .ref (ad a0)), (1, .int x1h12), (2, .int x2h12), (3, .int x3h12)] → W p l e ru_Ma_touchFields s m args below meth c H locs 0 0 Q (F0 m 12 ls []) := by
    intro n_12
    induction n_12 with
    | zero => intro s_h12 x1h12 x2h12 x3h12 hμ; exact absurd hμ (Nat.not_lt_zero _)
    | succ n_12 ih_12 =>
      intro s_h12 x1h12 x2h12 x3h12 hμ_12 hJ H locs hP hD hS ls hl
      obtain ⟨K_12, hK_12, h⟩ : ∃ K : St → Int32 → Int32 → Int32 → Prop, (∀ z (t0 : Int32) (t1 : Int32) (t2 : Int32), K z t0 t1 t2 → I_12 z t0 t1 t2 ∧ μ_12 z t0 t1 t2 < μ_12 s_h12 x1h12 x2h12 x3h12) ∧ wb_Ma_touchFields_12 y Post K a0 s_h12 x1h12 x2h12 x3h12 := ⟨_, fun _ _ _ _ h => h, hB_12 s_h12 x1h12 x2h12 x3h12 hJ⟩
      unfold wb_Ma_touchFields_12 at h
      refine lv_iload_n G.1 G.2.1 d_Ma_touchFields_12 rfl (lv_at hl 3 rfl) ?_
      refine lv_bipush (v := 51) G.1 G.2.1 d_Ma_touchFields_13 (by decide) ?_
      have J_111 : ∀ (s_j111 : St) (H : Heap) (locs : List Loc), wj_Ma_touchFields_111 y Post a0 s_j111 → va_P D CL (ws g ad y s_j111) H → va_D A (ws g ad y s_j111) → va_S A s.heap H locs → ∀ ls, lv_has ls 5 [] → W p l e ru_Ma_touchFields s m args below meth c H locs 0 0 Q (F0 m 111 ls []) := by
        intro s_j111 H locs h hP hD hS ls hl
        unfold wj_Ma_touchFields_111 at h
        exact hret _ _ _ _ _ _ ls h hP hD hS (Nat.le_refl _) (Nat.le_refl _) d_Ma_touchFields_111
      refine lv_icmp_ge (tgt := 111) G.1 G.2.1 d_Ma_touchFields_15 (by decide) (fun c15 => ?_) (fun c15 => ?_)
      · skip
        have h := h.1 c15
        exact J_111 s_h12 H locs h hP hD hS ls (lv_sub hl [] rfl)
      · skip
        have h := h.2 c15
        refine lv_iload_n G.1 G.2.1 d_Ma_touchFields_18 rfl (lv_at hl 2 rfl) ?_
        refine lv_if_lt (tgt := 111) G.1 G.2.1 d_Ma_touchFields_19 (by decide) (fun c19 => ?_) (fun c19 => ?_)
        · skip
          have h := h.1 c19
          exact J_111 s_h12 H locs h hP hD hS ls (lv_sub hl [] rfl)
        · skip
          have h := h.2 c19
          refine lv_iconst (v := 0) G.1 G.2.1 d_Ma_touchFields_22 (by decide) ?_
          refine lv_istore (lv' := [(4, .int 0), (0, .ref (ad a0)), (1, .int x1h12), (2, .int x2h12), (3, .int x3h12)]) G.1 G.2.1 d_Ma_touchFields_23 hl (by decide) rfl (fun ls hl => ?_)
          unfold wl_Ma_touchFields_25 at h
          obtain ⟨I_25, μ_25, hI_25, hB_25⟩ := h
          have L_25 : ∀ (n_25 : Nat) (s_h25 : St) (x1h25 : Int32) (x2h25 : Int32) (x3h25 : Int32) (x4h25 : Int32), μ_25 s_h25 x1h25 x2h25 x3h25 x4h25 < n_25 → I_25 s_h25 x1h25 x2h25 x3h25 x4h25 → ∀ (H : Heap) (locs : List Loc), va_P D CL (ws g ad y s_h25) H → va_D A (ws g ad y s_h25) → va_S A s.heap H locs → ∀ ls, lv_has ls 5 [(0, .ref (ad a0)), (1, .int x1h25), (2, .int x2h25), (3, .int x3h25), (4, .int x4h25)] → W p l e ru_Ma_touchFields s m args below meth c H locs 0 0 Q (F0 m 25 ls []) := by
            intro n_25
            induction n_25 with
            | zero => intro s_h25 x1h25 x2h25 x3h25 x4h25 hμ; exact absurd hμ (Nat.not_lt_zero _)
            | succ n_25 ih_25 =>
              intro s_h25 x1h25 x2h25 x3h25 x4h25 hμ_25 hJ H locs hP hD hS ls hl
              obtain ⟨K_25, hK_25, h⟩ : ∃ K : St → Int32 → Int32 → Int32 → Int32 → Prop, (∀ z (t0 : Int32) (t1 : Int32) (t2 : Int32) (t3 : Int32), K z t0 t1 t2 t3 → I_25 z t0 t1 t2 t3 ∧ μ_25 z t0 t1 t2 t3 < μ_25 s_h25 x1h25 x2h25 x3h25 x4h25) ∧ wb_Ma_touchFields_25 y Post K_12 K a0 s_h25 x1h25 x2h25 x3h25 x4h25 := ⟨_, fun _ _ _ _ _ h => h, hB_25 s_h25 x1h25 x2h25 x3h25 x4h25 hJ⟩
              unfold wb_Ma_touchFields_25 at h
              refine lv_iload G.1 G.2.1 d_Ma_touchFields_25 (lv_at hl 4 rfl) ?_
              refine lv_aload_n G.1 G.2.1 d_Ma_touchFields_27 rfl (lv_at hl 0 rfl) ?_
              refine ugf (v := .ref (ad (lk a0 0))) G hP h_a0 iMa rfl 0 (by decide) rfl q1065 rfl rfl d_Ma_touchFields_28 ?_
              refine lv_iload_n G.1 G.2.1 d_Ma_touchFields_31 rfl (lv_at hl 2 rfl) ?_
              refine lv_bipush (v := 9) G.1 G.2.1 d_Ma_touchFields_32 (by decide) ?_
              refine ucVi (As := [.int x2h25, .int 9]) (rest := [.int x4h25]) G hP hD hS (cu_Wd_of l D g ad y _ s_h25 (lk a0 0) x2h25 9 H.size (lk_4_0 h_a0) h) w9_Wd_of q1810 ⟨Nat.le_of_ble_eq_true rfl, Nat.le_of_ble_eq_true rfl⟩ rfl rfl (lk_4_0 h_a0) (q := (RWd, TWd, 17)) rfl rfl hl.1 rfl (Nat.le_of_ble_eq_true rfl) rfl ⟨Nat.le_refl _, Nat.le_refl _⟩ d_Ma_touchFields_34 (fun r_2 s_3 H locs h hP hD hS => ?_)
              refine lv_icmp_ge (tgt := 96) G.1 G.2.1 d_Ma_touchFields_37 (by decide) (fun c37 => ?_) (fun c37 => ?_)
              · skip
                have h := h.1 c37
                refine lv_aload_n G.1 G.2.1 d_Ma_touchFields_96 rfl (lv_at hl 0 rfl) ?_
                refine ugf (v := .ref (ad (lk a0 0))) G hP h_a0 iMa rfl 0 (by decide) rfl q1065 rfl rfl d_Ma_touchFields_97 ?_
                refine lv_iload_n G.1 G.2.1 d_Ma_touchFields_100 rfl (lv_at hl 2 rfl) ?_
                refine ucVi (As := [.int x2h25]) (rest := []) G hP hD hS (cu_Wd_up l D g ad y _ s_3 (lk a0 0) x2h25 H.size (lk_4_0 h_a0) h) w9_Wd_up q1802 ⟨Nat.le_of_ble_eq_true rfl, Nat.le_of_ble_eq_true rfl⟩ rfl rfl (lk_4_0 h_a0) (q := (RWd, TWd, 17)) rfl rfl hl.1 rfl (Nat.le_of_ble_eq_true rfl) rfl ⟨Nat.le_refl _, Nat.le_refl _⟩ d_Ma_touchFields_101 (fun r_4 s_5 H locs h hP hD hS => ?_)
                refine W.eq (g2 := F0 m 104 ls [.int r_4]) rfl ?_
                refine lv_istore_n (lv' := [(2, .int r_4), (0, .ref (ad a0)), (1, .int x1h25), (3, .int x3h25), (4, .int x4h25)]) G.1 G.2.1 d_Ma_touchFields_104 rfl hl (by decide) rfl (fun ls hl => ?_)
                refine lv_iinc (v := x3h25 + 1) (lv' := [(3, .int (x3h25 + 1)), (2, .int r_4), (0, .ref (ad a0)), (1, .int x1h25), (4, .int x4h25)]) G.1 G.2.1 d_Ma_touchFields_105 hl (k := 3) rfl rfl (by decide) rfl (fun ls hl => ?_)
                refine lv_goto (tgt := 12) G.1 G.2.1 d_Ma_touchFields_108 (by decide) ?_
                have h := hK_12 s_5 x1h25 r_4 (x3h25 + 1) h
                exact ih_12 s_5 x1h25 r_4 (x3h25 + 1) (Nat.lt_of_lt_of_le h.2 (Nat.le_of_lt_succ hμ_12)) h.1 H locs hP hD hS ls (lv_sub hl [2, 3, 1, 0] rfl)
              · skip
                have h := h.2 c37
                refine lv_aload_n G.1 G.2.1 d_Ma_touchFields_40 rfl (lv_at hl 0 rfl) ?_
                refine lv_iload_n G.1 G.2.1 d_Ma_touchFields_41 rfl (lv_at hl 2 rfl) ?_
                refine lv_iload G.1 G.2.1 d_Ma_touchFields_42 (lv_at hl 4 rfl) ?_
                refine ucVi (As := [.int x2h25, .int x4h25]) (rest := []) G hP hD hS (cu_Ma_isOfObject l D g ad y _ s_3 a0 x2h25 x4h25 H.size h_a0 h) w9_Ma_isOfObject q2138 ⟨Nat.le_of_ble_eq_true rfl, Nat.le_of_ble_eq_true rfl⟩ rfl rfl h_a0 (q := (RMa, TMa, 19)) rfl rfl hl.1 rfl (Nat.le_of_ble_eq_true rfl) rfl ⟨Nat.le_refl _, Nat.le_refl _⟩ d_Ma_touchFields_44 (fun r_6 s_7 H locs h hP hD hS => ?_)
                have J_90 : ∀ (s_j90 : St) (x1j90 : Int32) (x2j90 : Int32) (x3j90 : Int32) (x4j90 : Int32) (H : Heap) (locs : List Loc), wj_Ma_touchFields_90 y Post K_12 K_25 a0 s_j90 x1j90 x2j90 x3j90 x4j90 → va_P D CL (ws g ad y s_j90) H → va_D A (ws g ad y s_j90) → va_S A s.heap H locs → ∀ ls, lv_has ls 5 [(0, .ref (ad a0)), (1, .int x1j90), (2, .int x2j90), (3, .int x3j90), (4, .int x4j90)] → W p l e ru_Ma_touchFields s m args below meth c H locs 0 0 Q (F0 m 90 ls []) := by
                  intro s_j90 x1j90 x2j90 x3j90 x4j90 H locs h hP hD hS ls hl
                  unfold wj_Ma_touchFields_90 at h
                  refine lv_iinc (v := x4j90 + 1) (lv' := [(4, .int (x4j90 + 1)), (0, .ref (ad a0)), (1, .int x1j90), (2, .int x2j90), (3, .int x3j90)]) G.1 G.2.1 d_Ma_touchFields_90 hl (k := 4) rfl rfl (by decide) rfl (fun ls hl => ?_)
                  refine lv_goto (tgt := 25) G.1 G.2.1 d_Ma_touchFields_93 (by decide) ?_
                  have h := hK_25 s_j90 x1j90 x2j90 x3j90 (x4j90 + 1) h
                  exact ih_25 s_j90 x1j90 x2j90 x3j90 (x4j90 + 1) (Nat.lt_of_lt_of_le h.2 (Nat.le_of_lt_succ hμ_25)) h.1 H locs hP hD hS ls (lv_sub hl [1, 2, 3, 4, 0] rfl)
                refine W.eq (g2 := F0 m 47 ls [.int r_6]) rfl ?_
                refine lv_if_eq (tgt := 90) G.1 G.2.1 d_Ma_touchFields_47 (by decide) (fun c47 => ?_) (fun c47 => ?_)
                · skip
                  have h := h.1 c47
                  exact J_90 s_7 x1h25 x2h25 x3h25 x4h25 H locs h hP hD hS ls (lv_sub hl [0, 1, 2, 3, 4] rfl)
                · skip
                  have h := h.2 c47
                  refine lv_aload_n G.1 G.2.1 d_Ma_touchFields_50 rfl (lv_at hl 0 rfl) ?_
                  refine ugf (v := .ref (ad (lk a0 0))) G hP h_a0 iMa rfl 0 (by decide) rfl q1065 rfl rfl d_Ma_touchFields_51 ?_
                  refine lv_iload_n G.1 G.2.1 d_Ma_touchFields_54 rfl (lv_at hl 2 rfl) ?_
                  refine lv_iload G.1 G.2.1 d_Ma_touchFields_55 (lv_at hl 4 rfl) ?_
                  refine lv_iconst (v := 1) G.1 G.2.1 d_Ma_touchFields_57 (by decide) ?_
                  refine ucVi (As := [.int x2h25, .int x4h25, .int 1]) (rest := []) G hP hD hS (cu_Wd_field l D g ad y _ s_7 (lk a0 0) x2h25 x4h25 1 H.size (lk_4_0 h_a0) h) w9_Wd_field q1988 ⟨Nat.le_of_ble_eq_true rfl, Nat.le_of_ble_eq_true rfl⟩ rfl rfl (lk_4_0 h_a0) (q := (RWd, TWd, 17)) rfl rfl hl.1 rfl (Nat.le_of_ble_eq_true rfl) rfl ⟨Nat.le_refl _, Nat.le_refl _⟩ d_Ma_touchFields_58 (fun r_8 s_9 H locs h hP hD hS => ?_)
                  refine lv_if_eq (tgt := 90) G.1 G.2.1 d_Ma_touchFields_61 (by decide) (fun c61 => ?_) (fun c61 => ?_)
                  · skip
                    have h := h.1 c61
                    exact J_90 s_9 x1h25 x2h25 x3h25 x4h25 H locs h hP hD hS ls (lv_sub hl [0, 1, 2, 3, 4] rfl)
                  · skip
                    have h := h.2 c61
                    refine lv_aload_n G.1 G.2.1 d_Ma_touchFields_64 rfl (lv_at hl 0 rfl) ?_
                    refine ugf (v := .ref (ad (lk a0 1))) G hP h_a0 iMa rfl 1 (by decide) rfl q1067 rfl rfl d_Ma_touchFields_65 ?_
                    refine lv_aload_n G.1 G.2.1 d_Ma_touchFields_68 rfl (lv_at hl 0 rfl) ?_
                    refine ugf (v := .ref (ad (lk a0 1))) G hP h_a0 iMa rfl 1 (by decide) rfl q1067 rfl rfl d_Ma_touchFields_69 ?_
                    refine W.eq (g2 := F0 m 72 ls [.ref (ad (lk a0 1)), .ref (ad (lk a0 1))]) rfl ?_
                    refine lv_iload_n G.1 G.2.1 d_Ma_touchFields_72 rfl (lv_at hl 1 rfl) ?_
                    refine lv_aload_n G.1 G.2.1 d_Ma_touchFields_73 rfl (lv_at hl 0 rfl) ?_
                    refine ugf (v := .ref (ad (lk a0 0))) G hP h_a0 iMa rfl 0 (by decide) rfl q1065 rfl rfl d_Ma_touchFields_74 ?_
                    refine lv_iload_n G.1 G.2.1 d_Ma_touchFields_77 rfl (lv_at hl 2 rfl) ?_
                    refine lv_iload G.1 G.2.1 d_Ma_touchFields_78 (lv_at hl 4 rfl) ?_
                    refine lv_iconst (v := 5) G.1 G.2.1 d_Ma_touchFields_80 (by decide) ?_
                    refine ucVi (As := [.int x2h25, .int x4h25, .int 5]) (rest := [.int x1h25, .ref (ad (lk a0 1)), .ref (ad (lk a0 1))]) G hP hD hS (cu_Wd_field l D g ad y _ s_9 (lk a0 0) x2h25 x4h25 5 H.size (lk_4_0 h_a0) h) w9_Wd_field q1988 ⟨Nat.le_of_ble_eq_true rfl, Nat.le_of_ble_eq_true rfl⟩ rfl rfl (lk_4_0 h_a0) (q := (RWd, TWd, 17)) rfl rfl hl.1 rfl (Nat.le_of_ble_eq_true rfl) rfl ⟨Nat.le_refl _, Nat.le_refl _⟩ d_Ma_touchFields_81 (fun r_10 s_11 H locs h hP hD hS => ?_)
                    refine ucVi (As := [.int x1h25, .int r_10]) (rest := [.ref (ad (lk a0 1))]) G hP hD hS (cu_Hp_get l D g ad y _ s_11 (lk a0 1) x1h25 r_10 H.size (lk_4_1 h_a0) h) w9_Hp_get q2002 ⟨Nat.le_of_ble_eq_true rfl, Nat.le_of_ble_eq_true rfl⟩ rfl rfl (lk_4_1 h_a0) (q := (RHp, THp, 15)) rfl rfl hl.1 rfl (Nat.le_of_ble_eq_true rfl) rfl ⟨Nat.le_refl _, Nat.le_refl _⟩ d_Ma_touchFields_84 (fun r_12 s_13 H locs h hP hD hS => ?_)
                    refine ucVv (As := [.int r_12]) (rest := []) G hP hD hS (cu_Hp_touch l D g ad y _ s_13 (lk a0 1) r_12 H.size (lk_4_1 h_a0) h) w9_Hp_touch q2364 ⟨Nat.le_of_ble_eq_true rfl, Nat.le_of_ble_eq_true rfl⟩ rfl rfl (lk_4_1 h_a0) (q := (RHp, THp, 15)) rfl rfl hl.1 rfl (Nat.le_of_ble_eq_true rfl) rfl ⟨Nat.le_refl _, Nat.le_refl _⟩ d_Ma_touchFields_87 (fun s_15 H locs h hP hD hS => ?_)
                    exact J_90 s_15 x1h25 x2h25 x3h25 x4h25 H locs h hP hD hS ls (lv_sub hl [0, 1, 2, 3, 4] rfl)
          exact L_25 _ s_h12 x1h12 x2h12 x3h12 0 (Nat.lt_succ_self _) hI_25 H locs hP hD hS ls (lv_sub hl [1, 2, 3, 4, 0] rfl)
  exact L_12 _ σ v1 x_1 0 (Nat.lt_succ_self _) hI_12 H locs hP hD hS ls (lv_sub hl [2, 3, 1, 0] rfl)
def y_Wr_sameHead : MethodName := ⟨"ClassWorks$Writer", "sameHead", "(LClassWorks$World;ILClassWorks$World;I)Z"⟩
abbrev b_Wr_sameHead : ByteArray := prog_12_method_25_code
theorem q2154 : Cond.methodLink "ClassWorks$Writer" 49 y_Wd_of ∈ lw_ok := lw_okmem (List.mem_of_getElem? (i := 2154) (by decide +kernel)) rfl
theorem d_Wr_sameHead_0 : decode b_Wr_sameHead 0 = .ok (.aload_n 1, 1) := by decide +kernel
theorem d_Wr_sameHead_1 : decode b_Wr_sameHead 1 = .ok (.iload_n 2, 1) := by decide +kernel
theorem d_Wr_sameHead_2 : decode b_Wr_sameHead 2 = .ok (.iconst 1, 1) := by decide +kernel
theorem d_Wr_sameHead_3 : decode b_Wr_sameHead 3 = .ok (.invokevirtual 49, 3) := by decide +kernel
theorem d_Wr_sameHead_6 : decode b_Wr_sameHead 6 = .ok (.aload_n 3, 1) := by decide +kernel
theorem d_Wr_sameHead_7 : decode b_Wr_sameHead 7 = .ok (.iload 4, 2) := by decide +kernel
theorem d_Wr_sameHead_9 : decode b_Wr_sameHead 9 = .ok (.iconst 1, 1) := by decide +kernel
theorem d_Wr_sameHead_10 : decode b_Wr_sameHead 10 = .ok (.invokevirtual 49, 3) := by decide +kernel
theorem d_Wr_sameHead_13 : decode b_Wr_sameHead 13 = .ok (.if_icmp .ne 39, 3) := by decide +kernel
theorem d_Wr_sameHead_16 : decode b_Wr_sameHead 16 = .ok (.aload_n 1, 1) := by decide +kernel
theorem d_Wr_sameHead_17 : decode b_Wr_sameHead 17 = .ok (.iload_n 2, 1) := by decide +kernel
theorem d_Wr_sameHead_18 : decode b_Wr_sameHead 18 = .ok (.iconst 2, 1) := by decide +kernel
theorem d_Wr_sameHead_19 : decode b_Wr_sameHead 19 = .ok (.invokevirtual 49, 3) := by decide +kernel
theorem d_Wr_sameHead_22 : decode b_Wr_sameHead 22 = .ok (.aload_n 3, 1) := by decide +kernel
theorem d_Wr_sameHead_23 : decode b_Wr_sameHead 23 = .ok (.iload 4, 2) := by decide +kernel
theorem d_Wr_sameHead_25 : decode b_Wr_sameHead 25 = .ok (.iconst 2, 1) := by decide +kernel
theorem d_Wr_sameHead_26 : decode b_Wr_sameHead 26 = .ok (.invokevirtual 49, 3) := by decide +kernel
theorem d_Wr_sameHead_29 : decode b_Wr_sameHead 29 = .ok (.if_icmp .ne 23, 3) := by decide +kernel
theorem d_Wr_sameHead_32 : decode b_Wr_sameHead 32 = .ok (.aload_n 1, 1) := by decide +kernel
theorem d_Wr_sameHead_33 : decode b_Wr_sameHead 33 = .ok (.iload_n 2, 1) := by decide +kernel
theorem d_Wr_sameHead_34 : decode b_Wr_sameHead 34 = .ok (.iconst 3, 1) := by decide +kernel
theorem d_Wr_sameHead_35 : decode b_Wr_sameHead 35 = .ok (.invokevirtual 49, 3) := by decide +kernel
theorem d_Wr_sameHead_38 : decode b_Wr_sameHead 38 = .ok (.aload_n 3, 1) := by decide +kernel
theorem d_Wr_sameHead_39 : decode b_Wr_sameHead 39 = .ok (.iload 4, 2) := by decide +kernel
theorem d_Wr_sameHead_41 : decode b_Wr_sameHead 41 = .ok (.iconst 3, 1) := by decide +kernel
theorem d_Wr_sameHead_42 : decode b_Wr_sameHead 42 = .ok (.invokevirtual 49, 3) := by decide +kernel
theorem d_Wr_sameHead_45 : decode b_Wr_sameHead 45 = .ok (.if_icmp .ne 7, 3) := by decide +kernel
theorem d_Wr_sameHead_48 : decode b_Wr_sameHead 48 = .ok (.iconst 1, 1) := by decide +kernel
theorem d_Wr_sameHead_49 : decode b_Wr_sameHead 49 = .ok (.goto 4, 3) := by decide +kernel
theorem d_Wr_sameHead_52 : decode b_Wr_sameHead 52 = .ok (.iconst 0, 1) := by decide +kernel
theorem d_Wr_sameHead_53 : decode b_Wr_sameHead 53 = .ok (.istore 5, 2) := by decide +kernel
theorem d_Wr_sameHead_55 : decode b_Wr_sameHead 55 = .ok (.iconst 0, 1) := by decide +kernel
theorem d_Wr_sameHead_56 : decode b_Wr_sameHead 56 = .ok (.istore 6, 2) := by decide +kernel
theorem d_Wr_sameHead_58 : decode b_Wr_sameHead 58 = .ok (.iload 6, 2) := by decide +kernel
theorem d_Wr_sameHead_60 : decode b_Wr_sameHead 60 = .ok (.iconst 4, 1) := by decide +kernel
theorem d_Wr_sameHead_61 : decode b_Wr_sameHead 61 = .ok (.if_icmp .ge 54, 3) := by decide +kernel
theorem d_Wr_sameHead_64 : decode b_Wr_sameHead 64 = .ok (.iload 5, 2) := by decide +kernel
theorem d_Wr_sameHead_66 : decode b_Wr_sameHead 66 = .ok (.ifCond .eq 49, 3) := by decide +kernel
theorem d_Wr_sameHead_69 : decode b_Wr_sameHead 69 = .ok (.iload 6, 2) := by decide +kernel
theorem d_Wr_sameHead_71 : decode b_Wr_sameHead 71 = .ok (.aload_n 1, 1) := by decide +kernel
theorem d_Wr_sameHead_72 : decode b_Wr_sameHead 72 = .ok (.iload_n 2, 1) := by decide +kernel
theorem d_Wr_sameHead_73 : decode b_Wr_sameHead 73 = .ok (.iconst 3, 1) := by decide +kernel
theorem d_Wr_sameHead_74 : decode b_Wr_sameHead 74 = .ok (.invokevirtual 49, 3) := by decide +kernel
theorem d_Wr_sameHead_77 : decode b_Wr_sameHead 77 = .ok (.if_icmp .ge 25, 3) := by decide +kernel
theorem d_Wr_sameHead_80 : decode b_Wr_sameHead 80 = .ok (.aload_n 1, 1) := by decide +kernel
theorem d_Wr_sameHead_81 : decode b_Wr_sameHead 81 = .ok (.iload_n 2, 1) := by decide +kernel
theorem d_Wr_sameHead_82 : decode b_Wr_sameHead 82 = .ok (.iconst 4, 1) := by decide +kernel
theorem d_Wr_sameHead_83 : decode b_Wr_sameHead 83 = .ok (.iload 6, 2) := by decide +kernel
theorem d_Wr_sameHead_85 : decode b_Wr_sameHead 85 = .ok (.iadd, 1) := by decide +kernel
theorem d_Wr_sameHead_86 : decode b_Wr_sameHead 86 = .ok (.invokevirtual 49, 3) := by decide +kernel
theorem d_Wr_sameHead_89 : decode b_Wr_sameHead 89 = .ok (.aload_n 3, 1) := by decide +kernel
theorem d_Wr_sameHead_90 : decode b_Wr_sameHead 90 = .ok (.iload 4, 2) := by decide +kernel
theorem d_Wr_sameHead_92 : decode b_Wr_sameHead 92 = .ok (.iconst 4, 1) := by decide +kernel
theorem d_Wr_sameHead_93 : decode b_Wr_sameHead 93 = .ok (.iload 6, 2) := by decide +kernel
theorem d_Wr_sameHead_95 : decode b_Wr_sameHead 95 = .ok (.iadd, 1) := by decide +kernel
theorem d_Wr_sameHead_96 : decode b_Wr_sameHead 96 = .ok (.invokevirtual 49, 3) := by decide +kernel
theorem d_Wr_sameHead_99 : decode b_Wr_sameHead 99 = .ok (.if_icmp .ne 7, 3) := by decide +kernel
theorem d_Wr_sameHead_102 : decode b_Wr_sameHead 102 = .ok (.iconst 1, 1) := by decide +kernel
theorem d_Wr_sameHead_103 : decode b_Wr_sameHead 103 = .ok (.goto 4, 3) := by decide +kernel
theorem d_Wr_sameHead_106 : decode b_Wr_sameHead 106 = .ok (.iconst 0, 1) := by decide +kernel
theorem d_Wr_sameHead_107 : decode b_Wr_sameHead 107 = .ok (.istore 5, 2) := by decide +kernel
theorem d_Wr_sameHead_109 : decode b_Wr_sameHead 109 = .ok (.iinc 6 1, 3) := by decide +kernel
theorem d_Wr_sameHead_112 : decode b_Wr_sameHead 112 = .ok (.goto (-54), 3) := by decide +kernel
theorem d_Wr_sameHead_115 : decode b_Wr_sameHead 115 = .ok (.iload 5, 2) := by decide +kernel
theorem d_Wr_sameHead_117 : decode b_Wr_sameHead 117 = .ok (.ireturn, 1) := by decide +kernel
abbrev ru_Wr_sameHead : Room := { frames := 1, cells := 0, slots := 0, locals := 22 }
def wj_Wr_sameHead_115 (y : Ly) (Post : St → Int32 → Prop) (a0 : Nat) (a1 : Nat) (a3 : Nat) (s_j115 : St) (x5j115 : Int32) : Prop := (nb x5j115 ∧ Post s_j115 x5j115)
def wj_Wr_sameHead_107 (y : Ly) (Post : St → Int32 → Prop) (K_58 : St → Int32 → Int32 → Int32 → Int32 → Prop) (a0 : Nat) (a1 : Nat) (a3 : Nat) (s_j107 : St) (x2j107 : Int32) (x4j107 : Int32) (x6j107 : Int32) (z0j107 : Int32) : Prop := K_58 s_j107 x2j107 x4j107 z0j107 (x6j107 + 1)
def wj_Wr_sameHead_102 (y : Ly) (Post : St → Int32 → Prop) (K_58 : St → Int32 → Int32 → Int32 → Int32 → Prop) (a0 : Nat) (a1 : Nat) (a3 : Nat) (s_j102 : St) (x2j102 : Int32) (x4j102 : Int32) (x6j102 : Int32) : Prop := wj_Wr_sameHead_107 y Post K_58 a0 a1 a3 s_j102 x2j102 x4j102 x6j102 1
def wb_Wr_sameHead_58 (y : Ly) (Post : St → Int32 → Prop) (K_58 : St → Int32 → Int32 → Int32 → Int32 → Prop) (a0 : Nat) (a1 : Nat) (a3 : Nat) (s_h58 : St) (x2h58 : Int32) (x4h58 : Int32) (x5h58 : Int32) (x6h58 : Int32) : Prop := ((4 ≤ x6h58 → wj_Wr_sameHead_115 y Post a0 a1 a3 s_h58 x5h58) ∧ (¬ (4 ≤ x6h58) → ((x5h58 = 0 → wj_Wr_sameHead_115 y Post a0 a1 a3 s_h58 x5h58) ∧ (¬ (x5h58 = 0) → wu_Wd_of y (fun (s_6 : St) (r_5 : Int32) => ((r_5 ≤ x6h58 → wj_Wr_sameHead_102 y Post K_58 a0 a1 a3 s_6 x2h58 x4h58 x6h58) ∧ (¬ (r_5 ≤ x6h58) → wu_Wd_of y (fun (s_8 : St) (r_7 : Int32) => wu_Wd_of y (fun (s_10 : St) (r_9 : Int32) => ((¬ r_7 = r_9 → wj_Wr_sameHead_107 y Post K_58 a0 a1 a3 s_10 x2h58 x4h58 x6h58 0) ∧ (r_7 = r_9 → wj_Wr_sameHead_102 y Post K_58 a0 a1 a3 s_10 x2h58 x4h58 x6h58))) s_8 a3 x4h58 (4 + x6h58)) s_6 a1 x2h58 (4 + x6h58)))) s_h58 a1 x2h58 3))))
def wl_Wr_sameHead_58 (y : Ly) (Post : St → Int32 → Prop) (a0 : Nat) (a1 : Nat) (a3 : Nat) (s_h58 : St) (x2h58 : Int32) (x4h58 : Int32) (x5h58 : Int32) (x6h58 : Int32) : Prop := ∃ (I : St → Int32 → Int32 → Int32 → Int32 → Prop) (μ : St → Int32 → Int32 → Int32 → Int32 → Nat), I s_h58 x2h58 x4h58 x5h58 x6h58 ∧ ∀ (u : St) (t0 : Int32) (t1 : Int32) (t2 : Int32) (t3 : Int32), I u t0 t1 t2 t3 → wb_Wr_sameHead_58 y Post (fun z t0q t1q t2q t3q => I z t0q t1q t2q t3q ∧ μ z t0q t1q t2q t3q < μ u t0 t1 t2 t3) a0 a1 a3 u t0 t1 t2 t3
def wj_Wr_sameHead_53 (y : Ly) (Post : St → Int32 → Prop) (a0 : Nat) (a1 : Nat) (a3 : Nat) (s_j53 : St) (x2j53 : Int32) (x4j53 : Int32) (z0j53 : Int32) : Prop := wl_Wr_sameHead_58 y Post a0 a1 a3 s_j53 x2j53 x4j53 z0j53 0
def wj_Wr_sameHead_52 (y : Ly) (Post : St → Int32 → Prop) (a0 : Nat) (a1 : Nat) (a3 : Nat) (s_j52 : St) (x2j52 : Int32) (x4j52 : Int32) : Prop := wj_Wr_sameHead_53 y Post a0 a1 a3 s_j52 x2j52 x4j52 0
def wu_Wr_sameHead (y : Ly) (Post : St → Int32 → Prop) (σ : St) (a0 : Nat) (a1 : Nat) (v2 : Int32) (a3 : Nat) (v4 : Int32) : Prop := wu_Wd_of y (fun (s_2 : St) (r_1 : Int32) => wu_Wd_of y (fun (s_4 : St) (r_3 : Int32) => ((¬ r_1 = r_3 → wj_Wr_sameHead_52 y Post a0 a1 a3 s_4 v2 v4) ∧ (r_1 = r_3 → wu_Wd_of y (fun (s_12 : St) (r_11 : Int32) => wu_Wd_of y (fun (s_14 : St) (r_13 : Int32) => ((¬ r_11 = r_13 → wj_Wr_sameHead_52 y Post a0 a1 a3 s_14 v2 v4) ∧ (r_11 = r_13 → wu_Wd_of y (fun (s_16 : St) (r_15 : Int32) => wu_Wd_of y (fun (s_18 : St) (r_17 : Int32) => ((¬ r_15 = r_17 → wj_Wr_sameHead_52 y Post a0 a1 a3 s_18 v2 v4) ∧ (r_15 = r_17 → wj_Wr_sameHead_53 y Post a0 a1 a3 s_18 v2 v4 1))) s_16 a3 v4 3) s_14 a1 v2 3))) s_12 a3 v4 2) s_4 a1 v2 2))) s_2 a3 v4 1) σ a1 v2 1
set_option maxHeartbeats 4000000 in
set_option maxRecDepth 100000 in
theorem cu_Wr_sameHead (l : Launch) (D : va_G) (g : Nat → ClassId) (ad : Nat → Nat) (y : Ly) (Post : St → Int32 → Prop) (σ : St) (a0 : Nat) (a1 : Nat) (v2 : Int32) (a3 : Nat) (v4 : Int32) (sz : Nat) (h_a0 : cl a0 = 10) (h_a1 : cl a1 = 9) (h_a3 : cl a3 = 9) (h : wu_Wr_sameHead y Post σ a0 a1 v2 a3 v4) : Met l y_Wr_sameHead (mw y_Wr_sameHead b_Wr_sameHead 7 (some (.boolean))) ru_Wr_sameHead (PC g D [] [.ref (ad a0), .ref (ad a1), .int v2, .ref (ad a3), .int v4] sz (ws g ad y σ)) (va_Qi (fun (r : Int32) (u : St) => Post u r) (QW D (va_A (ws g ad y σ) sz) (fun u => ws g ad y u)) (va_A (ws g ad y σ) sz)) 0 0 (va_A (ws g ad y σ) sz) := by
  refine ofZ (by decide +kernel) (Nat.le_of_ble_eq_true rfl) ?_
  intro p e s m args below meth c A Q ls H locs G hsz hP hD hS hl hret
  subst hsz
  have hl : lv_has ls 7 [(0, .ref (ad a0)), (1, .ref (ad a1)), (2, .int v2), (3, .ref (ad a3)), (4, .int v4)] := hl
  unfold wu_Wr_sameHead at h
  refine lv_aload_n G.1 G.2.1 d_Wr_sameHead_0 rfl (lv_at hl 1 rfl) ?_
  refine lv_iload_n G.1 G.2.1 d_Wr_sameHead_1 rfl (lv_at hl 2 rfl) ?_
  refine lv_iconst (v := 1) G.1 G.2.1 d_Wr_sameHead_2 (by decide) ?_
  refine ucVi (As := [.int v2, .int 1]) (rest := []) G hP hD hS (cu_Wd_of l D g ad y _ σ a1 v2 1 H.size h_a1 h) w9_Wd_of q2154 ⟨Nat.le_of_ble_eq_true rfl, Nat.le_of_ble_eq_true rfl⟩ rfl rfl h_a1 (q := (RWd, TWd, 17)) rfl rfl hl.1 rfl (Nat.le_of_ble_eq_true rfl) rfl ⟨Nat.le_refl _, Nat.le_refl _⟩ d_Wr_sameHead_3 (fun r_1 s_2 H locs h hP hD hS => ?_)
  refine lv_aload_n G.1 G.2.1 d_Wr_sameHead_6 rfl (lv_at hl 3 rfl) ?_
  refine lv_iload G.1 G.2.1 d_Wr_sameHead_7 (lv_at hl 4 rfl) ?_
  refine lv_iconst (v := 1) G.1 G.2.1 d_Wr_sameHead_9 (by decide) ?_
  refine ucVi (As := [.int v4, .int 1]) (rest := [.int r_1]) G hP hD hS (cu_Wd_of l D g ad y _ s_2 a3 v4 1 H.size h_a3 h) w9_Wd_of q2154 ⟨Nat.le_of_ble_eq_true rfl, Nat.le_of_ble_eq_true rfl⟩ rfl rfl h_a3 (q := (RWd, TWd, 17)) rfl rfl hl.1 rfl (Nat.le_of_ble_eq_true rfl) rfl ⟨Nat.le_refl _, Nat.le_refl _⟩ d_Wr_sameHead_10 (fun r_3 s_4 H locs h hP hD hS => ?_)
  have J_53 : ∀ (s_j53 : St) (x2j53 : Int32) (x4j53 : Int32) (z0j53 : Int32) (H : Heap) (locs : List Loc), wj_Wr_sameHead_53 y Post a0 a1 a3 s_j53 x2j53 x4j53 z0j53 → va_P D CL (ws g ad y s_j53) H → va_D A (ws g ad y s_j53) → va_S A s.heap H locs → ∀ ls, lv_has ls 7 [(1, .ref (ad a1)), (2, .int x2j53), (3, .ref (ad a3)), (4, .int x4j53)] → W p l e ru_Wr_sameHead s m args below meth c H locs 0 0 Q (F0 m 53 ls [.int z0j53]) := by
    intro s_j53 x2j53 x4j53 z0j53 H locs h hP hD hS ls hl
    unfold wj_Wr_sameHead_53 at h
    refine lv_istore (lv' := [(5, .int z0j53), (1, .ref (ad a1)), (2, .int x2j53), (3, .ref (ad a3)), (4, .int x4j53)]) G.1 G.2.1 d_Wr_sameHead_53 hl (by decide) rfl (fun ls hl => ?_)
    refine lv_iconst (v := 0) G.1 G.2.1 d_Wr_sameHead_55 (by decide) ?_
    refine lv_istore (lv' := [(6, .int 0), (5, .int z0j53), (1, .ref (ad a1)), (2, .int x2j53), (3, .ref (ad a3)), (4, .int x4j53)]) G.1 G.2.1 d_Wr_sameHead_56 hl (by decide) rfl (fun ls hl => ?_)
    unfold wl_Wr_sameHead_58 at h
    obtain ⟨I_58, μ_58, hI_58, hB_58⟩ := h
    have L_58 : ∀ (n_58 : Nat) (s_h58 : St) (x2h58 : Int32) (x4h58 : Int32) (x5h58 : Int32) (x6h58 : Int32), μ_58 s_h58 x2h58 x4h58 x5h58 x6h58 < n_58 → I_58 s_h58 x2h58 x4h58 x5h58 x6h58 → ∀ (H : Heap) (locs : List Loc), va_P D CL (ws g ad y s_h58) H → va_D A (ws g ad y s_h58) → va_S A s.heap H locs → ∀ ls, lv_has ls 7 [(1, .ref (ad a1)), (2, .int x2h58), (3, .ref (ad a3)), (4, .int x4h58), (5, .int x5h58), (6, .int x6h58)] → W p l e ru_Wr_sameHead s m args below meth c H locs 0 0 Q (F0 m 58 ls []) := by
      intro n_58
      induction n_58 with
      | zero => intro s_h58 x2h58 x4h58 x5h58 x6h58 hμ; exact absurd hμ (Nat.not_lt_zero _)
      | succ n_58 ih_58 =>
        intro s_h58 x2h58 x4h58 x5h58 x6h58 hμ_58 hJ H locs hP hD hS ls hl
        obtain ⟨K_58, hK_58, h⟩ : ∃ K : St → Int32 → Int32 → Int32 → Int32 → Prop, (∀ z (t0 : Int32) (t1 : Int32) (t2 : Int32) (t3 : Int32), K z t0 t1 t2 t3 → I_58 z t0 t1 t2 t3 ∧ μ_58 z t0 t1 t2 t3 < μ_58 s_h58 x2h58 x4h58 x5h58 x6h58) ∧ wb_Wr_sameHead_58 y Post K a0 a1 a3 s_h58 x2h58 x4h58 x5h58 x6h58 := ⟨_, fun _ _ _ _ _ h => h, hB_58 s_h58 x2h58 x4h58 x5h58 x6h58 hJ⟩
        unfold wb_Wr_sameHead_58 at h
        refine lv_iload G.1 G.2.1 d_Wr_sameHead_58 (lv_at hl 5 rfl) ?_
        refine lv_iconst (v := 4) G.1 G.2.1 d_Wr_sameHead_60 (by decide) ?_
        have J_115 : ∀ (s_j115 : St) (x5j115 : Int32) (H : Heap) (locs : List Loc), wj_Wr_sameHead_115 y Post a0 a1 a3 s_j115 x5j115 → va_P D CL (ws g ad y s_j115) H → va_D A (ws g ad y s_j115) → va_S A s.heap H locs → ∀ ls, lv_has ls 7 [(5, .int x5j115)] → W p l e ru_Wr_sameHead s m args below meth c H locs 0 0 Q (F0 m 115 ls []) := by
          intro s_j115 x5j115 H locs h hP hD hS ls hl
          unfold wj_Wr_sameHead_115 at h
          refine lv_iload G.1 G.2.1 d_Wr_sameHead_115 (lv_at hl 0 rfl) ?_
          exact hret _ _ _ _ _ _ _ ls (nb_n h.1) h.2 hP hD hS (Nat.le_refl _) (Nat.le_refl _) d_Wr_sameHead_117
        refine lv_icmp_ge (tgt := 115) G.1 G.2.1 d_Wr_sameHead_61 (by decide) (fun c61 => ?_) (fun c61 => ?_)
        · skip
          have h := h.1 c61
          exact J_115 s_h58 x5h58 H locs h hP hD hS ls (lv_sub hl [4] rfl)
        · skip
          have h := h.2 c61
          refine lv_iload G.1 G.2.1 d_Wr_sameHead_64 (lv_at hl 4 rfl) ?_
          refine lv_if_eq (tgt := 115) G.1 G.2.1 d_Wr_sameHead_66 (by decide) (fun c66 => ?_) (fun c66 => ?_)
          · skip
            have h := h.1 c66
            exact J_115 s_h58 x5h58 H locs h hP hD hS ls (lv_sub hl [4] rfl)
          · skip
            have h := h.2 c66
            refine lv_iload G.1 G.2.1 d_Wr_sameHead_69 (lv_at hl 5 rfl) ?_
            refine lv_aload_n G.1 G.2.1 d_Wr_sameHead_71 rfl (lv_at hl 0 rfl) ?_
            refine lv_iload_n G.1 G.2.1 d_Wr_sameHead_72 rfl (lv_at hl 1 rfl) ?_
            refine lv_iconst (v := 3) G.1 G.2.1 d_Wr_sameHead_73 (by decide) ?_
            refine ucVi (As := [.int x2h58, .int 3]) (rest := [.int x6h58]) G hP hD hS (cu_Wd_of l D g ad y _ s_h58 a1 x2h58 3 H.size h_a1 h) w9_Wd_of q2154 ⟨Nat.le_of_ble_eq_true rfl, Nat.le_of_ble_eq_true rfl⟩ rfl rfl h_a1 (q := (RWd, TWd, 17)) rfl rfl hl.1 rfl (Nat.le_of_ble_eq_true rfl) rfl ⟨Nat.le_refl _, Nat.le_refl _⟩ d_Wr_sameHead_74 (fun r_5 s_6 H locs h hP hD hS => ?_)
            have J_107 : ∀ (s_j107 : St) (x2j107 : Int32) (x4j107 : Int32) (x6j107 : Int32) (z0j107 : Int32) (H : Heap) (locs : List Loc), wj_Wr_sameHead_107 y Post K_58 a0 a1 a3 s_j107 x2j107 x4j107 x6j107 z0j107 → va_P D CL (ws g ad y s_j107) H → va_D A (ws g ad y s_j107) → va_S A s.heap H locs → ∀ ls, lv_has ls 7 [(1, .ref (ad a1)), (2, .int x2j107), (3, .ref (ad a3)), (4, .int x4j107), (6, .int x6j107)] → W p l e ru_Wr_sameHead s m args below meth c H locs 0 0 Q (F0 m 107 ls [.int z0j107]) := by
              intro s_j107 x2j107 x4j107 x6j107 z0j107 H locs h hP hD hS ls hl
              unfold wj_Wr_sameHead_107 at h
              refine lv_istore (lv' := [(5, .int z0j107), (1, .ref (ad a1)), (2, .int x2j107), (3, .ref (ad a3)), (4, .int x4j107), (6, .int x6j107)]) G.1 G.2.1 d_Wr_sameHead_107 hl (by decide) rfl (fun ls hl => ?_)
              refine lv_iinc (v := x6j107 + 1) (lv' := [(6, .int (x6j107 + 1)), (5, .int z0j107), (1, .ref (ad a1)), (2, .int x2j107), (3, .ref (ad a3)), (4, .int x4j107)]) G.1 G.2.1 d_Wr_sameHead_109 hl (k := 5) rfl rfl (by decide) rfl (fun ls hl => ?_)
              refine lv_goto (tgt := 58) G.1 G.2.1 d_Wr_sameHead_112 (by decide) ?_
              have h := hK_58 s_j107 x2j107 x4j107 z0j107 (x6j107 + 1) h
              exact ih_58 s_j107 x2j107 x4j107 z0j107 (x6j107 + 1) (Nat.lt_of_lt_of_le h.2 (Nat.le_of_lt_succ hμ_58)) h.1 H locs hP hD hS ls (lv_sub hl [2, 3, 4, 5, 1, 0] rfl)
            have J_102 : ∀ (s_j102 : St) (x2j102 : Int32) (x4j102 : Int32) (x6j102 : Int32) (H : Heap) (locs : List Loc), wj_Wr_sameHead_102 y Post K_58 a0 a1 a3 s_j102 x2j102 x4j102 x6j102 → va_P D CL (ws g ad y s_j102) H → va_D A (ws g ad y s_j102) → va_S A s.heap H locs → ∀ ls, lv_has ls 7 [(1, .ref (ad a1)), (2, .int x2j102), (3, .ref (ad a3)), (4, .int x4j102), (6, .int x6j102)] → W p l e ru_Wr_sameHead s m args below meth c H locs 0 0 Q (F0 m 102 ls []) := by
              intro s_j102 x2j102 x4j102 x6j102 H locs h hP hD hS ls hl
              unfold wj_Wr_sameHead_102 at h
              refine lv_iconst (v := 1) G.1 G.2.1 d_Wr_sameHead_102 (by decide) ?_
              refine lv_goto (tgt := 107) G.1 G.2.1 d_Wr_sameHead_103 (by decide) ?_
              exact J_107 s_j102 x2j102 x4j102 x6j102 1 H locs h hP hD hS ls (lv_sub hl [0, 1, 2, 3, 4] rfl)
            refine lv_icmp_ge (tgt := 102) G.1 G.2.1 d_Wr_sameHead_77 (by decide) (fun c77 => ?_) (fun c77 => ?_)
            · skip
              have h := h.1 c77
              exact J_102 s_6 x2h58 x4h58 x6h58 H locs h hP hD hS ls (lv_sub hl [0, 1, 2, 3, 5] rfl)
            · skip
              have h := h.2 c77
              refine W.eq (g2 := F0 m 80 ls []) rfl ?_
              refine lv_aload_n G.1 G.2.1 d_Wr_sameHead_80 rfl (lv_at hl 0 rfl) ?_
              refine lv_iload_n G.1 G.2.1 d_Wr_sameHead_81 rfl (lv_at hl 1 rfl) ?_
              refine lv_iconst (v := 4) G.1 G.2.1 d_Wr_sameHead_82 (by decide) ?_
              refine lv_iload G.1 G.2.1 d_Wr_sameHead_83 (lv_at hl 5 rfl) ?_
              refine lv_iadd G.1 G.2.1 d_Wr_sameHead_85 ?_
              refine ucVi (As := [.int x2h58, .int (4 + x6h58)]) (rest := []) G hP hD hS (cu_Wd_of l D g ad y _ s_6 a1 x2h58 (4 + x6h58) H.size h_a1 h) w9_Wd_of q2154 ⟨Nat.le_of_ble_eq_true rfl, Nat.le_of_ble_eq_true rfl⟩ rfl rfl h_a1 (q := (RWd, TWd, 17)) rfl rfl hl.1 rfl (Nat.le_of_ble_eq_true rfl) rfl ⟨Nat.le_refl _, Nat.le_refl _⟩ d_Wr_sameHead_86 (fun r_7 s_8 H locs h hP hD hS => ?_)
              refine lv_aload_n G.1 G.2.1 d_Wr_sameHead_89 rfl (lv_at hl 2 rfl) ?_
              refine lv_iload G.1 G.2.1 d_Wr_sameHead_90 (lv_at hl 3 rfl) ?_
              refine lv_iconst (v := 4) G.1 G.2.1 d_Wr_sameHead_92 (by decide) ?_
              refine lv_iload G.1 G.2.1 d_Wr_sameHead_93 (lv_at hl 5 rfl) ?_
              refine lv_iadd G.1 G.2.1 d_Wr_sameHead_95 ?_
              refine ucVi (As := [.int x4h58, .int (4 + x6h58)]) (rest := [.int r_7]) G hP hD hS (cu_Wd_of l D g ad y _ s_8 a3 x4h58 (4 + x6h58) H.size h_a3 h) w9_Wd_of q2154 ⟨Nat.le_of_ble_eq_true rfl, Nat.le_of_ble_eq_true rfl⟩ rfl rfl h_a3 (q := (RWd, TWd, 17)) rfl rfl hl.1 rfl (Nat.le_of_ble_eq_true rfl) rfl ⟨Nat.le_refl _, Nat.le_refl _⟩ d_Wr_sameHead_96 (fun r_9 s_10 H locs h hP hD hS => ?_)
              refine W.eq (g2 := F0 m 99 ls [.int r_9, .int r_7]) rfl ?_
              refine lv_icmp_ne (tgt := 106) G.1 G.2.1 d_Wr_sameHead_99 (by decide) (fun c99 => ?_) (fun c99 => ?_)
              · skip
                have h := h.1 c99
                refine lv_iconst (v := 0) G.1 G.2.1 d_Wr_sameHead_106 (by decide) ?_
                exact J_107 s_10 x2h58 x4h58 x6h58 0 H locs h hP hD hS ls (lv_sub hl [0, 1, 2, 3, 5] rfl)
              · skip
                have h := h.2 c99
                exact J_102 s_10 x2h58 x4h58 x6h58 H locs h hP hD hS ls (lv_sub hl [0, 1, 2, 3, 5] rfl)
    exact L_58 _ s_j53 x2j53 x4j53 z0j53 0 (Nat.lt_succ_self _) hI_58 H locs hP hD hS ls (lv_sub hl [2, 3, 4, 5, 1, 0] rfl)
  have J_52 : ∀ (s_j52 : St) (x2j52 : Int32) (x4j52 : Int32) (H : Heap) (locs : List Loc), wj_Wr_sameHead_52 y Post a0 a1 a3 s_j52 x2j52 x4j52 → va_P D CL (ws g ad y s_j52) H → va_D A (ws g ad y s_j52) → va_S A s.heap H locs → ∀ ls, lv_has ls 7 [(1, .ref (ad a1)), (2, .int x2j52), (3, .ref (ad a3)), (4, .int x4j52)] → W p l e ru_Wr_sameHead s m args below meth c H locs 0 0 Q (F0 m 52 ls []) := by
    intro s_j52 x2j52 x4j52 H locs h hP hD hS ls hl
    unfold wj_Wr_sameHead_52 at h
    refine lv_iconst (v := 0) G.1 G.2.1 d_Wr_sameHead_52 (by decide) ?_
    exact J_53 s_j52 x2j52 x4j52 0 H locs h hP hD hS ls (lv_sub hl [0, 1, 2, 3] rfl)
  refine lv_icmp_ne (tgt := 52) G.1 G.2.1 d_Wr_sameHead_13 (by decide) (fun c13 => ?_) (fun c13 => ?_)
  · skip
    have h := h.1 c13
    exact J_52 s_4 v2 v4 H locs h hP hD hS ls (lv_sub hl [1, 2, 3, 4] rfl)
  · skip
    have h := h.2 c13
    refine lv_aload_n G.1 G.2.1 d_Wr_sameHead_16 rfl (lv_at hl 1 rfl) ?_
    refine lv_iload_n G.1 G.2.1 d_Wr_sameHead_17 rfl (lv_at hl 2 rfl) ?_
    refine W.eq (g2 := F0 m 18 ls [.int v2, .ref (ad a1)]) rfl ?_
    refine lv_iconst (v := 2) G.1 G.2.1 d_Wr_sameHead_18 (by decide) ?_
    refine ucVi (As := [.int v2, .int 2]) (rest := []) G hP hD hS (cu_Wd_of l D g ad y _ s_4 a1 v2 2 H.size h_a1 h) w9_Wd_of q2154 ⟨Nat.le_of_ble_eq_true rfl, Nat.le_of_ble_eq_true rfl⟩ rfl rfl h_a1 (q := (RWd, TWd, 17)) rfl rfl hl.1 rfl (Nat.le_of_ble_eq_true rfl) rfl ⟨Nat.le_refl _, Nat.le_refl _⟩ d_Wr_sameHead_19 (fun r_11 s_12 H locs h hP hD hS => ?_)
    refine lv_aload_n G.1 G.2.1 d_Wr_sameHead_22 rfl (lv_at hl 3 rfl) ?_
    refine lv_iload G.1 G.2.1 d_Wr_sameHead_23 (lv_at hl 4 rfl) ?_
    refine lv_iconst (v := 2) G.1 G.2.1 d_Wr_sameHead_25 (by decide) ?_
    refine ucVi (As := [.int v4, .int 2]) (rest := [.int r_11]) G hP hD hS (cu_Wd_of l D g ad y _ s_12 a3 v4 2 H.size h_a3 h) w9_Wd_of q2154 ⟨Nat.le_of_ble_eq_true rfl, Nat.le_of_ble_eq_true rfl⟩ rfl rfl h_a3 (q := (RWd, TWd, 17)) rfl rfl hl.1 rfl (Nat.le_of_ble_eq_true rfl) rfl ⟨Nat.le_refl _, Nat.le_refl _⟩ d_Wr_sameHead_26 (fun r_13 s_14 H locs h hP hD hS => ?_)
    refine lv_icmp_ne (tgt := 52) G.1 G.2.1 d_Wr_sameHead_29 (by decide) (fun c29 => ?_) (fun c29 => ?_)
    · skip
      have h := h.1 c29
      exact J_52 s_14 v2 v4 H locs h hP hD hS ls (lv_sub hl [1, 2, 3, 4] rfl)
    · skip
      have h := h.2 c29
      refine lv_aload_n G.1 G.2.1 d_Wr_sameHead_32 rfl (lv_at hl 1 rfl) ?_
      refine lv_iload_n G.1 G.2.1 d_Wr_sameHead_33 rfl (lv_at hl 2 rfl) ?_
      refine lv_iconst (v := 3) G.1 G.2.1 d_Wr_sameHead_34 (by decide) ?_
      refine ucVi (As := [.int v2, .int 3]) (rest := []) G hP hD hS (cu_Wd_of l D g ad y _ s_14 a1 v2 3 H.size h_a1 h) w9_Wd_of q2154 ⟨Nat.le_of_ble_eq_true rfl, Nat.le_of_ble_eq_true rfl⟩ rfl rfl h_a1 (q := (RWd, TWd, 17)) rfl rfl hl.1 rfl (Nat.le_of_ble_eq_true rfl) rfl ⟨Nat.le_refl _, Nat.le_refl _⟩ d_Wr_sameHead_35 (fun r_15 s_16 H locs h hP hD hS => ?_)
      refine lv_aload_n G.1 G.2.1 d_Wr_sameHead_38 rfl (lv_at hl 3 rfl) ?_
      refine W.eq (g2 := F0 m 39 ls [.ref (ad a3), .int r_15]) rfl ?_
      refine lv_iload G.1 G.2.1 d_Wr_sameHead_39 (lv_at hl 4 rfl) ?_
      refine lv_iconst (v := 3) G.1 G.2.1 d_Wr_sameHead_41 (by decide) ?_
      refine ucVi (As := [.int v4, .int 3]) (rest := [.int r_15]) G hP hD hS (cu_Wd_of l D g ad y _ s_16 a3 v4 3 H.size h_a3 h) w9_Wd_of q2154 ⟨Nat.le_of_ble_eq_true rfl, Nat.le_of_ble_eq_true rfl⟩ rfl rfl h_a3 (q := (RWd, TWd, 17)) rfl rfl hl.1 rfl (Nat.le_of_ble_eq_true rfl) rfl ⟨Nat.le_refl _, Nat.le_refl _⟩ d_Wr_sameHead_42 (fun r_17 s_18 H locs h hP hD hS => ?_)
      refine lv_icmp_ne (tgt := 52) G.1 G.2.1 d_Wr_sameHead_45 (by decide) (fun c45 => ?_) (fun c45 => ?_)
      · skip
        have h := h.1 c45
        exact J_52 s_18 v2 v4 H locs h hP hD hS ls (lv_sub hl [1, 2, 3, 4] rfl)
      · skip
        have h := h.2 c45
        refine lv_iconst (v := 1) G.1 G.2.1 d_Wr_sameHead_48 (by decide) ?_
        refine lv_goto (tgt := 53) G.1 G.2.1 d_Wr_sameHead_49 (by decide) ?_
        exact J_53 s_18 v2 v4 1 H locs h hP hD hS ls (lv_sub hl [1, 2, 3, 4] rfl)
def y_Wr_fieldsAlone : MethodName := ⟨"ClassWorks$Writer", "fieldsAlone", "(LClassWorks$World;ILClassWorks$World;I)I"⟩
abbrev b_Wr_fieldsAlone : ByteArray := prog_12_method_26_code
theorem q2186 : Cond.methodLink "ClassWorks$Writer" 102 y_Wd_field ∈ lw_ok := lw_okmem (List.mem_of_getElem? (i := 2186) (by decide +kernel)) rfl
theorem q2399 : Cond.methodLink "ClassWorks$Writer" 194 y_Wd_fieldWith ∈ lw_ok := lw_okmem (List.mem_of_getElem? (i := 2399) (by decide +kernel)) rfl
theorem d_Wr_fieldsAlone_0 : decode b_Wr_fieldsAlone 0 = .ok (.iconst 0, 1) := by decide +kernel
theorem d_Wr_fieldsAlone_1 : decode b_Wr_fieldsAlone 1 = .ok (.istore 5, 2) := by decide +kernel
theorem d_Wr_fieldsAlone_3 : decode b_Wr_fieldsAlone 3 = .ok (.iconst 0, 1) := by decide +kernel
theorem d_Wr_fieldsAlone_4 : decode b_Wr_fieldsAlone 4 = .ok (.istore 6, 2) := by decide +kernel
theorem d_Wr_fieldsAlone_6 : decode b_Wr_fieldsAlone 6 = .ok (.iload 6, 2) := by decide +kernel
theorem d_Wr_fieldsAlone_8 : decode b_Wr_fieldsAlone 8 = .ok (.aload_n 1, 1) := by decide +kernel
theorem d_Wr_fieldsAlone_9 : decode b_Wr_fieldsAlone 9 = .ok (.iload_n 2, 1) := by decide +kernel
theorem d_Wr_fieldsAlone_10 : decode b_Wr_fieldsAlone 10 = .ok (.bipush 9, 2) := by decide +kernel
theorem d_Wr_fieldsAlone_12 : decode b_Wr_fieldsAlone 12 = .ok (.invokevirtual 49, 3) := by decide +kernel
theorem d_Wr_fieldsAlone_15 : decode b_Wr_fieldsAlone 15 = .ok (.if_icmp .ge 109, 3) := by decide +kernel
theorem d_Wr_fieldsAlone_18 : decode b_Wr_fieldsAlone 18 = .ok (.aload_n 3, 1) := by decide +kernel
theorem d_Wr_fieldsAlone_19 : decode b_Wr_fieldsAlone 19 = .ok (.iload 4, 2) := by decide +kernel
theorem d_Wr_fieldsAlone_21 : decode b_Wr_fieldsAlone 21 = .ok (.aload_n 1, 1) := by decide +kernel
theorem d_Wr_fieldsAlone_22 : decode b_Wr_fieldsAlone 22 = .ok (.iload_n 2, 1) := by decide +kernel
theorem d_Wr_fieldsAlone_23 : decode b_Wr_fieldsAlone 23 = .ok (.iload 6, 2) := by decide +kernel
theorem d_Wr_fieldsAlone_25 : decode b_Wr_fieldsAlone 25 = .ok (.iconst 0, 1) := by decide +kernel
theorem d_Wr_fieldsAlone_26 : decode b_Wr_fieldsAlone 26 = .ok (.invokevirtual 102, 3) := by decide +kernel
theorem d_Wr_fieldsAlone_29 : decode b_Wr_fieldsAlone 29 = .ok (.aload_n 1, 1) := by decide +kernel
theorem d_Wr_fieldsAlone_30 : decode b_Wr_fieldsAlone 30 = .ok (.iload_n 2, 1) := by decide +kernel
theorem d_Wr_fieldsAlone_31 : decode b_Wr_fieldsAlone 31 = .ok (.iload 6, 2) := by decide +kernel
theorem d_Wr_fieldsAlone_33 : decode b_Wr_fieldsAlone 33 = .ok (.iconst 1, 1) := by decide +kernel
theorem d_Wr_fieldsAlone_34 : decode b_Wr_fieldsAlone 34 = .ok (.invokevirtual 102, 3) := by decide +kernel
theorem d_Wr_fieldsAlone_37 : decode b_Wr_fieldsAlone 37 = .ok (.invokevirtual 194, 3) := by decide +kernel
theorem d_Wr_fieldsAlone_40 : decode b_Wr_fieldsAlone 40 = .ok (.istore 7, 2) := by decide +kernel
theorem d_Wr_fieldsAlone_42 : decode b_Wr_fieldsAlone 42 = .ok (.iload 7, 2) := by decide +kernel
theorem d_Wr_fieldsAlone_44 : decode b_Wr_fieldsAlone 44 = .ok (.ifCond .lt 7, 3) := by decide +kernel
theorem d_Wr_fieldsAlone_47 : decode b_Wr_fieldsAlone 47 = .ok (.iconst 1, 1) := by decide +kernel
theorem d_Wr_fieldsAlone_48 : decode b_Wr_fieldsAlone 48 = .ok (.goto 4, 3) := by decide +kernel
theorem d_Wr_fieldsAlone_51 : decode b_Wr_fieldsAlone 51 = .ok (.iconst 0, 1) := by decide +kernel
theorem d_Wr_fieldsAlone_52 : decode b_Wr_fieldsAlone 52 = .ok (.istore 8, 2) := by decide +kernel
theorem d_Wr_fieldsAlone_54 : decode b_Wr_fieldsAlone 54 = .ok (.iconst 2, 1) := by decide +kernel
theorem d_Wr_fieldsAlone_55 : decode b_Wr_fieldsAlone 55 = .ok (.istore 9, 2) := by decide +kernel
theorem d_Wr_fieldsAlone_57 : decode b_Wr_fieldsAlone 57 = .ok (.iload 9, 2) := by decide +kernel
theorem d_Wr_fieldsAlone_59 : decode b_Wr_fieldsAlone 59 = .ok (.iconst 4, 1) := by decide +kernel
theorem d_Wr_fieldsAlone_60 : decode b_Wr_fieldsAlone 60 = .ok (.if_icmp .gt 43, 3) := by decide +kernel
theorem d_Wr_fieldsAlone_63 : decode b_Wr_fieldsAlone 63 = .ok (.iload 8, 2) := by decide +kernel
theorem d_Wr_fieldsAlone_65 : decode b_Wr_fieldsAlone 65 = .ok (.ifCond .eq 38, 3) := by decide +kernel
theorem d_Wr_fieldsAlone_68 : decode b_Wr_fieldsAlone 68 = .ok (.aload_n 1, 1) := by decide +kernel
theorem d_Wr_fieldsAlone_69 : decode b_Wr_fieldsAlone 69 = .ok (.iload_n 2, 1) := by decide +kernel
theorem d_Wr_fieldsAlone_70 : decode b_Wr_fieldsAlone 70 = .ok (.iload 6, 2) := by decide +kernel
theorem d_Wr_fieldsAlone_72 : decode b_Wr_fieldsAlone 72 = .ok (.iload 9, 2) := by decide +kernel
theorem d_Wr_fieldsAlone_74 : decode b_Wr_fieldsAlone 74 = .ok (.invokevirtual 102, 3) := by decide +kernel
theorem d_Wr_fieldsAlone_77 : decode b_Wr_fieldsAlone 77 = .ok (.aload_n 3, 1) := by decide +kernel
theorem d_Wr_fieldsAlone_78 : decode b_Wr_fieldsAlone 78 = .ok (.iload 4, 2) := by decide +kernel
theorem d_Wr_fieldsAlone_80 : decode b_Wr_fieldsAlone 80 = .ok (.iload 7, 2) := by decide +kernel
theorem d_Wr_fieldsAlone_82 : decode b_Wr_fieldsAlone 82 = .ok (.iload 9, 2) := by decide +kernel
theorem d_Wr_fieldsAlone_84 : decode b_Wr_fieldsAlone 84 = .ok (.invokevirtual 102, 3) := by decide +kernel
theorem d_Wr_fieldsAlone_87 : decode b_Wr_fieldsAlone 87 = .ok (.if_icmp .ne 7, 3) := by decide +kernel
theorem d_Wr_fieldsAlone_90 : decode b_Wr_fieldsAlone 90 = .ok (.iconst 1, 1) := by decide +kernel
theorem d_Wr_fieldsAlone_91 : decode b_Wr_fieldsAlone 91 = .ok (.goto 4, 3) := by decide +kernel
theorem d_Wr_fieldsAlone_94 : decode b_Wr_fieldsAlone 94 = .ok (.iconst 0, 1) := by decide +kernel
theorem d_Wr_fieldsAlone_95 : decode b_Wr_fieldsAlone 95 = .ok (.istore 8, 2) := by decide +kernel
theorem d_Wr_fieldsAlone_97 : decode b_Wr_fieldsAlone 97 = .ok (.iinc 9 1, 3) := by decide +kernel
theorem d_Wr_fieldsAlone_100 : decode b_Wr_fieldsAlone 100 = .ok (.goto (-43), 3) := by decide +kernel
theorem d_Wr_fieldsAlone_103 : decode b_Wr_fieldsAlone 103 = .ok (.iload 5, 2) := by decide +kernel
theorem d_Wr_fieldsAlone_105 : decode b_Wr_fieldsAlone 105 = .ok (.iload 8, 2) := by decide +kernel
theorem d_Wr_fieldsAlone_107 : decode b_Wr_fieldsAlone 107 = .ok (.ifCond .eq 7, 3) := by decide +kernel
theorem d_Wr_fieldsAlone_110 : decode b_Wr_fieldsAlone 110 = .ok (.iconst 0, 1) := by decide +kernel
theorem d_Wr_fieldsAlone_111 : decode b_Wr_fieldsAlone 111 = .ok (.goto 4, 3) := by decide +kernel
theorem d_Wr_fieldsAlone_114 : decode b_Wr_fieldsAlone 114 = .ok (.iconst 1, 1) := by decide +kernel
theorem d_Wr_fieldsAlone_115 : decode b_Wr_fieldsAlone 115 = .ok (.iadd, 1) := by decide +kernel
theorem d_Wr_fieldsAlone_116 : decode b_Wr_fieldsAlone 116 = .ok (.istore 5, 2) := by decide +kernel
theorem d_Wr_fieldsAlone_118 : decode b_Wr_fieldsAlone 118 = .ok (.iinc 6 1, 3) := by decide +kernel
theorem d_Wr_fieldsAlone_121 : decode b_Wr_fieldsAlone 121 = .ok (.goto (-115), 3) := by decide +kernel
theorem d_Wr_fieldsAlone_124 : decode b_Wr_fieldsAlone 124 = .ok (.iload 5, 2) := by decide +kernel
theorem d_Wr_fieldsAlone_126 : decode b_Wr_fieldsAlone 126 = .ok (.ireturn, 1) := by decide +kernel
abbrev ru_Wr_fieldsAlone : Room := { frames := 1, cells := 0, slots := 0, locals := 27 }
def wj_Wr_fieldsAlone_115 (y : Ly) (Post : St → Int32 → Prop) (K_6 : St → Int32 → Int32 → Int32 → Int32 → Prop) (a0 : Nat) (a1 : Nat) (a3 : Nat) (s_j115 : St) (x2j115 : Int32) (x4j115 : Int32) (x6j115 : Int32) (z0j115 : Int32) (z1j115 : Int32) : Prop := K_6 s_j115 x2j115 x4j115 (z0j115 + z1j115) (x6j115 + 1)
def wj_Wr_fieldsAlone_103 (y : Ly) (Post : St → Int32 → Prop) (K_6 : St → Int32 → Int32 → Int32 → Int32 → Prop) (a0 : Nat) (a1 : Nat) (a3 : Nat) (s_j103 : St) (x2j103 : Int32) (x4j103 : Int32) (x5j103 : Int32) (x6j103 : Int32) (x8j103 : Int32) : Prop := ((x8j103 = 0 → wj_Wr_fieldsAlone_115 y Post K_6 a0 a1 a3 s_j103 x2j103 x4j103 x6j103 x5j103 1) ∧ (¬ (x8j103 = 0) → wj_Wr_fieldsAlone_115 y Post K_6 a0 a1 a3 s_j103 x2j103 x4j103 x6j103 x5j103 0))
def wj_Wr_fieldsAlone_95 (y : Ly) (Post : St → Int32 → Prop) (K_6 : St → Int32 → Int32 → Int32 → Int32 → Prop) (K_57 : St → Int32 → Int32 → Int32 → Int32 → Int32 → Int32 → Int32 → Prop) (a0 : Nat) (a1 : Nat) (a3 : Nat) (s_j95 : St) (x2j95 : Int32) (x4j95 : Int32) (x5j95 : Int32) (x6j95 : Int32) (x7j95 : Int32) (x9j95 : Int32) (z0j95 : Int32) : Prop := K_57 s_j95 x2j95 x4j95 x5j95 x6j95 x7j95 z0j95 (x9j95 + 1)
def wb_Wr_fieldsAlone_57 (y : Ly) (Post : St → Int32 → Prop) (K_6 : St → Int32 → Int32 → Int32 → Int32 → Prop) (K_57 : St → Int32 → Int32 → Int32 → Int32 → Int32 → Int32 → Int32 → Prop) (a0 : Nat) (a1 : Nat) (a3 : Nat) (s_h57 : St) (x2h57 : Int32) (x4h57 : Int32) (x5h57 : Int32) (x6h57 : Int32) (x7h57 : Int32) (x8h57 : Int32) (x9h57 : Int32) : Prop := ((4 < x9h57 → wj_Wr_fieldsAlone_103 y Post K_6 a0 a1 a3 s_h57 x2h57 x4h57 x5h57 x6h57 x8h57) ∧ (¬ (4 < x9h57) → ((x8h57 = 0 → wj_Wr_fieldsAlone_103 y Post K_6 a0 a1 a3 s_h57 x2h57 x4h57 x5h57 x6h57 x8h57) ∧ (¬ (x8h57 = 0) → wu_Wd_field y (fun (s_10 : St) (r_9 : Int32) => wu_Wd_field y (fun (s_12 : St) (r_11 : Int32) => ((¬ r_9 = r_11 → wj_Wr_fieldsAlone_95 y Post K_6 K_57 a0 a1 a3 s_12 x2h57 x4h57 x5h57 x6h57 x7h57 x9h57 0) ∧ (r_9 = r_11 → wj_Wr_fieldsAlone_95 y Post K_6 K_57 a0 a1 a3 s_12 x2h57 x4h57 x5h57 x6h57 x7h57 x9h57 1))) s_10 a3 x4h57 x7h57 x9h57) s_h57 a1 x2h57 x6h57 x9h57))))
def wl_Wr_fieldsAlone_57 (y : Ly) (Post : St → Int32 → Prop) (K_6 : St → Int32 → Int32 → Int32 → Int32 → Prop) (a0 : Nat) (a1 : Nat) (a3 : Nat) (s_h57 : St) (x2h57 : Int32) (x4h57 : Int32) (x5h57 : Int32) (x6h57 : Int32) (x7h57 : Int32) (x8h57 : Int32) (x9h57 : Int32) : Prop := ∃ (I : St → Int32 → Int32 → Int32 → Int32 → Int32 → Int32 → Int32 → Prop) (μ : St → Int32 → Int32 → Int32 → Int32 → Int32 → Int32 → Int32 → Nat), I s_h57 x2h57 x4h57 x5h57 x6h57 x7h57 x8h57 x9h57 ∧ ∀ (u : St) (t0 : Int32) (t1 : Int32) (t2 : Int32) (t3 : Int32) (t4 : Int32) (t5 : Int32) (t6 : Int32), I u t0 t1 t2 t3 t4 t5 t6 → wb_Wr_fieldsAlone_57 y Post K_6 (fun z t0q t1q t2q t3q t4q t5q t6q => I z t0q t1q t2q t3q t4q t5q t6q ∧ μ z t0q t1q t2q t3q t4q t5q t6q < μ u t0 t1 t2 t3 t4 t5 t6) a0 a1 a3 u t0 t1 t2 t3 t4 t5 t6
def wj_Wr_fieldsAlone_52 (y : Ly) (Post : St → Int32 → Prop) (K_6 : St → Int32 → Int32 → Int32 → Int32 → Prop) (a0 : Nat) (a1 : Nat) (a3 : Nat) (s_j52 : St) (x2j52 : Int32) (x4j52 : Int32) (x5j52 : Int32) (x6j52 : Int32) (x7j52 : Int32) (z0j52 : Int32) : Prop := wl_Wr_fieldsAlone_57 y Post K_6 a0 a1 a3 s_j52 x2j52 x4j52 x5j52 x6j52 x7j52 z0j52 2
def wb_Wr_fieldsAlone_6 (y : Ly) (Post : St → Int32 → Prop) (K_6 : St → Int32 → Int32 → Int32 → Int32 → Prop) (a0 : Nat) (a1 : Nat) (a3 : Nat) (s_h6 : St) (x2h6 : Int32) (x4h6 : Int32) (x5h6 : Int32) (x6h6 : Int32) : Prop := wu_Wd_of y (fun (s_2 : St) (r_1 : Int32) => ((r_1 ≤ x6h6 → Post s_2 x5h6) ∧ (¬ (r_1 ≤ x6h6) → wu_Wd_field y (fun (s_4 : St) (r_3 : Int32) => wu_Wd_field y (fun (s_6 : St) (r_5 : Int32) => wu_Wd_fieldWith y (fun (s_8 : St) (r_7 : Int32) => ((r_7 < 0 → wj_Wr_fieldsAlone_52 y Post K_6 a0 a1 a3 s_8 x2h6 x4h6 x5h6 x6h6 r_7 0) ∧ (¬ (r_7 < 0) → wj_Wr_fieldsAlone_52 y Post K_6 a0 a1 a3 s_8 x2h6 x4h6 x5h6 x6h6 r_7 1))) s_6 a3 x4h6 r_3 r_5) s_4 a1 x2h6 x6h6 1) s_2 a1 x2h6 x6h6 0))) s_h6 a1 x2h6 9
def wl_Wr_fieldsAlone_6 (y : Ly) (Post : St → Int32 → Prop) (a0 : Nat) (a1 : Nat) (a3 : Nat) (s_h6 : St) (x2h6 : Int32) (x4h6 : Int32) (x5h6 : Int32) (x6h6 : Int32) : Prop := ∃ (I : St → Int32 → Int32 → Int32 → Int32 → Prop) (μ : St → Int32 → Int32 → Int32 → Int32 → Nat), I s_h6 x2h6 x4h6 x5h6 x6h6 ∧ ∀ (u : St) (t0 : Int32) (t1 : Int32) (t2 : Int32) (t3 : Int32), I u t0 t1 t2 t3 → wb_Wr_fieldsAlone_6 y Post (fun z t0q t1q t2q t3q => I z t0q t1q t2q t3q ∧ μ z t0q t1q t2q t3q < μ u t0 t1 t2 t3) a0 a1 a3 u t0 t1 t2 t3
def wu_Wr_fieldsAlone (y : Ly) (Post : St → Int32 → Prop) (σ : St) (a0 : Nat) (a1 : Nat) (v2 : Int32) (a3 : Nat) (v4 : Int32) : Prop := wl_Wr_fieldsAlone_6 y Post a0 a1 a3 σ v2 v4 0 0
set_option maxHeartbeats 4000000 in
set_option maxRecDepth 100000 in
theorem cu_Wr_fieldsAlone (l : Launch) (D : va_G) (g : Nat → ClassId) (ad : Nat → Nat) (y : Ly) (Post : St → Int32 → Prop) (σ : St) (a0 : Nat) (a1 : Nat) (v2 : Int32) (a3 : Nat) (v4 : Int32) (sz : Nat) (h_a0 : cl a0 = 10) (h_a1 : cl a1 = 9) (h_a3 : cl a3 = 9) (h : wu_Wr_fieldsAlone y Post σ a0 a1 v2 a3 v4) : Met l y_Wr_fieldsAlone (mw y_Wr_fieldsAlone b_Wr_fieldsAlone 10 (some .int)) ru_Wr_fieldsAlone (PC g D [] [.ref (ad a0), .ref (ad a1), .int v2, .ref (ad a3), .int v4] sz (ws g ad y σ)) (va_Qi (fun (r : Int32) (u : St) => Post u r) (QW D (va_A (ws g ad y σ) sz) (fun u => ws g ad y u)) (va_A (ws g ad y σ) sz)) 0 0 (va_A (ws g ad y σ) sz) := by
  refine ofI (by decide +kernel) (Nat.le_of_ble_eq_true rfl) ?_
  intro p e s m args below meth c A Q ls H locs G hsz hP hD hS hl hret
  subst hsz
  have hl : lv_has ls 10 [(0, .ref (ad a0)), (1, .ref (ad a1)), (2, .int v2), (3, .ref (ad a3)), (4, .int v4)] := hl
  unfold wu_Wr_fieldsAlone at h
  refine lv_iconst (v := 0) G.1 G.2.1 d_Wr_fieldsAlone_0 (by decide) ?_
  refine lv_istore (lv' := [(5, .int 0), (0, .ref (ad a0)), (1, .ref (ad a1)), (2, .int v2), (3, .ref (ad a3)), (4, .int v4)]) G.1 G.2.1 d_Wr_fieldsAlone_1 hl (by decide) rfl (fun ls hl => ?_)
  refine lv_iconst (v := 0) G.1 G.2.1 d_Wr_fieldsAlone_3 (by decide) ?_
  refine lv_istore (lv' := [(6, .int 0), (5, .int 0), (0, .ref (ad a0)), (1, .ref (ad a1)), (2, .int v2), (3, .ref (ad a3)), (4, .int v4)]) G.1 G.2.1 d_Wr_fieldsAlone_4 hl (by decide) rfl (fun ls hl => ?_)
  unfold wl_Wr_fieldsAlone_6 at h
  obtain ⟨I_6, μ_6, hI_6, hB_6⟩ := h
  have L_6 : ∀ (n_6 : Nat) (s_h6 : St) (x2h6 : Int32) (x4h6 : Int32) (x5h6 : Int32) (x6h6 : Int32), μ_6 s_h6 x2h6 x4h6 x5h6 x6h6 < n_6 → I_6 s_h6 x2h6 x4h6 x5h6 x6h6 → ∀ (H : Heap) (locs : List Loc), va_P D CL (ws g ad y s_h6) H → va_D A (ws g ad y s_h6) → va_S A s.heap H locs → ∀ ls, lv_has ls 10 [(1, .ref (ad a1)), (2, .int x2h6), (3, .ref (ad a3)), (4, .int x4h6), (5, .int x5h6), (6, .int x6h6)] → W p l e ru_Wr_fieldsAlone s m args below meth c H locs 0 0 Q (F0 m 6 ls []) := by
    intro n_6
    induction n_6 with
    | zero => intro s_h6 x2h6 x4h6 x5h6 x6h6 hμ; exact absurd hμ (Nat.not_lt_zero _)
    | succ n_6 ih_6 =>
      intro s_h6 x2h6 x4h6 x5h6 x6h6 hμ_6 hJ H locs hP hD hS ls hl
      obtain ⟨K_6, hK_6, h⟩ : ∃ K : St → Int32 → Int32 → Int32 → Int32 → Prop, (∀ z (t0 : Int32) (t1 : Int32) (t2 : Int32) (t3 : Int32), K z t0 t1 t2 t3 → I_6 z t0 t1 t2 t3 ∧ μ_6 z t0 t1 t2 t3 < μ_6 s_h6 x2h6 x4h6 x5h6 x6h6) ∧ wb_Wr_fieldsAlone_6 y Post K a0 a1 a3 s_h6 x2h6 x4h6 x5h6 x6h6 := ⟨_, fun _ _ _ _ _ h => h, hB_6 s_h6 x2h6 x4h6 x5h6 x6h6 hJ⟩
      unfold wb_Wr_fieldsAlone_6 at h
      refine lv_iload G.1 G.2.1 d_Wr_fieldsAlone_6 (lv_at hl 5 rfl) ?_
      refine lv_aload_n G.1 G.2.1 d_Wr_fieldsAlone_8 rfl (lv_at hl 0 rfl) ?_
      refine lv_iload_n G.1 G.2.1 d_Wr_fieldsAlone_9 rfl (lv_at hl 1 rfl) ?_
      refine lv_bipush (v := 9) G.1 G.2.1 d_Wr_fieldsAlone_10 (by decide) ?_
      refine ucVi (As := [.int x2h6, .int 9]) (rest := [.int x6h6]) G hP hD hS (cu_Wd_of l D g ad y _ s_h6 a1 x2h6 9 H.size h_a1 h) w9_Wd_of q2154 ⟨Nat.le_of_ble_eq_true rfl, Nat.le_of_ble_eq_true rfl⟩ rfl rfl h_a1 (q := (RWd, TWd, 17)) rfl rfl hl.1 rfl (Nat.le_of_ble_eq_true rfl) rfl ⟨Nat.le_refl _, Nat.le_refl _⟩ d_Wr_fieldsAlone_12 (fun r_1 s_2 H locs h hP hD hS => ?_)
      refine lv_icmp_ge (tgt := 124) G.1 G.2.1 d_Wr_fieldsAlone_15 (by decide) (fun c15 => ?_) (fun c15 => ?_)
      · skip
        have h := h.1 c15
        refine lv_iload G.1 G.2.1 d_Wr_fieldsAlone_124 (lv_at hl 4 rfl) ?_
        exact hret _ _ _ _ _ _ _ ls h hP hD hS (Nat.le_refl _) (Nat.le_refl _) d_Wr_fieldsAlone_126
      · skip
        have h := h.2 c15
        refine lv_aload_n G.1 G.2.1 d_Wr_fieldsAlone_18 rfl (lv_at hl 2 rfl) ?_
        refine lv_iload G.1 G.2.1 d_Wr_fieldsAlone_19 (lv_at hl 3 rfl) ?_
        refine lv_aload_n G.1 G.2.1 d_Wr_fieldsAlone_21 rfl (lv_at hl 0 rfl) ?_
        refine lv_iload_n G.1 G.2.1 d_Wr_fieldsAlone_22 rfl (lv_at hl 1 rfl) ?_
        refine lv_iload G.1 G.2.1 d_Wr_fieldsAlone_23 (lv_at hl 5 rfl) ?_
        refine W.eq (g2 := F0 m 25 ls [.int x6h6, .int x2h6, .ref (ad a1), .int x4h6, .ref (ad a3)]) rfl ?_
        refine lv_iconst (v := 0) G.1 G.2.1 d_Wr_fieldsAlone_25 (by decide) ?_
        refine ucVi (As := [.int x2h6, .int x6h6, .int 0]) (rest := [.int x4h6, .ref (ad a3)]) G hP hD hS (cu_Wd_field l D g ad y _ s_2 a1 x2h6 x6h6 0 H.size h_a1 h) w9_Wd_field q2186 ⟨Nat.le_of_ble_eq_true rfl, Nat.le_of_ble_eq_true rfl⟩ rfl rfl h_a1 (q := (RWd, TWd, 17)) rfl rfl hl.1 rfl (Nat.le_of_ble_eq_true rfl) rfl ⟨Nat.le_refl _, Nat.le_refl _⟩ d_Wr_fieldsAlone_26 (fun r_3 s_4 H locs h hP hD hS => ?_)
        refine lv_aload_n G.1 G.2.1 d_Wr_fieldsAlone_29 rfl (lv_at hl 0 rfl) ?_
        refine lv_iload_n G.1 G.2.1 d_Wr_fieldsAlone_30 rfl (lv_at hl 1 rfl) ?_
        refine lv_iload G.1 G.2.1 d_Wr_fieldsAlone_31 (lv_at hl 5 rfl) ?_
        refine lv_iconst (v := 1) G.1 G.2.1 d_Wr_fieldsAlone_33 (by decide) ?_
        refine ucVi (As := [.int x2h6, .int x6h6, .int 1]) (rest := [.int r_3, .int x4h6, .ref (ad a3)]) G hP hD hS (cu_Wd_field l D g ad y _ s_4 a1 x2h6 x6h6 1 H.size h_a1 h) w9_Wd_field q2186 ⟨Nat.le_of_ble_eq_true rfl, Nat.le_of_ble_eq_true rfl⟩ rfl rfl h_a1 (q := (RWd, TWd, 17)) rfl rfl hl.1 rfl (Nat.le_of_ble_eq_true rfl) rfl ⟨Nat.le_refl _, Nat.le_refl _⟩ d_Wr_fieldsAlone_34 (fun r_5 s_6 H locs h hP hD hS => ?_)
        refine ucVi (As := [.int x4h6, .int r_3, .int r_5]) (rest := []) G hP hD hS (cu_Wd_fieldWith l D g ad y _ s_6 a3 x4h6 r_3 r_5 H.size h_a3 h) w9_Wd_fieldWith q2399 ⟨Nat.le_of_ble_eq_true rfl, Nat.le_of_ble_eq_true rfl⟩ rfl rfl h_a3 (q := (RWd, TWd, 17)) rfl rfl hl.1 rfl (Nat.le_of_ble_eq_true rfl) rfl ⟨Nat.le_refl _, Nat.le_refl _⟩ d_Wr_fieldsAlone_37 (fun r_7 s_8 H locs h hP hD hS => ?_)
        refine lv_istore (lv' := [(7, .int r_7), (1, .ref (ad a1)), (2, .int x2h6), (3, .ref (ad a3)), (4, .int x4h6), (5, .int x5h6), (6, .int x6h6)]) G.1 G.2.1 d_Wr_fieldsAlone_40 hl (by decide) rfl (fun ls hl => ?_)
        refine lv_iload G.1 G.2.1 d_Wr_fieldsAlone_42 (lv_at hl 0 rfl) ?_
        have J_52 : ∀ (s_j52 : St) (x2j52 : Int32) (x4j52 : Int32) (x5j52 : Int32) (x6j52 : Int32) (x7j52 : Int32) (z0j52 : Int32) (H : Heap) (locs : List Loc), wj_Wr_fieldsAlone_52 y Post K_6 a0 a1 a3 s_j52 x2j52 x4j52 x5j52 x6j52 x7j52 z0j52 → va_P D CL (ws g ad y s_j52) H → va_D A (ws g ad y s_j52) → va_S A s.heap H locs → ∀ ls, lv_has ls 10 [(1, .ref (ad a1)), (2, .int x2j52), (3, .ref (ad a3)), (4, .int x4j52), (5, .int x5j52), (6, .int x6j52), (7, .int x7j52)] → W p l e ru_Wr_fieldsAlone s m args below meth c H locs 0 0 Q (F0 m 52 ls [.int z0j52]) := by
          intro s_j52 x2j52 x4j52 x5j52 x6j52 x7j52 z0j52 H locs h hP hD hS ls hl
          unfold wj_Wr_fieldsAlone_52 at h
          refine lv_istore (lv' := [(8, .int z0j52), (1, .ref (ad a1)), (2, .int x2j52), (3, .ref (ad a3)), (4, .int x4j52), (5, .int x5j52), (6, .int x6j52), (7, .int x7j52)]) G.1 G.2.1 d_Wr_fieldsAlone_52 hl (by decide) rfl (fun ls hl => ?_)
          refine lv_iconst (v := 2) G.1 G.2.1 d_Wr_fieldsAlone_54 (by decide) ?_
          refine lv_istore (lv' := [(9, .int 2), (8, .int z0j52), (1, .ref (ad a1)), (2, .int x2j52), (3, .ref (ad a3)), (4, .int x4j52), (5, .int x5j52), (6, .int x6j52), (7, .int x7j52)]) G.1 G.2.1 d_Wr_fieldsAlone_55 hl (by decide) rfl (fun ls hl => ?_)
          unfold wl_Wr_fieldsAlone_57 at h
          obtain ⟨I_57, μ_57, hI_57, hB_57⟩ := h
          have L_57 : ∀ (n_57 : Nat) (s_h57 : St) (x2h57 : Int32) (x4h57 : Int32) (x5h57 : Int32) (x6h57 : Int32) (x7h57 : Int32) (x8h57 : Int32) (x9h57 : Int32), μ_57 s_h57 x2h57 x4h57 x5h57 x6h57 x7h57 x8h57 x9h57 < n_57 → I_57 s_h57 x2h57 x4h57 x5h57 x6h57 x7h57 x8h57 x9h57 → ∀ (H : Heap) (locs : List Loc), va_P D CL (ws g ad y s_h57) H → va_D A (ws g ad y s_h57) → va_S A s.heap H locs → ∀ ls, lv_has ls 10 [(1, .ref (ad a1)), (2, .int x2h57), (3, .ref (ad a3)), (4, .int x4h57), (5, .int x5h57), (6, .int x6h57), (7, .int x7h57), (8, .int x8h57), (9, .int x9h57)] → W p l e ru_Wr_fieldsAlone s m args below meth c H locs 0 0 Q (F0 m 57 ls []) := by
            intro n_57
            induction n_57 with
            | zero => intro s_h57 x2h57 x4h57 x5h57 x6h57 x7h57 x8h57 x9h57 hμ; exact absurd hμ (Nat.not_lt_zero _)
            | succ n_57 ih_57 =>
              intro s_h57 x2h57 x4h57 x5h57 x6h57 x7h57 x8h57 x9h57 hμ_57 hJ H locs hP hD hS ls hl
              obtain ⟨K_57, hK_57, h⟩ : ∃ K : St → Int32 → Int32 → Int32 → Int32 → Int32 → Int32 → Int32 → Prop, (∀ z (t0 : Int32) (t1 : Int32) (t2 : Int32) (t3 : Int32) (t4 : Int32) (t5 : Int32) (t6 : Int32), K z t0 t1 t2 t3 t4 t5 t6 → I_57 z t0 t1 t2 t3 t4 t5 t6 ∧ μ_57 z t0 t1 t2 t3 t4 t5 t6 < μ_57 s_h57 x2h57 x4h57 x5h57 x6h57 x7h57 x8h57 x9h57) ∧ wb_Wr_fieldsAlone_57 y Post K_6 K a0 a1 a3 s_h57 x2h57 x4h57 x5h57 x6h57 x7h57 x8h57 x9h57 := ⟨_, fun _ _ _ _ _ _ _ _ h => h, hB_57 s_h57 x2h57 x4h57 x5h57 x6h57 x7h57 x8h57 x9h57 hJ⟩
              unfold wb_Wr_fieldsAlone_57 at h
              refine lv_iload G.1 G.2.1 d_Wr_fieldsAlone_57 (lv_at hl 8 rfl) ?_
              refine lv_iconst (v := 4) G.1 G.2.1 d_Wr_fieldsAlone_59 (by decide) ?_
              have J_103 : ∀ (s_j103 : St) (x2j103 : Int32) (x4j103 : Int32) (x5j103 : Int32) (x6j103 : Int32) (x8j103 : Int32) (H : Heap) (locs : List Loc), wj_Wr_fieldsAlone_103 y Post K_6 a0 a1 a3 s_j103 x2j103 x4j103 x5j103 x6j103 x8j103 → va_P D CL (ws g ad y s_j103) H → va_D A (ws g ad y s_j103) → va_S A s.heap H locs → ∀ ls, lv_has ls 10 [(1, .ref (ad a1)), (2, .int x2j103), (3, .ref (ad a3)), (4, .int x4j103), (5, .int x5j103), (6, .int x6j103), (8, .int x8j103)] → W p l e ru_Wr_fieldsAlone s m args below meth c H locs 0 0 Q (F0 m 103 ls []) := by
                intro s_j103 x2j103 x4j103 x5j103 x6j103 x8j103 H locs h hP hD hS ls hl
                unfold wj_Wr_fieldsAlone_103 at h
                refine lv_iload G.1 G.2.1 d_Wr_fieldsAlone_103 (lv_at hl 4 rfl) ?_
                refine lv_iload G.1 G.2.1 d_Wr_fieldsAlone_105 (lv_at hl 6 rfl) ?_
                have J_115 : ∀ (s_j115 : St) (x2j115 : Int32) (x4j115 : Int32) (x6j115 : Int32) (z0j115 : Int32) (z1j115 : Int32) (H : Heap) (locs : List Loc), wj_Wr_fieldsAlone_115 y Post K_6 a0 a1 a3 s_j115 x2j115 x4j115 x6j115 z0j115 z1j115 → va_P D CL (ws g ad y s_j115) H → va_D A (ws g ad y s_j115) → va_S A s.heap H locs → ∀ ls, lv_has ls 10 [(1, .ref (ad a1)), (2, .int x2j115), (3, .ref (ad a3)), (4, .int x4j115), (6, .int x6j115)] → W p l e ru_Wr_fieldsAlone s m args below meth c H locs 0 0 Q (F0 m 115 ls [.int z1j115, .int z0j115]) := by
                  intro s_j115 x2j115 x4j115 x6j115 z0j115 z1j115 H locs h hP hD hS ls hl
                  unfold wj_Wr_fieldsAlone_115 at h
                  refine lv_iadd G.1 G.2.1 d_Wr_fieldsAlone_115 ?_
                  refine lv_istore (lv' := [(5, .int (z0j115 + z1j115)), (1, .ref (ad a1)), (2, .int x2j115), (3, .ref (ad a3)), (4, .int x4j115), (6, .int x6j115)]) G.1 G.2.1 d_Wr_fieldsAlone_116 hl (by decide) rfl (fun ls hl => ?_)
                  refine lv_iinc (v := x6j115 + 1) (lv' := [(6, .int (x6j115 + 1)), (5, .int (z0j115 + z1j115)), (1, .ref (ad a1)), (2, .int x2j115), (3, .ref (ad a3)), (4, .int x4j115)]) G.1 G.2.1 d_Wr_fieldsAlone_118 hl (k := 5) rfl rfl (by decide) rfl (fun ls hl => ?_)
                  refine lv_goto (tgt := 6) G.1 G.2.1 d_Wr_fieldsAlone_121 (by decide) ?_
                  have h := hK_6 s_j115 x2j115 x4j115 (z0j115 + z1j115) (x6j115 + 1) h
                  exact ih_6 s_j115 x2j115 x4j115 (z0j115 + z1j115) (x6j115 + 1) (Nat.lt_of_lt_of_le h.2 (Nat.le_of_lt_succ hμ_6)) h.1 H locs hP hD hS ls (lv_sub hl [2, 3, 4, 5, 1, 0] rfl)
                refine lv_if_eq (tgt := 114) G.1 G.2.1 d_Wr_fieldsAlone_107 (by decide) (fun c107 => ?_) (fun c107 => ?_)
                · skip
                  have h := h.1 c107
                  refine lv_iconst (v := 1) G.1 G.2.1 d_Wr_fieldsAlone_114 (by decide) ?_
                  exact J_115 s_j103 x2j103 x4j103 x6j103 x5j103 1 H locs h hP hD hS ls (lv_sub hl [0, 1, 2, 3, 5] rfl)
                · skip
                  have h := h.2 c107
                  refine lv_iconst (v := 0) G.1 G.2.1 d_Wr_fieldsAlone_110 (by decide) ?_
                  refine lv_goto (tgt := 115) G.1 G.2.1 d_Wr_fieldsAlone_111 (by decide) ?_
                  exact J_115 s_j103 x2j103 x4j103 x6j103 x5j103 0 H locs h hP hD hS ls (lv_sub hl [0, 1, 2, 3, 5] rfl)
              refine lv_icmp_gt (tgt := 103) G.1 G.2.1 d_Wr_fieldsAlone_60 (by decide) (fun c60 => ?_) (fun c60 => ?_)
              · skip
                have h := h.1 c60
                exact J_103 s_h57 x2h57 x4h57 x5h57 x6h57 x8h57 H locs h hP hD hS ls (lv_sub hl [0, 1, 2, 3, 4, 5, 7] rfl)
              · skip
                have h := h.2 c60
                refine lv_iload G.1 G.2.1 d_Wr_fieldsAlone_63 (lv_at hl 7 rfl) ?_
                refine lv_if_eq (tgt := 103) G.1 G.2.1 d_Wr_fieldsAlone_65 (by decide) (fun c65 => ?_) (fun c65 => ?_)
                · skip
                  have h := h.1 c65
                  exact J_103 s_h57 x2h57 x4h57 x5h57 x6h57 x8h57 H locs h hP hD hS ls (lv_sub hl [0, 1, 2, 3, 4, 5, 7] rfl)
                · skip
                  have h := h.2 c65
                  refine lv_aload_n G.1 G.2.1 d_Wr_fieldsAlone_68 rfl (lv_at hl 0 rfl) ?_
                  refine lv_iload_n G.1 G.2.1 d_Wr_fieldsAlone_69 rfl (lv_at hl 1 rfl) ?_
                  refine lv_iload G.1 G.2.1 d_Wr_fieldsAlone_70 (lv_at hl 5 rfl) ?_
                  refine lv_iload G.1 G.2.1 d_Wr_fieldsAlone_72 (lv_at hl 8 rfl) ?_
                  refine ucVi (As := [.int x2h57, .int x6h57, .int x9h57]) (rest := []) G hP hD hS (cu_Wd_field l D g ad y _ s_h57 a1 x2h57 x6h57 x9h57 H.size h_a1 h) w9_Wd_field q2186 ⟨Nat.le_of_ble_eq_true rfl, Nat.le_of_ble_eq_true rfl⟩ rfl rfl h_a1 (q := (RWd, TWd, 17)) rfl rfl hl.1 rfl (Nat.le_of_ble_eq_true rfl) rfl ⟨Nat.le_refl _, Nat.le_refl _⟩ d_Wr_fieldsAlone_74 (fun r_9 s_10 H locs h hP hD hS => ?_)
                  refine lv_aload_n G.1 G.2.1 d_Wr_fieldsAlone_77 rfl (lv_at hl 2 rfl) ?_
                  refine W.eq (g2 := F0 m 78 ls [.ref (ad a3), .int r_9]) rfl ?_
                  refine lv_iload G.1 G.2.1 d_Wr_fieldsAlone_78 (lv_at hl 3 rfl) ?_
                  refine lv_iload G.1 G.2.1 d_Wr_fieldsAlone_80 (lv_at hl 6 rfl) ?_
                  refine lv_iload G.1 G.2.1 d_Wr_fieldsAlone_82 (lv_at hl 8 rfl) ?_
                  refine ucVi (As := [.int x4h57, .int x7h57, .int x9h57]) (rest := [.int r_9]) G hP hD hS (cu_Wd_field l D g ad y _ s_10 a3 x4h57 x7h57 x9h57 H.size h_a3 h) w9_Wd_field q2186 ⟨Nat.le_of_ble_eq_true rfl, Nat.le_of_ble_eq_true rfl⟩ rfl rfl h_a3 (q := (RWd, TWd, 17)) rfl rfl hl.1 rfl (Nat.le_of_ble_eq_true rfl) rfl ⟨Nat.le_refl _, Nat.le_refl _⟩ d_Wr_fieldsAlone_84 (fun r_11 s_12 H locs h hP hD hS => ?_)
                  have J_95 : ∀ (s_j95 : St) (x2j95 : Int32) (x4j95 : Int32) (x5j95 : Int32) (x6j95 : Int32) (x7j95 : Int32) (x9j95 : Int32) (z0j95 : Int32) (H : Heap) (locs : List Loc), wj_Wr_fieldsAlone_95 y Post K_6 K_57 a0 a1 a3 s_j95 x2j95 x4j95 x5j95 x6j95 x7j95 x9j95 z0j95 → va_P D CL (ws g ad y s_j95) H → va_D A (ws g ad y s_j95) → va_S A s.heap H locs → ∀ ls, lv_has ls 10 [(1, .ref (ad a1)), (2, .int x2j95), (3, .ref (ad a3)), (4, .int x4j95), (5, .int x5j95), (6, .int x6j95), (7, .int x7j95), (9, .int x9j95)] → W p l e ru_Wr_fieldsAlone s m args below meth c H locs 0 0 Q (F0 m 95 ls [.int z0j95]) := by
                    intro s_j95 x2j95 x4j95 x5j95 x6j95 x7j95 x9j95 z0j95 H locs h hP hD hS ls hl
                    unfold wj_Wr_fieldsAlone_95 at h
                    refine lv_istore (lv' := [(8, .int z0j95), (1, .ref (ad a1)), (2, .int x2j95), (3, .ref (ad a3)), (4, .int x4j95), (5, .int x5j95), (6, .int x6j95), (7, .int x7j95), (9, .int x9j95)]) G.1 G.2.1 d_Wr_fieldsAlone_95 hl (by decide) rfl (fun ls hl => ?_)
                    refine lv_iinc (v := x9j95 + 1) (lv' := [(9, .int (x9j95 + 1)), (8, .int z0j95), (1, .ref (ad a1)), (2, .int x2j95), (3, .ref (ad a3)), (4, .int x4j95), (5, .int x5j95), (6, .int x6j95), (7, .int x7j95)]) G.1 G.2.1 d_Wr_fieldsAlone_97 hl (k := 8) rfl rfl (by decide) rfl (fun ls hl => ?_)
                    refine lv_goto (tgt := 57) G.1 G.2.1 d_Wr_fieldsAlone_100 (by decide) ?_
                    have h := hK_57 s_j95 x2j95 x4j95 x5j95 x6j95 x7j95 z0j95 (x9j95 + 1) h
                    exact ih_57 s_j95 x2j95 x4j95 x5j95 x6j95 x7j95 z0j95 (x9j95 + 1) (Nat.lt_of_lt_of_le h.2 (Nat.le_of_lt_succ hμ_57)) h.1 H locs hP hD hS ls (lv_sub hl [2, 3, 4, 5, 6, 7, 8, 1, 0] rfl)
                  refine lv_icmp_ne (tgt := 94) G.1 G.2.1 d_Wr_fieldsAlone_87 (by decide) (fun c87 => ?_) (fun c87 => ?_)
                  · skip
                    have h := h.1 c87
                    refine lv_iconst (v := 0) G.1 G.2.1 d_Wr_fieldsAlone_94 (by decide) ?_
                    exact J_95 s_12 x2h57 x4h57 x5h57 x6h57 x7h57 x9h57 0 H locs h hP hD hS ls (lv_sub hl [0, 1, 2, 3, 4, 5, 6, 8] rfl)
                  · skip
                    have h := h.2 c87
                    refine lv_iconst (v := 1) G.1 G.2.1 d_Wr_fieldsAlone_90 (by decide) ?_
                    refine lv_goto (tgt := 95) G.1 G.2.1 d_Wr_fieldsAlone_91 (by decide) ?_
                    exact J_95 s_12 x2h57 x4h57 x5h57 x6h57 x7h57 x9h57 1 H locs h hP hD hS ls (lv_sub hl [0, 1, 2, 3, 4, 5, 6, 8] rfl)
          exact L_57 _ s_j52 x2j52 x4j52 x5j52 x6j52 x7j52 z0j52 2 (Nat.lt_succ_self _) hI_57 H locs hP hD hS ls (lv_sub hl [2, 3, 4, 5, 6, 7, 8, 1, 0] rfl)
        refine lv_if_lt (tgt := 51) G.1 G.2.1 d_Wr_fieldsAlone_44 (by decide) (fun c44 => ?_) (fun c44 => ?_)
        · skip
          have h := h.1 c44
          refine lv_iconst (v := 0) G.1 G.2.1 d_Wr_fieldsAlone_51 (by decide) ?_
          exact J_52 s_8 x2h6 x4h6 x5h6 x6h6 r_7 0 H locs h hP hD hS ls (lv_sub hl [1, 2, 3, 4, 5, 6, 0] rfl)
        · skip
          have h := h.2 c44
          refine lv_iconst (v := 1) G.1 G.2.1 d_Wr_fieldsAlone_47 (by decide) ?_
          refine W.eq (g2 := F0 m 48 ls [.int 1]) rfl ?_
          refine lv_goto (tgt := 52) G.1 G.2.1 d_Wr_fieldsAlone_48 (by decide) ?_
          exact J_52 s_8 x2h6 x4h6 x5h6 x6h6 r_7 1 H locs h hP hD hS ls (lv_sub hl [1, 2, 3, 4, 5, 6, 0] rfl)
  exact L_6 _ σ v2 v4 0 0 (Nat.lt_succ_self _) hI_6 H locs hP hD hS ls (lv_sub hl [3, 4, 5, 6, 1, 0] rfl)
def y_Wr_methodsAlone : MethodName := ⟨"ClassWorks$Writer", "methodsAlone", "(LClassWorks$World;ILClassWorks$World;I)I"⟩
abbrev b_Wr_methodsAlone : ByteArray := prog_12_method_27_code
theorem q2404 : Cond.methodLink "ClassWorks$Writer" 197 y_Wd_methodWith ∈ lw_ok := lw_okmem (List.mem_of_getElem? (i := 2404) (by decide +kernel)) rfl
theorem d_Wr_methodsAlone_0 : decode b_Wr_methodsAlone 0 = .ok (.iconst 0, 1) := by decide +kernel
theorem d_Wr_methodsAlone_1 : decode b_Wr_methodsAlone 1 = .ok (.istore 5, 2) := by decide +kernel
theorem d_Wr_methodsAlone_3 : decode b_Wr_methodsAlone 3 = .ok (.iconst 0, 1) := by decide +kernel
theorem d_Wr_methodsAlone_4 : decode b_Wr_methodsAlone 4 = .ok (.istore 6, 2) := by decide +kernel
theorem d_Wr_methodsAlone_6 : decode b_Wr_methodsAlone 6 = .ok (.iload 6, 2) := by decide +kernel
theorem d_Wr_methodsAlone_8 : decode b_Wr_methodsAlone 8 = .ok (.aload_n 1, 1) := by decide +kernel
theorem d_Wr_methodsAlone_9 : decode b_Wr_methodsAlone 9 = .ok (.iload_n 2, 1) := by decide +kernel
theorem d_Wr_methodsAlone_10 : decode b_Wr_methodsAlone 10 = .ok (.bipush 11, 2) := by decide +kernel
theorem d_Wr_methodsAlone_12 : decode b_Wr_methodsAlone 12 = .ok (.invokevirtual 49, 3) := by decide +kernel
theorem d_Wr_methodsAlone_15 : decode b_Wr_methodsAlone 15 = .ok (.if_icmp .ge 36, 3) := by decide +kernel
theorem d_Wr_methodsAlone_18 : decode b_Wr_methodsAlone 18 = .ok (.iload 5, 2) := by decide +kernel
theorem d_Wr_methodsAlone_20 : decode b_Wr_methodsAlone 20 = .ok (.aload_n 3, 1) := by decide +kernel
theorem d_Wr_methodsAlone_21 : decode b_Wr_methodsAlone 21 = .ok (.iload 4, 2) := by decide +kernel
theorem d_Wr_methodsAlone_23 : decode b_Wr_methodsAlone 23 = .ok (.aload_n 1, 1) := by decide +kernel
theorem d_Wr_methodsAlone_24 : decode b_Wr_methodsAlone 24 = .ok (.iload_n 2, 1) := by decide +kernel
theorem d_Wr_methodsAlone_25 : decode b_Wr_methodsAlone 25 = .ok (.iload 6, 2) := by decide +kernel
theorem d_Wr_methodsAlone_27 : decode b_Wr_methodsAlone 27 = .ok (.iconst 0, 1) := by decide +kernel
theorem d_Wr_methodsAlone_28 : decode b_Wr_methodsAlone 28 = .ok (.invokevirtual 109, 3) := by decide +kernel
theorem d_Wr_methodsAlone_31 : decode b_Wr_methodsAlone 31 = .ok (.invokevirtual 197, 3) := by decide +kernel
theorem d_Wr_methodsAlone_34 : decode b_Wr_methodsAlone 34 = .ok (.ifCond .ge 7, 3) := by decide +kernel
theorem d_Wr_methodsAlone_37 : decode b_Wr_methodsAlone 37 = .ok (.iconst 1, 1) := by decide +kernel
theorem d_Wr_methodsAlone_38 : decode b_Wr_methodsAlone 38 = .ok (.goto 4, 3) := by decide +kernel
theorem d_Wr_methodsAlone_41 : decode b_Wr_methodsAlone 41 = .ok (.iconst 0, 1) := by decide +kernel
theorem d_Wr_methodsAlone_42 : decode b_Wr_methodsAlone 42 = .ok (.iadd, 1) := by decide +kernel
theorem d_Wr_methodsAlone_43 : decode b_Wr_methodsAlone 43 = .ok (.istore 5, 2) := by decide +kernel
theorem d_Wr_methodsAlone_45 : decode b_Wr_methodsAlone 45 = .ok (.iinc 6 1, 3) := by decide +kernel
theorem d_Wr_methodsAlone_48 : decode b_Wr_methodsAlone 48 = .ok (.goto (-42), 3) := by decide +kernel
theorem d_Wr_methodsAlone_51 : decode b_Wr_methodsAlone 51 = .ok (.iload 5, 2) := by decide +kernel
theorem d_Wr_methodsAlone_53 : decode b_Wr_methodsAlone 53 = .ok (.ireturn, 1) := by decide +kernel
abbrev ru_Wr_methodsAlone : Room := { frames := 1, cells := 0, slots := 0, locals := 25 }
def wj_Wr_methodsAlone_42 (y : Ly) (Post : St → Int32 → Prop) (K_6 : St → Int32 → Int32 → Int32 → Int32 → Prop) (a0 : Nat) (a1 : Nat) (a3 : Nat) (s_j42 : St) (x2j42 : Int32) (x4j42 : Int32) (x6j42 : Int32) (z0j42 : Int32) (z1j42 : Int32) : Prop := K_6 s_j42 x2j42 x4j42 (z0j42 + z1j42) (x6j42 + 1)
def wb_Wr_methodsAlone_6 (y : Ly) (Post : St → Int32 → Prop) (K_6 : St → Int32 → Int32 → Int32 → Int32 → Prop) (a0 : Nat) (a1 : Nat) (a3 : Nat) (s_h6 : St) (x2h6 : Int32) (x4h6 : Int32) (x5h6 : Int32) (x6h6 : Int32) : Prop := wu_Wd_of y (fun (s_2 : St) (r_1 : Int32) => ((r_1 ≤ x6h6 → Post s_2 x5h6) ∧ (¬ (r_1 ≤ x6h6) → wu_Wd_method y (fun (s_4 : St) (r_3 : Int32) => wu_Wd_methodWith y (fun (s_6 : St) (r_5 : Int32) => ((0 ≤ r_5 → wj_Wr_methodsAlone_42 y Post K_6 a0 a1 a3 s_6 x2h6 x4h6 x6h6 x5h6 0) ∧ (¬ (0 ≤ r_5) → wj_Wr_methodsAlone_42 y Post K_6 a0 a1 a3 s_6 x2h6 x4h6 x6h6 x5h6 1))) s_4 a3 x4h6 r_3) s_2 a1 x2h6 x6h6 0))) s_h6 a1 x2h6 11
def wl_Wr_methodsAlone_6 (y : Ly) (Post : St → Int32 → Prop) (a0 : Nat) (a1 : Nat) (a3 : Nat) (s_h6 : St) (x2h6 : Int32) (x4h6 : Int32) (x5h6 : Int32) (x6h6 : Int32) : Prop := ∃ (I : St → Int32 → Int32 → Int32 → Int32 → Prop) (μ : St → Int32 → Int32 → Int32 → Int32 → Nat), I s_h6 x2h6 x4h6 x5h6 x6h6 ∧ ∀ (u : St) (t0 : Int32) (t1 : Int32) (t2 : Int32) (t3 : Int32), I u t0 t1 t2 t3 → wb_Wr_methodsAlone_6 y Post (fun z t0q t1q t2q t3q => I z t0q t1q t2q t3q ∧ μ z t0q t1q t2q t3q < μ u t0 t1 t2 t3) a0 a1 a3 u t0 t1 t2 t3
def wu_Wr_methodsAlone (y : Ly) (Post : St → Int32 → Prop) (σ : St) (a0 : Nat) (a1 : Nat) (v2 : Int32) (a3 : Nat) (v4 : Int32) : Prop := wl_Wr_methodsAlone_6 y Post a0 a1 a3 σ v2 v4 0 0
set_option maxHeartbeats 4000000 in
set_option maxRecDepth 100000 in
theorem cu_Wr_methodsAlone (l : Launch) (D : va_G) (g : Nat → ClassId) (ad : Nat → Nat) (y : Ly) (Post : St → Int32 → Prop) (σ : St) (a0 : Nat) (a1 : Nat) (v2 : Int32) (a3 : Nat) (v4 : Int32) (sz : Nat) (h_a0 : cl a0 = 10) (h_a1 : cl a1 = 9) (h_a3 : cl a3 = 9) (h : wu_Wr_methodsAlone y Post σ a0 a1 v2 a3 v4) : Met l y_Wr_methodsAlone (mw y_Wr_methodsAlone b_Wr_methodsAlone 7 (some .int)) ru_Wr_methodsAlone (PC g D [] [.ref (ad a0), .ref (ad a1), .int v2, .ref (ad a3), .int v4] sz (ws g ad y σ)) (va_Qi (fun (r : Int32) (u : St) => Post u r) (QW D (va_A (ws g ad y σ) sz) (fun u => ws g ad y u)) (va_A (ws g ad y σ) sz)) 0 0 (va_A (ws g ad y σ) sz) := by
  refine ofI (by decide +kernel) (Nat.le_of_ble_eq_true rfl) ?_
  intro p e s m args below meth c A Q ls H locs G hsz hP hD hS hl hret
  subst hsz
  have hl : lv_has ls 7 [(0, .ref (ad a0)), (1, .ref (ad a1)), (2, .int v2), (3, .ref (ad a3)), (4, .int v4)] := hl
  unfold wu_Wr_methodsAlone at h
  refine lv_iconst (v := 0) G.1 G.2.1 d_Wr_methodsAlone_0 (by decide) ?_
  refine lv_istore (lv' := [(5, .int 0), (0, .ref (ad a0)), (1, .ref (ad a1)), (2, .int v2), (3, .ref (ad a3)), (4, .int v4)]) G.1 G.2.1 d_Wr_methodsAlone_1 hl (by decide) rfl (fun ls hl => ?_)
  refine lv_iconst (v := 0) G.1 G.2.1 d_Wr_methodsAlone_3 (by decide) ?_
  refine lv_istore (lv' := [(6, .int 0), (5, .int 0), (0, .ref (ad a0)), (1, .ref (ad a1)), (2, .int v2), (3, .ref (ad a3)), (4, .int v4)]) G.1 G.2.1 d_Wr_methodsAlone_4 hl (by decide) rfl (fun ls hl => ?_)
  unfold wl_Wr_methodsAlone_6 at h
  obtain ⟨I_6, μ_6, hI_6, hB_6⟩ := h
  have L_6 : ∀ (n_6 : Nat) (s_h6 : St) (x2h6 : Int32) (x4h6 : Int32) (x5h6 : Int32) (x6h6 : Int32), μ_6 s_h6 x2h6 x4h6 x5h6 x6h6 < n_6 → I_6 s_h6 x2h6 x4h6 x5h6 x6h6 → ∀ (H : Heap) (locs : List Loc), va_P D CL (ws g ad y s_h6) H → va_D A (ws g ad y s_h6) → va_S A s.heap H locs → ∀ ls, lv_has ls 7 [(1, .ref (ad a1)), (2, .int x2h6), (3, .ref (ad a3)), (4, .int x4h6), (5, .int x5h6), (6, .int x6h6)] → W p l e ru_Wr_methodsAlone s m args below meth c H locs 0 0 Q (F0 m 6 ls []) := by
    intro n_6
    induction n_6 with
    | zero => intro s_h6 x2h6 x4h6 x5h6 x6h6 hμ; exact absurd hμ (Nat.not_lt_zero _)
    | succ n_6 ih_6 =>
      intro s_h6 x2h6 x4h6 x5h6 x6h6 hμ_6 hJ H locs hP hD hS ls hl
      obtain ⟨K_6, hK_6, h⟩ : ∃ K : St → Int32 → Int32 → Int32 → Int32 → Prop, (∀ z (t0 : Int32) (t1 : Int32) (t2 : Int32) (t3 : Int32), K z t0 t1 t2 t3 → I_6 z t0 t1 t2 t3 ∧ μ_6 z t0 t1 t2 t3 < μ_6 s_h6 x2h6 x4h6 x5h6 x6h6) ∧ wb_Wr_methodsAlone_6 y Post K a0 a1 a3 s_h6 x2h6 x4h6 x5h6 x6h6 := ⟨_, fun _ _ _ _ _ h => h, hB_6 s_h6 x2h6 x4h6 x5h6 x6h6 hJ⟩
      unfold wb_Wr_methodsAlone_6 at h
      refine lv_iload G.1 G.2.1 d_Wr_methodsAlone_6 (lv_at hl 5 rfl) ?_
      refine lv_aload_n G.1 G.2.1 d_Wr_methodsAlone_8 rfl (lv_at hl 0 rfl) ?_
      refine lv_iload_n G.1 G.2.1 d_Wr_methodsAlone_9 rfl (lv_at hl 1 rfl) ?_
      refine lv_bipush (v := 11) G.1 G.2.1 d_Wr_methodsAlone_10 (by decide) ?_
      refine ucVi (As := [.int x2h6, .int 11]) (rest := [.int x6h6]) G hP hD hS (cu_Wd_of l D g ad y _ s_h6 a1 x2h6 11 H.size h_a1 h) w9_Wd_of q2154 ⟨Nat.le_of_ble_eq_true rfl, Nat.le_of_ble_eq_true rfl⟩ rfl rfl h_a1 (q := (RWd, TWd, 17)) rfl rfl hl.1 rfl (Nat.le_of_ble_eq_true rfl) rfl ⟨Nat.le_refl _, Nat.le_refl _⟩ d_Wr_methodsAlone_12 (fun r_1 s_2 H locs h hP hD hS => ?_)
      refine lv_icmp_ge (tgt := 51) G.1 G.2.1 d_Wr_methodsAlone_15 (by decide) (fun c15 => ?_) (fun c15 => ?_)
      · skip
        have h := h.1 c15
        refine lv_iload G.1 G.2.1 d_Wr_methodsAlone_51 (lv_at hl 4 rfl) ?_
        exact hret _ _ _ _ _ _ _ ls h hP hD hS (Nat.le_refl _) (Nat.le_refl _) d_Wr_methodsAlone_53
      · skip
        have h := h.2 c15
        refine lv_iload G.1 G.2.1 d_Wr_methodsAlone_18 (lv_at hl 4 rfl) ?_
        refine lv_aload_n G.1 G.2.1 d_Wr_methodsAlone_20 rfl (lv_at hl 2 rfl) ?_
        refine lv_iload G.1 G.2.1 d_Wr_methodsAlone_21 (lv_at hl 3 rfl) ?_
        refine lv_aload_n G.1 G.2.1 d_Wr_methodsAlone_23 rfl (lv_at hl 0 rfl) ?_
        refine lv_iload_n G.1 G.2.1 d_Wr_methodsAlone_24 rfl (lv_at hl 1 rfl) ?_
        refine W.eq (g2 := F0 m 25 ls [.int x2h6, .ref (ad a1), .int x4h6, .ref (ad a3), .int x5h6]) rfl ?_
        refine lv_iload G.1 G.2.1 d_Wr_methodsAlone_25 (lv_at hl 5 rfl) ?_
        refine lv_iconst (v := 0) G.1 G.2.1 d_Wr_methodsAlone_27 (by decide) ?_
        refine ucVi (As := [.int x2h6, .int x6h6, .int 0]) (rest := [.int x4h6, .ref (ad a3), .int x5h6]) G hP hD hS (cu_Wd_method l D g ad y _ s_2 a1 x2h6 x6h6 0 H.size h_a1 h) w9_Wd_method q2202 ⟨Nat.le_of_ble_eq_true rfl, Nat.le_of_ble_eq_true rfl⟩ rfl rfl h_a1 (q := (RWd, TWd, 17)) rfl rfl hl.1 rfl (Nat.le_of_ble_eq_true rfl) rfl ⟨Nat.le_refl _, Nat.le_refl _⟩ d_Wr_methodsAlone_28 (fun r_3 s_4 H locs h hP hD hS => ?_)
        refine ucVi (As := [.int x4h6, .int r_3]) (rest := [.int x5h6]) G hP hD hS (cu_Wd_methodWith l D g ad y _ s_4 a3 x4h6 r_3 H.size h_a3 h) w9_Wd_methodWith q2404 ⟨Nat.le_of_ble_eq_true rfl, Nat.le_of_ble_eq_true rfl⟩ rfl rfl h_a3 (q := (RWd, TWd, 17)) rfl rfl hl.1 rfl (Nat.le_of_ble_eq_true rfl) rfl ⟨Nat.le_refl _, Nat.le_refl _⟩ d_Wr_methodsAlone_31 (fun r_5 s_6 H locs h hP hD hS => ?_)
        have J_42 : ∀ (s_j42 : St) (x2j42 : Int32) (x4j42 : Int32) (x6j42 : Int32) (z0j42 : Int32) (z1j42 : Int32) (H : Heap) (locs : List Loc), wj_Wr_methodsAlone_42 y Post K_6 a0 a1 a3 s_j42 x2j42 x4j42 x6j42 z0j42 z1j42 → va_P D CL (ws g ad y s_j42) H → va_D A (ws g ad y s_j42) → va_S A s.heap H locs → ∀ ls, lv_has ls 7 [(1, .ref (ad a1)), (2, .int x2j42), (3, .ref (ad a3)), (4, .int x4j42), (6, .int x6j42)] → W p l e ru_Wr_methodsAlone s m args below meth c H locs 0 0 Q (F0 m 42 ls [.int z1j42, .int z0j42]) := by
          intro s_j42 x2j42 x4j42 x6j42 z0j42 z1j42 H locs h hP hD hS ls hl
          unfold wj_Wr_methodsAlone_42 at h
          refine lv_iadd G.1 G.2.1 d_Wr_methodsAlone_42 ?_
          refine lv_istore (lv' := [(5, .int (z0j42 + z1j42)), (1, .ref (ad a1)), (2, .int x2j42), (3, .ref (ad a3)), (4, .int x4j42), (6, .int x6j42)]) G.1 G.2.1 d_Wr_methodsAlone_43 hl (by decide) rfl (fun ls hl => ?_)
          refine lv_iinc (v := x6j42 + 1) (lv' := [(6, .int (x6j42 + 1)), (5, .int (z0j42 + z1j42)), (1, .ref (ad a1)), (2, .int x2j42), (3, .ref (ad a3)), (4, .int x4j42)]) G.1 G.2.1 d_Wr_methodsAlone_45 hl (k := 5) rfl rfl (by decide) rfl (fun ls hl => ?_)
          refine lv_goto (tgt := 6) G.1 G.2.1 d_Wr_methodsAlone_48 (by decide) ?_
          have h := hK_6 s_j42 x2j42 x4j42 (z0j42 + z1j42) (x6j42 + 1) h
          exact ih_6 s_j42 x2j42 x4j42 (z0j42 + z1j42) (x6j42 + 1) (Nat.lt_of_lt_of_le h.2 (Nat.le_of_lt_succ hμ_6)) h.1 H locs hP hD hS ls (lv_sub hl [2, 3, 4, 5, 1, 0] rfl)
        refine lv_if_ge (tgt := 41) G.1 G.2.1 d_Wr_methodsAlone_34 (by decide) (fun c34 => ?_) (fun c34 => ?_)
        · skip
          have h := h.1 c34
          refine lv_iconst (v := 0) G.1 G.2.1 d_Wr_methodsAlone_41 (by decide) ?_
          exact J_42 s_6 x2h6 x4h6 x6h6 x5h6 0 H locs h hP hD hS ls (lv_sub hl [0, 1, 2, 3, 5] rfl)
        · skip
          have h := h.2 c34
          refine lv_iconst (v := 1) G.1 G.2.1 d_Wr_methodsAlone_37 (by decide) ?_
          refine lv_goto (tgt := 42) G.1 G.2.1 d_Wr_methodsAlone_38 (by decide) ?_
          exact J_42 s_6 x2h6 x4h6 x6h6 x5h6 1 H locs h hP hD hS ls (lv_sub hl [0, 1, 2, 3, 5] rfl)
  exact L_6 _ σ v2 v4 0 0 (Nat.lt_succ_self _) hI_6 H locs hP hD hS ls (lv_sub hl [3, 4, 5, 6, 1, 0] rfl)
def y_Wr_sameRow : MethodName := ⟨"ClassWorks$Writer", "sameRow", "(LClassWorks$World;ILClassWorks$World;II)Z"⟩
abbrev b_Wr_sameRow : ByteArray := prog_12_method_32_code
theorem q855 : Cond.fieldLink "ClassWorks$Writer" 166 "ClassWorks$World" "extra" "LClassWorks$Ints;" ∈ lw_ok := lw_okmem (List.mem_of_getElem? (i := 855) (by decide +kernel)) rfl
theorem d_Wr_sameRow_0 : decode b_Wr_sameRow 0 = .ok (.iconst 1, 1) := by decide +kernel
theorem d_Wr_sameRow_1 : decode b_Wr_sameRow 1 = .ok (.istore 5, 2) := by decide +kernel
theorem d_Wr_sameRow_3 : decode b_Wr_sameRow 3 = .ok (.iconst 0, 1) := by decide +kernel
theorem d_Wr_sameRow_4 : decode b_Wr_sameRow 4 = .ok (.istore 6, 2) := by decide +kernel
theorem d_Wr_sameRow_6 : decode b_Wr_sameRow 6 = .ok (.iload 6, 2) := by decide +kernel
theorem d_Wr_sameRow_8 : decode b_Wr_sameRow 8 = .ok (.iload 4, 2) := by decide +kernel
theorem d_Wr_sameRow_10 : decode b_Wr_sameRow 10 = .ok (.if_icmp .ge 48, 3) := by decide +kernel
theorem d_Wr_sameRow_13 : decode b_Wr_sameRow 13 = .ok (.iload 5, 2) := by decide +kernel
theorem d_Wr_sameRow_15 : decode b_Wr_sameRow 15 = .ok (.ifCond .eq 43, 3) := by decide +kernel
theorem d_Wr_sameRow_18 : decode b_Wr_sameRow 18 = .ok (.aload_n 0, 1) := by decide +kernel
theorem d_Wr_sameRow_19 : decode b_Wr_sameRow 19 = .ok (.getfield 166, 3) := by decide +kernel
theorem d_Wr_sameRow_22 : decode b_Wr_sameRow 22 = .ok (.getfield 141, 3) := by decide +kernel
theorem d_Wr_sameRow_25 : decode b_Wr_sameRow 25 = .ok (.iload_n 1, 1) := by decide +kernel
theorem d_Wr_sameRow_26 : decode b_Wr_sameRow 26 = .ok (.iload 6, 2) := by decide +kernel
theorem d_Wr_sameRow_28 : decode b_Wr_sameRow 28 = .ok (.iadd, 1) := by decide +kernel
theorem d_Wr_sameRow_29 : decode b_Wr_sameRow 29 = .ok (.iaload, 1) := by decide +kernel
theorem d_Wr_sameRow_30 : decode b_Wr_sameRow 30 = .ok (.aload_n 2, 1) := by decide +kernel
theorem d_Wr_sameRow_31 : decode b_Wr_sameRow 31 = .ok (.getfield 166, 3) := by decide +kernel
theorem d_Wr_sameRow_34 : decode b_Wr_sameRow 34 = .ok (.getfield 141, 3) := by decide +kernel
theorem d_Wr_sameRow_37 : decode b_Wr_sameRow 37 = .ok (.iload_n 3, 1) := by decide +kernel
theorem d_Wr_sameRow_38 : decode b_Wr_sameRow 38 = .ok (.iload 6, 2) := by decide +kernel
theorem d_Wr_sameRow_40 : decode b_Wr_sameRow 40 = .ok (.iadd, 1) := by decide +kernel
theorem d_Wr_sameRow_41 : decode b_Wr_sameRow 41 = .ok (.iaload, 1) := by decide +kernel
theorem d_Wr_sameRow_42 : decode b_Wr_sameRow 42 = .ok (.if_icmp .ne 7, 3) := by decide +kernel
theorem d_Wr_sameRow_45 : decode b_Wr_sameRow 45 = .ok (.iconst 1, 1) := by decide +kernel
theorem d_Wr_sameRow_46 : decode b_Wr_sameRow 46 = .ok (.goto 4, 3) := by decide +kernel
theorem d_Wr_sameRow_49 : decode b_Wr_sameRow 49 = .ok (.iconst 0, 1) := by decide +kernel
theorem d_Wr_sameRow_50 : decode b_Wr_sameRow 50 = .ok (.istore 5, 2) := by decide +kernel
theorem d_Wr_sameRow_52 : decode b_Wr_sameRow 52 = .ok (.iinc 6 1, 3) := by decide +kernel
theorem d_Wr_sameRow_55 : decode b_Wr_sameRow 55 = .ok (.goto (-49), 3) := by decide +kernel
theorem d_Wr_sameRow_58 : decode b_Wr_sameRow 58 = .ok (.iload 5, 2) := by decide +kernel
theorem d_Wr_sameRow_60 : decode b_Wr_sameRow 60 = .ok (.ireturn, 1) := by decide +kernel
abbrev ru_Wr_sameRow : Room := { frames := 0, cells := 0, slots := 0, locals := 0 }
def wj_Wr_sameRow_58 (y : Ly) (Post : St → Int32 → Prop) (a0 : Nat) (a2 : Nat) (s_j58 : St) (x5j58 : Int32) : Prop := (nb x5j58 ∧ Post s_j58 x5j58)
def wj_Wr_sameRow_50 (y : Ly) (Post : St → Int32 → Prop) (K_6 : St → Int32 → Int32 → Int32 → Int32 → Int32 → Prop) (a0 : Nat) (a2 : Nat) (s_j50 : St) (x1j50 : Int32) (x3j50 : Int32) (x4j50 : Int32) (x6j50 : Int32) (z0j50 : Int32) : Prop := K_6 s_j50 x1j50 x3j50 x4j50 z0j50 (x6j50 + 1)
def wb_Wr_sameRow_6 (y : Ly) (Post : St → Int32 → Prop) (K_6 : St → Int32 → Int32 → Int32 → Int32 → Int32 → Prop) (a0 : Nat) (a2 : Nat) (s_h6 : St) (x1h6 : Int32) (x3h6 : Int32) (x4h6 : Int32) (x5h6 : Int32) (x6h6 : Int32) : Prop := ((x4h6 ≤ x6h6 → wj_Wr_sameRow_58 y Post a0 a2 s_h6 x5h6) ∧ (¬ (x4h6 ≤ x6h6) → ((x5h6 = 0 → wj_Wr_sameRow_58 y Post a0 a2 s_h6 x5h6) ∧ (¬ (x5h6 = 0) → xA y s_h6 (lk a0 12) 0 (x1h6 + x6h6) (fun x_1 : Int32 => xA y s_h6 (lk a2 12) 0 (x3h6 + x6h6) (fun x_2 : Int32 => ((¬ x_1 = x_2 → wj_Wr_sameRow_50 y Post K_6 a0 a2 s_h6 x1h6 x3h6 x4h6 x6h6 0) ∧ (x_1 = x_2 → wj_Wr_sameRow_50 y Post K_6 a0 a2 s_h6 x1h6 x3h6 x4h6 x6h6 1))))))))
def wl_Wr_sameRow_6 (y : Ly) (Post : St → Int32 → Prop) (a0 : Nat) (a2 : Nat) (s_h6 : St) (x1h6 : Int32) (x3h6 : Int32) (x4h6 : Int32) (x5h6 : Int32) (x6h6 : Int32) : Prop := ∃ (I : St → Int32 → Int32 → Int32 → Int32 → Int32 → Prop) (μ : St → Int32 → Int32 → Int32 → Int32 → Int32 → Nat), I s_h6 x1h6 x3h6 x4h6 x5h6 x6h6 ∧ ∀ (u : St) (t0 : Int32) (t1 : Int32) (t2 : Int32) (t3 : Int32) (t4 : Int32), I u t0 t1 t2 t3 t4 → wb_Wr_sameRow_6 y Post (fun z t0q t1q t2q t3q t4q => I z t0q t1q t2q t3q t4q ∧ μ z t0q t1q t2q t3q t4q < μ u t0 t1 t2 t3 t4) a0 a2 u t0 t1 t2 t3 t4
def wu_Wr_sameRow (y : Ly) (Post : St → Int32 → Prop) (σ : St) (a0 : Nat) (v1 : Int32) (a2 : Nat) (v3 : Int32) (v4 : Int32) : Prop := wl_Wr_sameRow_6 y Post a0 a2 σ v1 v3 v4 1 0
set_option maxHeartbeats 4000000 in
set_option maxRecDepth 100000 in
theorem cu_Wr_sameRow (l : Launch) (D : va_G) (g : Nat → ClassId) (ad : Nat → Nat) (y : Ly) (Post : St → Int32 → Prop) (σ : St) (a0 : Nat) (v1 : Int32) (a2 : Nat) (v3 : Int32) (v4 : Int32) (sz : Nat) (h_a0 : cl a0 = 9) (h_a2 : cl a2 = 9) (h : wu_Wr_sameRow y Post σ a0 v1 a2 v3 v4) : Met l y_Wr_sameRow (mw y_Wr_sameRow b_Wr_sameRow 7 (some (.boolean))) ru_Wr_sameRow (PC g D [] [.ref (ad a0), .int v1, .ref (ad a2), .int v3, .int v4] sz (ws g ad y σ)) (va_Qi (fun (r : Int32) (u : St) => Post u r) (QW D (va_A (ws g ad y σ) sz) (fun u => ws g ad y u)) (va_A (ws g ad y σ) sz)) 0 0 (va_A (ws g ad y σ) sz) := by
  refine ofZ (by decide +kernel) (Nat.le_of_ble_eq_true rfl) ?_
  intro p e s m args below meth c A Q ls H locs G hsz hP hD hS hl hret
  subst hsz
  have hl : lv_has ls 7 [(0, .ref (ad a0)), (1, .int v1), (2, .ref (ad a2)), (3, .int v3), (4, .int v4)] := hl
  unfold wu_Wr_sameRow at h
  refine lv_iconst (v := 1) G.1 G.2.1 d_Wr_sameRow_0 (by decide) ?_
  refine lv_istore (lv' := [(5, .int 1), (0, .ref (ad a0)), (1, .int v1), (2, .ref (ad a2)), (3, .int v3), (4, .int v4)]) G.1 G.2.1 d_Wr_sameRow_1 hl (by decide) rfl (fun ls hl => ?_)
  refine lv_iconst (v := 0) G.1 G.2.1 d_Wr_sameRow_3 (by decide) ?_
  refine lv_istore (lv' := [(6, .int 0), (5, .int 1), (0, .ref (ad a0)), (1, .int v1), (2, .ref (ad a2)), (3, .int v3), (4, .int v4)]) G.1 G.2.1 d_Wr_sameRow_4 hl (by decide) rfl (fun ls hl => ?_)
  unfold wl_Wr_sameRow_6 at h
  obtain ⟨I_6, μ_6, hI_6, hB_6⟩ := h
  have L_6 : ∀ (n_6 : Nat) (s_h6 : St) (x1h6 : Int32) (x3h6 : Int32) (x4h6 : Int32) (x5h6 : Int32) (x6h6 : Int32), μ_6 s_h6 x1h6 x3h6 x4h6 x5h6 x6h6 < n_6 → I_6 s_h6 x1h6 x3h6 x4h6 x5h6 x6h6 → ∀ (H : Heap) (locs : List Loc), va_P D CL (ws g ad y s_h6) H → va_D A (ws g ad y s_h6) → va_S A s.heap H locs → ∀ ls, lv_has ls 7 [(0, .ref (ad a0)), (1, .int x1h6), (2, .ref (ad a2)), (3, .int x3h6), (4, .int x4h6), (5, .int x5h6), (6, .int x6h6)] → W p l e ru_Wr_sameRow s m args below meth c H locs 0 0 Q (F0 m 6 ls []) := by
    intro n_6
    induction n_6 with
    | zero => intro s_h6 x1h6 x3h6 x4h6 x5h6 x6h6 hμ; exact absurd hμ (Nat.not_lt_zero _)
    | succ n_6 ih_6 =>
      intro s_h6 x1h6 x3h6 x4h6 x5h6 x6h6 hμ_6 hJ H locs hP hD hS ls hl
      obtain ⟨K_6, hK_6, h⟩ : ∃ K : St → Int32 → Int32 → Int32 → Int32 → Int32 → Prop, (∀ z (t0 : Int32) (t1 : Int32) (t2 : Int32) (t3 : Int32) (t4 : Int32), K z t0 t1 t2 t3 t4 → I_6 z t0 t1 t2 t3 t4 ∧ μ_6 z t0 t1 t2 t3 t4 < μ_6 s_h6 x1h6 x3h6 x4h6 x5h6 x6h6) ∧ wb_Wr_sameRow_6 y Post K a0 a2 s_h6 x1h6 x3h6 x4h6 x5h6 x6h6 := ⟨_, fun _ _ _ _ _ _ h => h, hB_6 s_h6 x1h6 x3h6 x4h6 x5h6 x6h6 hJ⟩
      unfold wb_Wr_sameRow_6 at h
      refine lv_iload G.1 G.2.1 d_Wr_sameRow_6 (lv_at hl 6 rfl) ?_
      refine lv_iload G.1 G.2.1 d_Wr_sameRow_8 (lv_at hl 4 rfl) ?_
      have J_58 : ∀ (s_j58 : St) (x5j58 : Int32) (H : Heap) (locs : List Loc), wj_Wr_sameRow_58 y Post a0 a2 s_j58 x5j58 → va_P D CL (ws g ad y s_j58) H → va_D A (ws g ad y s_j58) → va_S A s.heap H locs → ∀ ls, lv_has ls 7 [(5, .int x5j58)] → W p l e ru_Wr_sameRow s m args below meth c H locs 0 0 Q (F0 m 58 ls []) := by
        intro s_j58 x5j58 H locs h hP hD hS ls hl
        unfold wj_Wr_sameRow_58 at h
        refine lv_iload G.1 G.2.1 d_Wr_sameRow_58 (lv_at hl 0 rfl) ?_
        exact hret _ _ _ _ _ _ _ ls (nb_n h.1) h.2 hP hD hS (Nat.le_refl _) (Nat.le_refl _) d_Wr_sameRow_60
      refine lv_icmp_ge (tgt := 58) G.1 G.2.1 d_Wr_sameRow_10 (by decide) (fun c10 => ?_) (fun c10 => ?_)
      · skip
        have h := h.1 c10
        exact J_58 s_h6 x5h6 H locs h hP hD hS ls (lv_sub hl [5] rfl)
      · skip
        have h := h.2 c10
        refine lv_iload G.1 G.2.1 d_Wr_sameRow_13 (lv_at hl 5 rfl) ?_
        refine lv_if_eq (tgt := 58) G.1 G.2.1 d_Wr_sameRow_15 (by decide) (fun c15 => ?_) (fun c15 => ?_)
        · skip
          have h := h.1 c15
          exact J_58 s_h6 x5h6 H locs h hP hD hS ls (lv_sub hl [5] rfl)
        · skip
          have h := h.2 c15
          refine lv_aload_n G.1 G.2.1 d_Wr_sameRow_18 rfl (lv_at hl 0 rfl) ?_
          refine ugf (v := .ref (ad (lk a0 12))) G hP h_a0 iWd rfl 12 (by decide) rfl q855 rfl rfl d_Wr_sameRow_19 ?_
          refine ugf (v := .ref (yP y (lk a0 12) 0)) G hP (lk_9_12 h_a0) iIn rfl 0 (by decide) rfl q386 rfl rfl d_Wr_sameRow_22 ?_
          refine lv_iload_n G.1 G.2.1 d_Wr_sameRow_25 rfl (lv_at hl 1 rfl) ?_
          refine lv_iload G.1 G.2.1 d_Wr_sameRow_26 (lv_at hl 6 rfl) ?_
          refine lv_iadd G.1 G.2.1 d_Wr_sameRow_28 ?_
          refine W.eq (g2 := F0 m 29 ls [.int (x1h6 + x6h6), .ref (yP y (lk a0 12) 0)]) rfl ?_
          refine uiald G hP (kdp (lk_9_12 h_a0) rfl) (typ (lk_9_12 h_a0) rfl) h d_Wr_sameRow_29 (fun x_1 h => ?_)
          refine lv_aload_n G.1 G.2.1 d_Wr_sameRow_30 rfl (lv_at hl 2 rfl) ?_
          refine ugf (v := .ref (ad (lk a2 12))) G hP h_a2 iWd rfl 12 (by decide) rfl q855 rfl rfl d_Wr_sameRow_31 ?_
          refine ugf (v := .ref (yP y (lk a2 12) 0)) G hP (lk_9_12 h_a2) iIn rfl 0 (by decide) rfl q386 rfl rfl d_Wr_sameRow_34 ?_
          refine lv_iload_n G.1 G.2.1 d_Wr_sameRow_37 rfl (lv_at hl 3 rfl) ?_
          refine lv_iload G.1 G.2.1 d_Wr_sameRow_38 (lv_at hl 6 rfl) ?_
          refine lv_iadd G.1 G.2.1 d_Wr_sameRow_40 ?_
          refine uiald G hP (kdp (lk_9_12 h_a2) rfl) (typ (lk_9_12 h_a2) rfl) h d_Wr_sameRow_41 (fun x_2 h => ?_)
          have J_50 : ∀ (s_j50 : St) (x1j50 : Int32) (x3j50 : Int32) (x4j50 : Int32) (x6j50 : Int32) (z0j50 : Int32) (H : Heap) (locs : List Loc), wj_Wr_sameRow_50 y Post K_6 a0 a2 s_j50 x1j50 x3j50 x4j50 x6j50 z0j50 → va_P D CL (ws g ad y s_j50) H → va_D A (ws g ad y s_j50) → va_S A s.heap H locs → ∀ ls, lv_has ls 7 [(0, .ref (ad a0)), (1, .int x1j50), (2, .ref (ad a2)), (3, .int x3j50), (4, .int x4j50), (6, .int x6j50)] → W p l e ru_Wr_sameRow s m args below meth c H locs 0 0 Q (F0 m 50 ls [.int z0j50]) := by
            intro s_j50 x1j50 x3j50 x4j50 x6j50 z0j50 H locs h hP hD hS ls hl
            unfold wj_Wr_sameRow_50 at h
            refine lv_istore (lv' := [(5, .int z0j50), (0, .ref (ad a0)), (1, .int x1j50), (2, .ref (ad a2)), (3, .int x3j50), (4, .int x4j50), (6, .int x6j50)]) G.1 G.2.1 d_Wr_sameRow_50 hl (by decide) rfl (fun ls hl => ?_)
            refine lv_iinc (v := x6j50 + 1) (lv' := [(6, .int (x6j50 + 1)), (5, .int z0j50), (0, .ref (ad a0)), (1, .int x1j50), (2, .ref (ad a2)), (3, .int x3j50), (4, .int x4j50)]) G.1 G.2.1 d_Wr_sameRow_52 hl (k := 6) rfl rfl (by decide) rfl (fun ls hl => ?_)
            refine lv_goto (tgt := 6) G.1 G.2.1 d_Wr_sameRow_55 (by decide) ?_
            have h := hK_6 s_j50 x1j50 x3j50 x4j50 z0j50 (x6j50 + 1) h
            exact ih_6 s_j50 x1j50 x3j50 x4j50 z0j50 (x6j50 + 1) (Nat.lt_of_lt_of_le h.2 (Nat.le_of_lt_succ hμ_6)) h.1 H locs hP hD hS ls (lv_sub hl [2, 3, 4, 5, 6, 1, 0] rfl)
          refine lv_icmp_ne (tgt := 49) G.1 G.2.1 d_Wr_sameRow_42 (by decide) (fun c42 => ?_) (fun c42 => ?_)
          · skip
            have h := h.1 c42
            refine lv_iconst (v := 0) G.1 G.2.1 d_Wr_sameRow_49 (by decide) ?_
            exact J_50 s_h6 x1h6 x3h6 x4h6 x6h6 0 H locs h hP hD hS ls (lv_sub hl [0, 1, 2, 3, 4, 6] rfl)
          · skip
            have h := h.2 c42
            refine lv_iconst (v := 1) G.1 G.2.1 d_Wr_sameRow_45 (by decide) ?_
            refine lv_goto (tgt := 50) G.1 G.2.1 d_Wr_sameRow_46 (by decide) ?_
            exact J_50 s_h6 x1h6 x3h6 x4h6 x6h6 1 H locs h hP hD hS ls (lv_sub hl [0, 1, 2, 3, 4, 6] rfl)
  exact L_6 _ σ v1 v3 v4 1 0 (Nat.lt_succ_self _) hI_6 H locs hP hD hS ls (lv_sub hl [2, 3, 4, 5, 6, 1, 0] rfl)
theorem q2418 : Cond.methodLink "ClassWorks$Writer" 213 y_Wr_sameRow ∈ lw_ok := lw_okmem (List.mem_of_getElem? (i := 2418) (by decide +kernel)) rfl
theorem q2420 : Cond.code y_Wr_sameRow b_Wr_sameRow 7 (some (.boolean)) ∈ lw_ok := lw_okmem (List.mem_of_getElem? (i := 2420) (by decide +kernel)) rfl
theorem q343 : Cond.initialized "ClassWorks$Writer" ∈ lw_ok := lw_okmem (List.mem_of_getElem? (i := 343) (by decide +kernel)) rfl
theorem q2419 : Cond.static y_Wr_sameRow ∈ lw_ok := lw_okmem (List.mem_of_getElem? (i := 2419) (by decide +kernel)) rfl
theorem w9_Wr_sameRow : CWv y_Wr_sameRow b_Wr_sameRow 7 (some (.boolean)) 5 ∧ Cond.static y_Wr_sameRow ∈ lw_ok := ⟨⟨q2420, q343, by decide +kernel, by decide +kernel, by decide +kernel⟩, q2419⟩
def y_Wr_sameFrame : MethodName := ⟨"ClassWorks$Writer", "sameFrame", "(LClassWorks$World;ILClassWorks$World;I)Z"⟩
abbrev b_Wr_sameFrame : ByteArray := prog_12_method_31_code
theorem d_Wr_sameFrame_0 : decode b_Wr_sameFrame 0 = .ok (.iload_n 1, 1) := by decide +kernel
theorem d_Wr_sameFrame_1 : decode b_Wr_sameFrame 1 = .ok (.ifCond .lt 7, 3) := by decide +kernel
theorem d_Wr_sameFrame_4 : decode b_Wr_sameFrame 4 = .ok (.iload_n 3, 1) := by decide +kernel
theorem d_Wr_sameFrame_5 : decode b_Wr_sameFrame 5 = .ok (.ifCond .ge 17, 3) := by decide +kernel
theorem d_Wr_sameFrame_8 : decode b_Wr_sameFrame 8 = .ok (.iload_n 1, 1) := by decide +kernel
theorem d_Wr_sameFrame_9 : decode b_Wr_sameFrame 9 = .ok (.ifCond .ge 11, 3) := by decide +kernel
theorem d_Wr_sameFrame_12 : decode b_Wr_sameFrame 12 = .ok (.iload_n 3, 1) := by decide +kernel
theorem d_Wr_sameFrame_13 : decode b_Wr_sameFrame 13 = .ok (.ifCond .ge 7, 3) := by decide +kernel
theorem d_Wr_sameFrame_16 : decode b_Wr_sameFrame 16 = .ok (.iconst 1, 1) := by decide +kernel
theorem d_Wr_sameFrame_17 : decode b_Wr_sameFrame 17 = .ok (.goto 4, 3) := by decide +kernel
theorem d_Wr_sameFrame_20 : decode b_Wr_sameFrame 20 = .ok (.iconst 0, 1) := by decide +kernel
theorem d_Wr_sameFrame_21 : decode b_Wr_sameFrame 21 = .ok (.ireturn, 1) := by decide +kernel
theorem d_Wr_sameFrame_22 : decode b_Wr_sameFrame 22 = .ok (.aload_n 0, 1) := by decide +kernel
theorem d_Wr_sameFrame_23 : decode b_Wr_sameFrame 23 = .ok (.getfield 166, 3) := by decide +kernel
theorem d_Wr_sameFrame_26 : decode b_Wr_sameFrame 26 = .ok (.getfield 141, 3) := by decide +kernel
theorem d_Wr_sameFrame_29 : decode b_Wr_sameFrame 29 = .ok (.iload_n 1, 1) := by decide +kernel
theorem d_Wr_sameFrame_30 : decode b_Wr_sameFrame 30 = .ok (.iaload, 1) := by decide +kernel
theorem d_Wr_sameFrame_31 : decode b_Wr_sameFrame 31 = .ok (.istore 4, 2) := by decide +kernel
theorem d_Wr_sameFrame_33 : decode b_Wr_sameFrame 33 = .ok (.iload 4, 2) := by decide +kernel
theorem d_Wr_sameFrame_35 : decode b_Wr_sameFrame 35 = .ok (.aload_n 2, 1) := by decide +kernel
theorem d_Wr_sameFrame_36 : decode b_Wr_sameFrame 36 = .ok (.getfield 166, 3) := by decide +kernel
theorem d_Wr_sameFrame_39 : decode b_Wr_sameFrame 39 = .ok (.getfield 141, 3) := by decide +kernel
theorem d_Wr_sameFrame_42 : decode b_Wr_sameFrame 42 = .ok (.iload_n 3, 1) := by decide +kernel
theorem d_Wr_sameFrame_43 : decode b_Wr_sameFrame 43 = .ok (.iaload, 1) := by decide +kernel
theorem d_Wr_sameFrame_44 : decode b_Wr_sameFrame 44 = .ok (.if_icmp .ne 34, 3) := by decide +kernel
theorem d_Wr_sameFrame_47 : decode b_Wr_sameFrame 47 = .ok (.aload_n 0, 1) := by decide +kernel
theorem d_Wr_sameFrame_48 : decode b_Wr_sameFrame 48 = .ok (.getfield 166, 3) := by decide +kernel
theorem d_Wr_sameFrame_51 : decode b_Wr_sameFrame 51 = .ok (.getfield 141, 3) := by decide +kernel
theorem d_Wr_sameFrame_54 : decode b_Wr_sameFrame 54 = .ok (.iload_n 1, 1) := by decide +kernel
theorem d_Wr_sameFrame_55 : decode b_Wr_sameFrame 55 = .ok (.iconst 1, 1) := by decide +kernel
theorem d_Wr_sameFrame_56 : decode b_Wr_sameFrame 56 = .ok (.iadd, 1) := by decide +kernel
theorem d_Wr_sameFrame_57 : decode b_Wr_sameFrame 57 = .ok (.iload 4, 2) := by decide +kernel
theorem d_Wr_sameFrame_59 : decode b_Wr_sameFrame 59 = .ok (.iadd, 1) := by decide +kernel
theorem d_Wr_sameFrame_60 : decode b_Wr_sameFrame 60 = .ok (.iaload, 1) := by decide +kernel
theorem d_Wr_sameFrame_61 : decode b_Wr_sameFrame 61 = .ok (.aload_n 2, 1) := by decide +kernel
theorem d_Wr_sameFrame_62 : decode b_Wr_sameFrame 62 = .ok (.getfield 166, 3) := by decide +kernel
theorem d_Wr_sameFrame_65 : decode b_Wr_sameFrame 65 = .ok (.getfield 141, 3) := by decide +kernel
theorem d_Wr_sameFrame_68 : decode b_Wr_sameFrame 68 = .ok (.iload_n 3, 1) := by decide +kernel
theorem d_Wr_sameFrame_69 : decode b_Wr_sameFrame 69 = .ok (.iconst 1, 1) := by decide +kernel
theorem d_Wr_sameFrame_70 : decode b_Wr_sameFrame 70 = .ok (.iadd, 1) := by decide +kernel
theorem d_Wr_sameFrame_71 : decode b_Wr_sameFrame 71 = .ok (.iload 4, 2) := by decide +kernel
theorem d_Wr_sameFrame_73 : decode b_Wr_sameFrame 73 = .ok (.iadd, 1) := by decide +kernel
theorem d_Wr_sameFrame_74 : decode b_Wr_sameFrame 74 = .ok (.iaload, 1) := by decide +kernel
theorem d_Wr_sameFrame_75 : decode b_Wr_sameFrame 75 = .ok (.if_icmp .eq 5, 3) := by decide +kernel
theorem d_Wr_sameFrame_78 : decode b_Wr_sameFrame 78 = .ok (.iconst 0, 1) := by decide +kernel
theorem d_Wr_sameFrame_79 : decode b_Wr_sameFrame 79 = .ok (.ireturn, 1) := by decide +kernel
theorem d_Wr_sameFrame_80 : decode b_Wr_sameFrame 80 = .ok (.aload_n 0, 1) := by decide +kernel
theorem d_Wr_sameFrame_81 : decode b_Wr_sameFrame 81 = .ok (.iload_n 1, 1) := by decide +kernel
theorem d_Wr_sameFrame_82 : decode b_Wr_sameFrame 82 = .ok (.aload_n 2, 1) := by decide +kernel
theorem d_Wr_sameFrame_83 : decode b_Wr_sameFrame 83 = .ok (.iload_n 3, 1) := by decide +kernel
theorem d_Wr_sameFrame_84 : decode b_Wr_sameFrame 84 = .ok (.iconst 2, 1) := by decide +kernel
theorem d_Wr_sameFrame_85 : decode b_Wr_sameFrame 85 = .ok (.iload 4, 2) := by decide +kernel
theorem d_Wr_sameFrame_87 : decode b_Wr_sameFrame 87 = .ok (.iadd, 1) := by decide +kernel
theorem d_Wr_sameFrame_88 : decode b_Wr_sameFrame 88 = .ok (.aload_n 0, 1) := by decide +kernel
theorem d_Wr_sameFrame_89 : decode b_Wr_sameFrame 89 = .ok (.getfield 166, 3) := by decide +kernel
theorem d_Wr_sameFrame_92 : decode b_Wr_sameFrame 92 = .ok (.getfield 141, 3) := by decide +kernel
theorem d_Wr_sameFrame_95 : decode b_Wr_sameFrame 95 = .ok (.iload_n 1, 1) := by decide +kernel
theorem d_Wr_sameFrame_96 : decode b_Wr_sameFrame 96 = .ok (.iconst 1, 1) := by decide +kernel
theorem d_Wr_sameFrame_97 : decode b_Wr_sameFrame 97 = .ok (.iadd, 1) := by decide +kernel
theorem d_Wr_sameFrame_98 : decode b_Wr_sameFrame 98 = .ok (.iload 4, 2) := by decide +kernel
theorem d_Wr_sameFrame_100 : decode b_Wr_sameFrame 100 = .ok (.iadd, 1) := by decide +kernel
theorem d_Wr_sameFrame_101 : decode b_Wr_sameFrame 101 = .ok (.iaload, 1) := by decide +kernel
theorem d_Wr_sameFrame_102 : decode b_Wr_sameFrame 102 = .ok (.iadd, 1) := by decide +kernel
theorem d_Wr_sameFrame_103 : decode b_Wr_sameFrame 103 = .ok (.invokestatic 213, 3) := by decide +kernel
theorem d_Wr_sameFrame_106 : decode b_Wr_sameFrame 106 = .ok (.ireturn, 1) := by decide +kernel
abbrev ru_Wr_sameFrame : Room := { frames := 1, cells := 0, slots := 0, locals := 26 }
def wj_Wr_sameFrame_21 (y : Ly) (Post : St → Int32 → Prop) (a0 : Nat) (a2 : Nat) (s_j21 : St) (z0j21 : Int32) : Prop := (nb z0j21 ∧ Post s_j21 z0j21)
def wj_Wr_sameFrame_20 (y : Ly) (Post : St → Int32 → Prop) (a0 : Nat) (a2 : Nat) (s_j20 : St) : Prop := wj_Wr_sameFrame_21 y Post a0 a2 s_j20 0
def wj_Wr_sameFrame_8 (y : Ly) (Post : St → Int32 → Prop) (a0 : Nat) (a2 : Nat) (s_j8 : St) (x1j8 : Int32) (x3j8 : Int32) : Prop := ((0 ≤ x1j8 → wj_Wr_sameFrame_20 y Post a0 a2 s_j8) ∧ (¬ (0 ≤ x1j8) → ((0 ≤ x3j8 → wj_Wr_sameFrame_20 y Post a0 a2 s_j8) ∧ (¬ (0 ≤ x3j8) → wj_Wr_sameFrame_21 y Post a0 a2 s_j8 1))))
def wj_Wr_sameFrame_78 (y : Ly) (Post : St → Int32 → Prop) (a0 : Nat) (a2 : Nat) (s_j78 : St) : Prop := (nb 0 ∧ Post s_j78 0)
def wu_Wr_sameFrame (y : Ly) (Post : St → Int32 → Prop) (σ : St) (a0 : Nat) (v1 : Int32) (a2 : Nat) (v3 : Int32) : Prop := ((v1 < 0 → wj_Wr_sameFrame_8 y Post a0 a2 σ v1 v3) ∧ (¬ (v1 < 0) → ((0 ≤ v3 → xA y σ (lk a0 12) 0 v1 (fun x_1 : Int32 => xA y σ (lk a2 12) 0 v3 (fun x_2 : Int32 => ((¬ x_1 = x_2 → wj_Wr_sameFrame_78 y Post a0 a2 σ) ∧ (x_1 = x_2 → xA y σ (lk a0 12) 0 ((v1 + 1) + x_1) (fun x_3 : Int32 => xA y σ (lk a2 12) 0 ((v3 + 1) + x_1) (fun x_4 : Int32 => ((x_3 = x_4 → xA y σ (lk a0 12) 0 ((v1 + 1) + x_1) (fun x_5 : Int32 => wu_Wr_sameRow y (fun (s_7 : St) (r_6 : Int32) => (nb r_6 ∧ Post s_7 r_6)) σ a0 v1 a2 v3 ((2 + x_1) + x_5))) ∧ (¬ (x_3 = x_4) → wj_Wr_sameFrame_78 y Post a0 a2 σ))))))))) ∧ (¬ (0 ≤ v3) → wj_Wr_sameFrame_8 y Post a0 a2 σ v1 v3))))
set_option maxHeartbeats 4000000 in
set_option maxRecDepth 100000 in
theorem cu_Wr_sameFrame (l : Launch) (D : va_G) (g : Nat → ClassId) (ad : Nat → Nat) (y : Ly) (Post : St → Int32 → Prop) (σ : St) (a0 : Nat) (v1 : Int32) (a2 : Nat) (v3 : Int32) (sz : Nat) (h_a0 : cl a0 = 9) (h_a2 : cl a2 = 9) (h : wu_Wr_sameFrame y Post σ a0 v1 a2 v3) : Met l y_Wr_sameFrame (mw y_Wr_sameFrame b_Wr_sameFrame 5 (some (.boolean))) ru_Wr_sameFrame (PC g D [] [.ref (ad a0), .int v1, .ref (ad a2), .int v3] sz (ws g ad y σ)) (va_Qi (fun (r : Int32) (u : St) => Post u r) (QW D (va_A (ws g ad y σ) sz) (fun u => ws g ad y u)) (va_A (ws g ad y σ) sz)) 0 0 (va_A (ws g ad y σ) sz) := by
  refine ofZ (by decide +kernel) (Nat.le_of_ble_eq_true rfl) ?_
  intro p e s m args below meth c A Q ls H locs G hsz hP hD hS hl hret
  subst hsz
  have hl : lv_has ls 5 [(0, .ref (ad a0)), (1, .int v1), (2, .ref (ad a2)), (3, .int v3)] := hl
  unfold wu_Wr_sameFrame at h
  refine lv_iload_n G.1 G.2.1 d_Wr_sameFrame_0 rfl (lv_at hl 1 rfl) ?_
  have J_8 : ∀ (s_j8 : St) (x1j8 : Int32) (x3j8 : Int32) (H : Heap) (locs : List Loc), wj_Wr_sameFrame_8 y Post a0 a2 s_j8 x1j8 x3j8 → va_P D CL (ws g ad y s_j8) H → va_D A (ws g ad y s_j8) → va_S A s.heap H locs → ∀ ls, lv_has ls 5 [(1, .int x1j8), (3, .int x3j8)] → W p l e ru_Wr_sameFrame s m args below meth c H locs 0 0 Q (F0 m 8 ls []) := by
    intro s_j8 x1j8 x3j8 H locs h hP hD hS ls hl
    unfold wj_Wr_sameFrame_8 at h
    refine lv_iload_n G.1 G.2.1 d_Wr_sameFrame_8 rfl (lv_at hl 0 rfl) ?_
    have J_21 : ∀ (s_j21 : St) (z0j21 : Int32) (H : Heap) (locs : List Loc), wj_Wr_sameFrame_21 y Post a0 a2 s_j21 z0j21 → va_P D CL (ws g ad y s_j21) H → va_D A (ws g ad y s_j21) → va_S A s.heap H locs → ∀ ls, lv_has ls 5 [] → W p l e ru_Wr_sameFrame s m args below meth c H locs 0 0 Q (F0 m 21 ls [.int z0j21]) := by
      intro s_j21 z0j21 H locs h hP hD hS ls hl
      unfold wj_Wr_sameFrame_21 at h
      exact hret _ _ _ _ _ _ _ ls (nb_n h.1) h.2 hP hD hS (Nat.le_refl _) (Nat.le_refl _) d_Wr_sameFrame_21
    have J_20 : ∀ (s_j20 : St) (H : Heap) (locs : List Loc), wj_Wr_sameFrame_20 y Post a0 a2 s_j20 → va_P D CL (ws g ad y s_j20) H → va_D A (ws g ad y s_j20) → va_S A s.heap H locs → ∀ ls, lv_has ls 5 [] → W p l e ru_Wr_sameFrame s m args below meth c H locs 0 0 Q (F0 m 20 ls []) := by
      intro s_j20 H locs h hP hD hS ls hl
      unfold wj_Wr_sameFrame_20 at h
      refine lv_iconst (v := 0) G.1 G.2.1 d_Wr_sameFrame_20 (by decide) ?_
      exact J_21 s_j20 0 H locs h hP hD hS ls (lv_sub hl [] rfl)
    refine lv_if_ge (tgt := 20) G.1 G.2.1 d_Wr_sameFrame_9 (by decide) (fun c9 => ?_) (fun c9 => ?_)
    · skip
      have h := h.1 c9
      exact J_20 s_j8 H locs h hP hD hS ls (lv_sub hl [] rfl)
    · skip
      have h := h.2 c9
      refine lv_iload_n G.1 G.2.1 d_Wr_sameFrame_12 rfl (lv_at hl 1 rfl) ?_
      refine lv_if_ge (tgt := 20) G.1 G.2.1 d_Wr_sameFrame_13 (by decide) (fun c13 => ?_) (fun c13 => ?_)
      · skip
        have h := h.1 c13
        exact J_20 s_j8 H locs h hP hD hS ls (lv_sub hl [] rfl)
      · skip
        have h := h.2 c13
        refine lv_iconst (v := 1) G.1 G.2.1 d_Wr_sameFrame_16 (by decide) ?_
        refine lv_goto (tgt := 21) G.1 G.2.1 d_Wr_sameFrame_17 (by decide) ?_
        exact J_21 s_j8 1 H locs h hP hD hS ls (lv_sub hl [] rfl)
  refine lv_if_lt (tgt := 8) G.1 G.2.1 d_Wr_sameFrame_1 (by decide) (fun c1 => ?_) (fun c1 => ?_)
  · skip
    have h := h.1 c1
    exact J_8 σ v1 v3 H locs h hP hD hS ls (lv_sub hl [1, 3] rfl)
  · skip
    have h := h.2 c1
    refine lv_iload_n G.1 G.2.1 d_Wr_sameFrame_4 rfl (lv_at hl 3 rfl) ?_
    refine lv_if_ge (tgt := 22) G.1 G.2.1 d_Wr_sameFrame_5 (by decide) (fun c5 => ?_) (fun c5 => ?_)
    · skip
      have h := h.1 c5
      refine lv_aload_n G.1 G.2.1 d_Wr_sameFrame_22 rfl (lv_at hl 0 rfl) ?_
      refine ugf (v := .ref (ad (lk a0 12))) G hP h_a0 iWd rfl 12 (by decide) rfl q855 rfl rfl d_Wr_sameFrame_23 ?_
      refine ugf (v := .ref (yP y (lk a0 12) 0)) G hP (lk_9_12 h_a0) iIn rfl 0 (by decide) rfl q386 rfl rfl d_Wr_sameFrame_26 ?_
      refine lv_iload_n G.1 G.2.1 d_Wr_sameFrame_29 rfl (lv_at hl 1 rfl) ?_
      refine uiald G hP (kdp (lk_9_12 h_a0) rfl) (typ (lk_9_12 h_a0) rfl) h d_Wr_sameFrame_30 (fun x_1 h => ?_)
      refine lv_istore (lv' := [(4, .int x_1), (0, .ref (ad a0)), (1, .int v1), (2, .ref (ad a2)), (3, .int v3)]) G.1 G.2.1 d_Wr_sameFrame_31 hl (by decide) rfl (fun ls hl => ?_)
      refine lv_iload G.1 G.2.1 d_Wr_sameFrame_33 (lv_at hl 0 rfl) ?_
      refine W.eq (g2 := F0 m 35 ls [.int x_1]) rfl ?_
      refine lv_aload_n G.1 G.2.1 d_Wr_sameFrame_35 rfl (lv_at hl 3 rfl) ?_
      refine ugf (v := .ref (ad (lk a2 12))) G hP h_a2 iWd rfl 12 (by decide) rfl q855 rfl rfl d_Wr_sameFrame_36 ?_
      refine ugf (v := .ref (yP y (lk a2 12) 0)) G hP (lk_9_12 h_a2) iIn rfl 0 (by decide) rfl q386 rfl rfl d_Wr_sameFrame_39 ?_
      refine lv_iload_n G.1 G.2.1 d_Wr_sameFrame_42 rfl (lv_at hl 4 rfl) ?_
      refine uiald G hP (kdp (lk_9_12 h_a2) rfl) (typ (lk_9_12 h_a2) rfl) h d_Wr_sameFrame_43 (fun x_2 h => ?_)
      have J_78 : ∀ (s_j78 : St) (H : Heap) (locs : List Loc), wj_Wr_sameFrame_78 y Post a0 a2 s_j78 → va_P D CL (ws g ad y s_j78) H → va_D A (ws g ad y s_j78) → va_S A s.heap H locs → ∀ ls, lv_has ls 5 [] → W p l e ru_Wr_sameFrame s m args below meth c H locs 0 0 Q (F0 m 78 ls []) := by
        intro s_j78 H locs h hP hD hS ls hl
        unfold wj_Wr_sameFrame_78 at h
        refine lv_iconst (v := 0) G.1 G.2.1 d_Wr_sameFrame_78 (by decide) ?_
        exact hret _ _ _ _ _ _ _ ls (nb_n h.1) h.2 hP hD hS (Nat.le_refl _) (Nat.le_refl _) d_Wr_sameFrame_79
      refine lv_icmp_ne (tgt := 78) G.1 G.2.1 d_Wr_sameFrame_44 (by decide) (fun c44 => ?_) (fun c44 => ?_)
      · skip
        have h := h.1 c44
        exact J_78 σ H locs h hP hD hS ls (lv_sub hl [] rfl)
      · skip
        have h := h.2 c44
        refine lv_aload_n G.1 G.2.1 d_Wr_sameFrame_47 rfl (lv_at hl 1 rfl) ?_
        refine ugf (v := .ref (ad (lk a0 12))) G hP h_a0 iWd rfl 12 (by decide) rfl q855 rfl rfl d_Wr_sameFrame_48 ?_
        refine ugf (v := .ref (yP y (lk a0 12) 0)) G hP (lk_9_12 h_a0) iIn rfl 0 (by decide) rfl q386 rfl rfl d_Wr_sameFrame_51 ?_
        refine lv_iload_n G.1 G.2.1 d_Wr_sameFrame_54 rfl (lv_at hl 2 rfl) ?_
        refine lv_iconst (v := 1) G.1 G.2.1 d_Wr_sameFrame_55 (by decide) ?_
        refine lv_iadd G.1 G.2.1 d_Wr_sameFrame_56 ?_
        refine W.eq (g2 := F0 m 57 ls [.int (v1 + 1), .ref (yP y (lk a0 12) 0)]) rfl ?_
        refine lv_iload G.1 G.2.1 d_Wr_sameFrame_57 (lv_at hl 0 rfl) ?_
        refine lv_iadd G.1 G.2.1 d_Wr_sameFrame_59 ?_
        refine uiald G hP (kdp (lk_9_12 h_a0) rfl) (typ (lk_9_12 h_a0) rfl) h d_Wr_sameFrame_60 (fun x_3 h => ?_)
        refine lv_aload_n G.1 G.2.1 d_Wr_sameFrame_61 rfl (lv_at hl 3 rfl) ?_
        refine ugf (v := .ref (ad (lk a2 12))) G hP h_a2 iWd rfl 12 (by decide) rfl q855 rfl rfl d_Wr_sameFrame_62 ?_
        refine ugf (v := .ref (yP y (lk a2 12) 0)) G hP (lk_9_12 h_a2) iIn rfl 0 (by decide) rfl q386 rfl rfl d_Wr_sameFrame_65 ?_
        refine lv_iload_n G.1 G.2.1 d_Wr_sameFrame_68 rfl (lv_at hl 4 rfl) ?_
        refine lv_iconst (v := 1) G.1 G.2.1 d_Wr_sameFrame_69 (by decide) ?_
        refine lv_iadd G.1 G.2.1 d_Wr_sameFrame_70 ?_
        refine lv_iload G.1 G.2.1 d_Wr_sameFrame_71 (lv_at hl 0 rfl) ?_
        refine lv_iadd G.1 G.2.1 d_Wr_sameFrame_73 ?_
        refine uiald G hP (kdp (lk_9_12 h_a2) rfl) (typ (lk_9_12 h_a2) rfl) h d_Wr_sameFrame_74 (fun x_4 h => ?_)
        refine W.eq (g2 := F0 m 75 ls [.int x_4, .int x_3]) rfl ?_
        refine lv_icmp_eq (tgt := 80) G.1 G.2.1 d_Wr_sameFrame_75 (by decide) (fun c75 => ?_) (fun c75 => ?_)
        · skip
          have h := h.1 c75
          refine lv_aload_n G.1 G.2.1 d_Wr_sameFrame_80 rfl (lv_at hl 1 rfl) ?_
          refine lv_iload_n G.1 G.2.1 d_Wr_sameFrame_81 rfl (lv_at hl 2 rfl) ?_
          refine lv_aload_n G.1 G.2.1 d_Wr_sameFrame_82 rfl (lv_at hl 3 rfl) ?_
          refine lv_iload_n G.1 G.2.1 d_Wr_sameFrame_83 rfl (lv_at hl 4 rfl) ?_
          refine lv_iconst (v := 2) G.1 G.2.1 d_Wr_sameFrame_84 (by decide) ?_
          refine lv_iload G.1 G.2.1 d_Wr_sameFrame_85 (lv_at hl 0 rfl) ?_
          refine lv_iadd G.1 G.2.1 d_Wr_sameFrame_87 ?_
          refine lv_aload_n G.1 G.2.1 d_Wr_sameFrame_88 rfl (lv_at hl 1 rfl) ?_
          refine ugf (v := .ref (ad (lk a0 12))) G hP h_a0 iWd rfl 12 (by decide) rfl q855 rfl rfl d_Wr_sameFrame_89 ?_
          refine ugf (v := .ref (yP y (lk a0 12) 0)) G hP (lk_9_12 h_a0) iIn rfl 0 (by decide) rfl q386 rfl rfl d_Wr_sameFrame_92 ?_
          refine lv_iload_n G.1 G.2.1 d_Wr_sameFrame_95 rfl (lv_at hl 2 rfl) ?_
          refine W.eq (g2 := F0 m 96 ls [.int v1, .ref (yP y (lk a0 12) 0), .int (2 + x_1), .int v3, .ref (ad a2), .int v1, .ref (ad a0)]) rfl ?_
          refine lv_iconst (v := 1) G.1 G.2.1 d_Wr_sameFrame_96 (by decide) ?_
          refine lv_iadd G.1 G.2.1 d_Wr_sameFrame_97 ?_
          refine lv_iload G.1 G.2.1 d_Wr_sameFrame_98 (lv_at hl 0 rfl) ?_
          refine lv_iadd G.1 G.2.1 d_Wr_sameFrame_100 ?_
          refine uiald G hP (kdp (lk_9_12 h_a0) rfl) (typ (lk_9_12 h_a0) rfl) h d_Wr_sameFrame_101 (fun x_5 h => ?_)
          refine lv_iadd G.1 G.2.1 d_Wr_sameFrame_102 ?_
          refine ucSi (As := [.ref (ad a0), .int v1, .ref (ad a2), .int v3, .int ((2 + x_1) + x_5)]) (rest := []) G hP hD hS (cu_Wr_sameRow l D g ad y _ σ a0 v1 a2 v3 ((2 + x_1) + x_5) H.size h_a0 h_a2 h) w9_Wr_sameRow q2418 ⟨Nat.le_of_ble_eq_true rfl, Nat.le_of_ble_eq_true rfl⟩ rfl rfl hl.1 rfl (Nat.le_of_ble_eq_true rfl) rfl ⟨Nat.le_refl _, Nat.le_refl _⟩ d_Wr_sameFrame_103 (fun r_6 s_7 H locs h hP hD hS => ?_)
          exact hret _ _ _ _ _ _ _ ls (nb_n h.1) h.2 hP hD hS (Nat.le_refl _) (Nat.le_refl _) d_Wr_sameFrame_106
        · skip
          have h := h.2 c75
          exact J_78 σ H locs h hP hD hS ls (lv_sub hl [] rfl)
    · skip
      have h := h.2 c5
      exact J_8 σ v1 v3 H locs h hP hD hS ls (lv_sub hl [1, 3] rfl)
theorem q2415 : Cond.methodLink "ClassWorks$Writer" 210 y_Wr_sameFrame ∈ lw_ok := lw_okmem (List.mem_of_getElem? (i := 2415) (by decide +kernel)) rfl
theorem q2417 : Cond.code y_Wr_sameFrame b_Wr_sameFrame 5 (some (.boolean)) ∈ lw_ok := lw_okmem (List.mem_of_getElem? (i := 2417) (by decide +kernel)) rfl
theorem q2416 : Cond.static y_Wr_sameFrame ∈ lw_ok := lw_okmem (List.mem_of_getElem? (i := 2416) (by decide +kernel)) rfl
theorem w9_Wr_sameFrame : CWv y_Wr_sameFrame b_Wr_sameFrame 5 (some (.boolean)) 4 ∧ Cond.static y_Wr_sameFrame ∈ lw_ok := ⟨⟨q2417, q343, by decide +kernel, by decide +kernel, by decide +kernel⟩, q2416⟩
def y_Wr_sameCode : MethodName := ⟨"ClassWorks$Writer", "sameCode", "(LClassWorks$World;ILClassWorks$World;I)Z"⟩
abbrev b_Wr_sameCode : ByteArray := prog_12_method_30_code
theorem d_Wr_sameCode_0 : decode b_Wr_sameCode 0 = .ok (.aload_n 0, 1) := by decide +kernel
theorem d_Wr_sameCode_1 : decode b_Wr_sameCode 1 = .ok (.getfield 138, 3) := by decide +kernel
theorem d_Wr_sameCode_4 : decode b_Wr_sameCode 4 = .ok (.getfield 141, 3) := by decide +kernel
theorem d_Wr_sameCode_7 : decode b_Wr_sameCode 7 = .ok (.astore 4, 2) := by decide +kernel
theorem d_Wr_sameCode_9 : decode b_Wr_sameCode 9 = .ok (.aload_n 2, 1) := by decide +kernel
theorem d_Wr_sameCode_10 : decode b_Wr_sameCode 10 = .ok (.getfield 138, 3) := by decide +kernel
theorem d_Wr_sameCode_13 : decode b_Wr_sameCode 13 = .ok (.getfield 141, 3) := by decide +kernel
theorem d_Wr_sameCode_16 : decode b_Wr_sameCode 16 = .ok (.astore 5, 2) := by decide +kernel
theorem d_Wr_sameCode_18 : decode b_Wr_sameCode 18 = .ok (.aload 4, 2) := by decide +kernel
theorem d_Wr_sameCode_20 : decode b_Wr_sameCode 20 = .ok (.iload_n 1, 1) := by decide +kernel
theorem d_Wr_sameCode_21 : decode b_Wr_sameCode 21 = .ok (.iaload, 1) := by decide +kernel
theorem d_Wr_sameCode_22 : decode b_Wr_sameCode 22 = .ok (.aload 5, 2) := by decide +kernel
theorem d_Wr_sameCode_24 : decode b_Wr_sameCode 24 = .ok (.iload_n 3, 1) := by decide +kernel
theorem d_Wr_sameCode_25 : decode b_Wr_sameCode 25 = .ok (.iaload, 1) := by decide +kernel
theorem d_Wr_sameCode_26 : decode b_Wr_sameCode 26 = .ok (.if_icmp .ne 37, 3) := by decide +kernel
theorem d_Wr_sameCode_29 : decode b_Wr_sameCode 29 = .ok (.aload 4, 2) := by decide +kernel
theorem d_Wr_sameCode_31 : decode b_Wr_sameCode 31 = .ok (.iload_n 1, 1) := by decide +kernel
theorem d_Wr_sameCode_32 : decode b_Wr_sameCode 32 = .ok (.iconst 1, 1) := by decide +kernel
theorem d_Wr_sameCode_33 : decode b_Wr_sameCode 33 = .ok (.iadd, 1) := by decide +kernel
theorem d_Wr_sameCode_34 : decode b_Wr_sameCode 34 = .ok (.iaload, 1) := by decide +kernel
theorem d_Wr_sameCode_35 : decode b_Wr_sameCode 35 = .ok (.aload 5, 2) := by decide +kernel
theorem d_Wr_sameCode_37 : decode b_Wr_sameCode 37 = .ok (.iload_n 3, 1) := by decide +kernel
theorem d_Wr_sameCode_38 : decode b_Wr_sameCode 38 = .ok (.iconst 1, 1) := by decide +kernel
theorem d_Wr_sameCode_39 : decode b_Wr_sameCode 39 = .ok (.iadd, 1) := by decide +kernel
theorem d_Wr_sameCode_40 : decode b_Wr_sameCode 40 = .ok (.iaload, 1) := by decide +kernel
theorem d_Wr_sameCode_41 : decode b_Wr_sameCode 41 = .ok (.if_icmp .ne 22, 3) := by decide +kernel
theorem d_Wr_sameCode_44 : decode b_Wr_sameCode 44 = .ok (.aload 4, 2) := by decide +kernel
theorem d_Wr_sameCode_46 : decode b_Wr_sameCode 46 = .ok (.iload_n 1, 1) := by decide +kernel
theorem d_Wr_sameCode_47 : decode b_Wr_sameCode 47 = .ok (.iconst 3, 1) := by decide +kernel
theorem d_Wr_sameCode_48 : decode b_Wr_sameCode 48 = .ok (.iadd, 1) := by decide +kernel
theorem d_Wr_sameCode_49 : decode b_Wr_sameCode 49 = .ok (.iaload, 1) := by decide +kernel
theorem d_Wr_sameCode_50 : decode b_Wr_sameCode 50 = .ok (.aload 5, 2) := by decide +kernel
theorem d_Wr_sameCode_52 : decode b_Wr_sameCode 52 = .ok (.iload_n 3, 1) := by decide +kernel
theorem d_Wr_sameCode_53 : decode b_Wr_sameCode 53 = .ok (.iconst 3, 1) := by decide +kernel
theorem d_Wr_sameCode_54 : decode b_Wr_sameCode 54 = .ok (.iadd, 1) := by decide +kernel
theorem d_Wr_sameCode_55 : decode b_Wr_sameCode 55 = .ok (.iaload, 1) := by decide +kernel
theorem d_Wr_sameCode_56 : decode b_Wr_sameCode 56 = .ok (.if_icmp .ne 7, 3) := by decide +kernel
theorem d_Wr_sameCode_59 : decode b_Wr_sameCode 59 = .ok (.iconst 1, 1) := by decide +kernel
theorem d_Wr_sameCode_60 : decode b_Wr_sameCode 60 = .ok (.goto 4, 3) := by decide +kernel
theorem d_Wr_sameCode_63 : decode b_Wr_sameCode 63 = .ok (.iconst 0, 1) := by decide +kernel
theorem d_Wr_sameCode_64 : decode b_Wr_sameCode 64 = .ok (.istore 6, 2) := by decide +kernel
theorem d_Wr_sameCode_66 : decode b_Wr_sameCode 66 = .ok (.iload 6, 2) := by decide +kernel
theorem d_Wr_sameCode_68 : decode b_Wr_sameCode 68 = .ok (.ifCond .eq 23, 3) := by decide +kernel
theorem d_Wr_sameCode_71 : decode b_Wr_sameCode 71 = .ok (.aload_n 0, 1) := by decide +kernel
theorem d_Wr_sameCode_72 : decode b_Wr_sameCode 72 = .ok (.aload 4, 2) := by decide +kernel
theorem d_Wr_sameCode_74 : decode b_Wr_sameCode 74 = .ok (.iload_n 1, 1) := by decide +kernel
theorem d_Wr_sameCode_75 : decode b_Wr_sameCode 75 = .ok (.iconst 4, 1) := by decide +kernel
theorem d_Wr_sameCode_76 : decode b_Wr_sameCode 76 = .ok (.iadd, 1) := by decide +kernel
theorem d_Wr_sameCode_77 : decode b_Wr_sameCode 77 = .ok (.iaload, 1) := by decide +kernel
theorem d_Wr_sameCode_78 : decode b_Wr_sameCode 78 = .ok (.aload_n 2, 1) := by decide +kernel
theorem d_Wr_sameCode_79 : decode b_Wr_sameCode 79 = .ok (.aload 5, 2) := by decide +kernel
theorem d_Wr_sameCode_81 : decode b_Wr_sameCode 81 = .ok (.iload_n 3, 1) := by decide +kernel
theorem d_Wr_sameCode_82 : decode b_Wr_sameCode 82 = .ok (.iconst 4, 1) := by decide +kernel
theorem d_Wr_sameCode_83 : decode b_Wr_sameCode 83 = .ok (.iadd, 1) := by decide +kernel
theorem d_Wr_sameCode_84 : decode b_Wr_sameCode 84 = .ok (.iaload, 1) := by decide +kernel
theorem d_Wr_sameCode_85 : decode b_Wr_sameCode 85 = .ok (.invokestatic 210, 3) := by decide +kernel
theorem d_Wr_sameCode_88 : decode b_Wr_sameCode 88 = .ok (.ifCond .ne 5, 3) := by decide +kernel
theorem d_Wr_sameCode_91 : decode b_Wr_sameCode 91 = .ok (.iconst 0, 1) := by decide +kernel
theorem d_Wr_sameCode_92 : decode b_Wr_sameCode 92 = .ok (.ireturn, 1) := by decide +kernel
theorem d_Wr_sameCode_93 : decode b_Wr_sameCode 93 = .ok (.aload 4, 2) := by decide +kernel
theorem d_Wr_sameCode_95 : decode b_Wr_sameCode 95 = .ok (.iload_n 1, 1) := by decide +kernel
theorem d_Wr_sameCode_96 : decode b_Wr_sameCode 96 = .ok (.iaload, 1) := by decide +kernel
theorem d_Wr_sameCode_97 : decode b_Wr_sameCode 97 = .ok (.bipush 40, 2) := by decide +kernel
theorem d_Wr_sameCode_99 : decode b_Wr_sameCode 99 = .ok (.if_icmp .eq 24, 3) := by decide +kernel
theorem d_Wr_sameCode_102 : decode b_Wr_sameCode 102 = .ok (.aload 4, 2) := by decide +kernel
theorem d_Wr_sameCode_104 : decode b_Wr_sameCode 104 = .ok (.iload_n 1, 1) := by decide +kernel
theorem d_Wr_sameCode_105 : decode b_Wr_sameCode 105 = .ok (.iconst 2, 1) := by decide +kernel
theorem d_Wr_sameCode_106 : decode b_Wr_sameCode 106 = .ok (.iadd, 1) := by decide +kernel
theorem d_Wr_sameCode_107 : decode b_Wr_sameCode 107 = .ok (.iaload, 1) := by decide +kernel
theorem d_Wr_sameCode_108 : decode b_Wr_sameCode 108 = .ok (.aload 5, 2) := by decide +kernel
theorem d_Wr_sameCode_110 : decode b_Wr_sameCode 110 = .ok (.iload_n 3, 1) := by decide +kernel
theorem d_Wr_sameCode_111 : decode b_Wr_sameCode 111 = .ok (.iconst 2, 1) := by decide +kernel
theorem d_Wr_sameCode_112 : decode b_Wr_sameCode 112 = .ok (.iadd, 1) := by decide +kernel
theorem d_Wr_sameCode_113 : decode b_Wr_sameCode 113 = .ok (.iaload, 1) := by decide +kernel
theorem d_Wr_sameCode_114 : decode b_Wr_sameCode 114 = .ok (.if_icmp .ne 7, 3) := by decide +kernel
theorem d_Wr_sameCode_117 : decode b_Wr_sameCode 117 = .ok (.iconst 1, 1) := by decide +kernel
theorem d_Wr_sameCode_118 : decode b_Wr_sameCode 118 = .ok (.goto 4, 3) := by decide +kernel
theorem d_Wr_sameCode_121 : decode b_Wr_sameCode 121 = .ok (.iconst 0, 1) := by decide +kernel
theorem d_Wr_sameCode_122 : decode b_Wr_sameCode 122 = .ok (.ireturn, 1) := by decide +kernel
theorem d_Wr_sameCode_123 : decode b_Wr_sameCode 123 = .ok (.aload_n 0, 1) := by decide +kernel
theorem d_Wr_sameCode_124 : decode b_Wr_sameCode 124 = .ok (.aload 4, 2) := by decide +kernel
theorem d_Wr_sameCode_126 : decode b_Wr_sameCode 126 = .ok (.iload_n 1, 1) := by decide +kernel
theorem d_Wr_sameCode_127 : decode b_Wr_sameCode 127 = .ok (.iconst 2, 1) := by decide +kernel
theorem d_Wr_sameCode_128 : decode b_Wr_sameCode 128 = .ok (.iadd, 1) := by decide +kernel
theorem d_Wr_sameCode_129 : decode b_Wr_sameCode 129 = .ok (.iaload, 1) := by decide +kernel
theorem d_Wr_sameCode_130 : decode b_Wr_sameCode 130 = .ok (.aload_n 2, 1) := by decide +kernel
theorem d_Wr_sameCode_131 : decode b_Wr_sameCode 131 = .ok (.aload 5, 2) := by decide +kernel
theorem d_Wr_sameCode_133 : decode b_Wr_sameCode 133 = .ok (.iload_n 3, 1) := by decide +kernel
theorem d_Wr_sameCode_134 : decode b_Wr_sameCode 134 = .ok (.iconst 2, 1) := by decide +kernel
theorem d_Wr_sameCode_135 : decode b_Wr_sameCode 135 = .ok (.iadd, 1) := by decide +kernel
theorem d_Wr_sameCode_136 : decode b_Wr_sameCode 136 = .ok (.iaload, 1) := by decide +kernel
theorem d_Wr_sameCode_137 : decode b_Wr_sameCode 137 = .ok (.aload 4, 2) := by decide +kernel
theorem d_Wr_sameCode_139 : decode b_Wr_sameCode 139 = .ok (.iload_n 1, 1) := by decide +kernel
theorem d_Wr_sameCode_140 : decode b_Wr_sameCode 140 = .ok (.iconst 3, 1) := by decide +kernel
theorem d_Wr_sameCode_141 : decode b_Wr_sameCode 141 = .ok (.iadd, 1) := by decide +kernel
theorem d_Wr_sameCode_142 : decode b_Wr_sameCode 142 = .ok (.iaload, 1) := by decide +kernel
theorem d_Wr_sameCode_143 : decode b_Wr_sameCode 143 = .ok (.invokestatic 213, 3) := by decide +kernel
theorem d_Wr_sameCode_146 : decode b_Wr_sameCode 146 = .ok (.ireturn, 1) := by decide +kernel
abbrev ru_Wr_sameCode : Room := { frames := 2, cells := 0, slots := 0, locals := 50 }
def wj_Wr_sameCode_91 (y : Ly) (Post : St → Int32 → Prop) (a0 : Nat) (a2 : Nat) (s_j91 : St) : Prop := (nb 0 ∧ Post s_j91 0)
def wj_Wr_sameCode_122 (y : Ly) (Post : St → Int32 → Prop) (a0 : Nat) (a2 : Nat) (s_j122 : St) (z0j122 : Int32) : Prop := (nb z0j122 ∧ Post s_j122 z0j122)
def wj_Wr_sameCode_64 (y : Ly) (Post : St → Int32 → Prop) (a0 : Nat) (a2 : Nat) (s_j64 : St) (x1j64 : Int32) (x3j64 : Int32) (z0j64 : Int32) : Prop := ((z0j64 = 0 → wj_Wr_sameCode_91 y Post a0 a2 s_j64) ∧ (¬ (z0j64 = 0) → xA y s_j64 (lk a0 10) 0 (x1j64 + 4) (fun x_3 : Int32 => xA y s_j64 (lk a2 10) 0 (x3j64 + 4) (fun x_4 : Int32 => wu_Wr_sameFrame y (fun (s_6 : St) (r_5 : Int32) => ((¬ r_5 = 0 → xA y s_6 (lk a0 10) 0 x1j64 (fun x_7 : Int32 => ((x_7 = 40 → xA y s_6 (lk a0 10) 0 (x1j64 + 2) (fun x_8 : Int32 => xA y s_6 (lk a2 10) 0 (x3j64 + 2) (fun x_9 : Int32 => xA y s_6 (lk a0 10) 0 (x1j64 + 3) (fun x_10 : Int32 => wu_Wr_sameRow y (fun (s_12 : St) (r_11 : Int32) => (nb r_11 ∧ Post s_12 r_11)) s_6 a0 x_8 a2 x_9 x_10)))) ∧ (¬ (x_7 = 40) → xA y s_6 (lk a0 10) 0 (x1j64 + 2) (fun x_13 : Int32 => xA y s_6 (lk a2 10) 0 (x3j64 + 2) (fun x_14 : Int32 => ((¬ x_13 = x_14 → wj_Wr_sameCode_122 y Post a0 a2 s_6 0) ∧ (x_13 = x_14 → wj_Wr_sameCode_122 y Post a0 a2 s_6 1)))))))) ∧ (r_5 = 0 → wj_Wr_sameCode_91 y Post a0 a2 s_6))) s_j64 a0 x_3 a2 x_4))))
def wj_Wr_sameCode_63 (y : Ly) (Post : St → Int32 → Prop) (a0 : Nat) (a2 : Nat) (s_j63 : St) (x1j63 : Int32) (x3j63 : Int32) : Prop := wj_Wr_sameCode_64 y Post a0 a2 s_j63 x1j63 x3j63 0
def wu_Wr_sameCode (y : Ly) (Post : St → Int32 → Prop) (σ : St) (a0 : Nat) (v1 : Int32) (a2 : Nat) (v3 : Int32) : Prop := xA y σ (lk a0 10) 0 v1 (fun x_1 : Int32 => xA y σ (lk a2 10) 0 v3 (fun x_2 : Int32 => ((¬ x_1 = x_2 → wj_Wr_sameCode_63 y Post a0 a2 σ v1 v3) ∧ (x_1 = x_2 → xA y σ (lk a0 10) 0 (v1 + 1) (fun x_15 : Int32 => xA y σ (lk a2 10) 0 (v3 + 1) (fun x_16 : Int32 => ((¬ x_15 = x_16 → wj_Wr_sameCode_63 y Post a0 a2 σ v1 v3) ∧ (x_15 = x_16 → xA y σ (lk a0 10) 0 (v1 + 3) (fun x_17 : Int32 => xA y σ (lk a2 10) 0 (v3 + 3) (fun x_18 : Int32 => ((¬ x_17 = x_18 → wj_Wr_sameCode_63 y Post a0 a2 σ v1 v3) ∧ (x_17 = x_18 → wj_Wr_sameCode_64 y Post a0 a2 σ v1 v3 1))))))))))))
set_option maxHeartbeats 4000000 in
set_option maxRecDepth 100000 in
theorem cu_Wr_sameCode (l : Launch) (D : va_G) (g : Nat → ClassId) (ad : Nat → Nat) (y : Ly) (Post : St → Int32 → Prop) (σ : St) (a0 : Nat) (v1 : Int32) (a2 : Nat) (v3 : Int32) (sz : Nat) (h_a0 : cl a0 = 9) (h_a2 : cl a2 = 9) (h : wu_Wr_sameCode y Post σ a0 v1 a2 v3) : Met l y_Wr_sameCode (mw y_Wr_sameCode b_Wr_sameCode 7 (some (.boolean))) ru_Wr_sameCode (PC g D [] [.ref (ad a0), .int v1, .ref (ad a2), .int v3] sz (ws g ad y σ)) (va_Qi (fun (r : Int32) (u : St) => Post u r) (QW D (va_A (ws g ad y σ) sz) (fun u => ws g ad y u)) (va_A (ws g ad y σ) sz)) 0 0 (va_A (ws g ad y σ) sz) := by
  refine ofZ (by decide +kernel) (Nat.le_of_ble_eq_true rfl) ?_
  intro p e s m args below meth c A Q ls H locs G hsz hP hD hS hl hret
  subst hsz
  have hl : lv_has ls 7 [(0, .ref (ad a0)), (1, .int v1), (2, .ref (ad a2)), (3, .int v3)] := hl
  unfold wu_Wr_sameCode at h
  refine lv_aload_n G.1 G.2.1 d_Wr_sameCode_0 rfl (lv_at hl 0 rfl) ?_
  refine ugf (v := .ref (ad (lk a0 10))) G hP h_a0 iWd rfl 10 (by decide) rfl q846 rfl rfl d_Wr_sameCode_1 ?_
  refine ugf (v := .ref (yP y (lk a0 10) 0)) G hP (lk_9_10 h_a0) iIn rfl 0 (by decide) rfl q386 rfl rfl d_Wr_sameCode_4 ?_
  refine lv_astore (lv' := [(4, .ref (yP y (lk a0 10) 0)), (0, .ref (ad a0)), (1, .int v1), (2, .ref (ad a2)), (3, .int v3)]) G.1 G.2.1 d_Wr_sameCode_7 hl (by decide) rfl (fun ls hl => ?_)
  refine lv_aload_n G.1 G.2.1 d_Wr_sameCode_9 rfl (lv_at hl 3 rfl) ?_
  refine ugf (v := .ref (ad (lk a2 10))) G hP h_a2 iWd rfl 10 (by decide) rfl q846 rfl rfl d_Wr_sameCode_10 ?_
  refine ugf (v := .ref (yP y (lk a2 10) 0)) G hP (lk_9_10 h_a2) iIn rfl 0 (by decide) rfl q386 rfl rfl d_Wr_sameCode_13 ?_
  refine lv_astore (lv' := [(5, .ref (yP y (lk a2 10) 0)), (4, .ref (yP y (lk a0 10) 0)), (0, .ref (ad a0)), (1, .int v1), (2, .ref (ad a2)), (3, .int v3)]) G.1 G.2.1 d_Wr_sameCode_16 hl (by decide) rfl (fun ls hl => ?_)
  refine lv_aload G.1 G.2.1 d_Wr_sameCode_18 (lv_at hl 1 rfl) ?_
  refine lv_iload_n G.1 G.2.1 d_Wr_sameCode_20 rfl (lv_at hl 3 rfl) ?_
  refine uiald G hP (kdp (lk_9_10 h_a0) rfl) (typ (lk_9_10 h_a0) rfl) h d_Wr_sameCode_21 (fun x_1 h => ?_)
  refine W.eq (g2 := F0 m 22 ls [.int x_1]) rfl ?_
  refine lv_aload G.1 G.2.1 d_Wr_sameCode_22 (lv_at hl 0 rfl) ?_
  refine lv_iload_n G.1 G.2.1 d_Wr_sameCode_24 rfl (lv_at hl 5 rfl) ?_
  refine uiald G hP (kdp (lk_9_10 h_a2) rfl) (typ (lk_9_10 h_a2) rfl) h d_Wr_sameCode_25 (fun x_2 h => ?_)
  have J_64 : ∀ (s_j64 : St) (x1j64 : Int32) (x3j64 : Int32) (z0j64 : Int32) (H : Heap) (locs : List Loc), wj_Wr_sameCode_64 y Post a0 a2 s_j64 x1j64 x3j64 z0j64 → va_P D CL (ws g ad y s_j64) H → va_D A (ws g ad y s_j64) → va_S A s.heap H locs → ∀ ls, lv_has ls 7 [(0, .ref (ad a0)), (1, .int x1j64), (2, .ref (ad a2)), (3, .int x3j64), (4, .ref (yP y (lk a0 10) 0)), (5, .ref (yP y (lk a2 10) 0))] → W p l e ru_Wr_sameCode s m args below meth c H locs 0 0 Q (F0 m 64 ls [.int z0j64]) := by
    intro s_j64 x1j64 x3j64 z0j64 H locs h hP hD hS ls hl
    unfold wj_Wr_sameCode_64 at h
    refine lv_istore (lv' := [(6, .int z0j64), (0, .ref (ad a0)), (1, .int x1j64), (2, .ref (ad a2)), (3, .int x3j64), (4, .ref (yP y (lk a0 10) 0)), (5, .ref (yP y (lk a2 10) 0))]) G.1 G.2.1 d_Wr_sameCode_64 hl (by decide) rfl (fun ls hl => ?_)
    refine lv_iload G.1 G.2.1 d_Wr_sameCode_66 (lv_at hl 0 rfl) ?_
    have J_91 : ∀ (s_j91 : St) (H : Heap) (locs : List Loc), wj_Wr_sameCode_91 y Post a0 a2 s_j91 → va_P D CL (ws g ad y s_j91) H → va_D A (ws g ad y s_j91) → va_S A s.heap H locs → ∀ ls, lv_has ls 7 [] → W p l e ru_Wr_sameCode s m args below meth c H locs 0 0 Q (F0 m 91 ls []) := by
      intro s_j91 H locs h hP hD hS ls hl
      unfold wj_Wr_sameCode_91 at h
      refine lv_iconst (v := 0) G.1 G.2.1 d_Wr_sameCode_91 (by decide) ?_
      exact hret _ _ _ _ _ _ _ ls (nb_n h.1) h.2 hP hD hS (Nat.le_refl _) (Nat.le_refl _) d_Wr_sameCode_92
    refine lv_if_eq (tgt := 91) G.1 G.2.1 d_Wr_sameCode_68 (by decide) (fun c68 => ?_) (fun c68 => ?_)
    · skip
      have h := h.1 c68
      exact J_91 s_j64 H locs h hP hD hS ls (lv_sub hl [] rfl)
    · skip
      have h := h.2 c68
      refine lv_aload_n G.1 G.2.1 d_Wr_sameCode_71 rfl (lv_at hl 1 rfl) ?_
      refine lv_aload G.1 G.2.1 d_Wr_sameCode_72 (lv_at hl 5 rfl) ?_
      refine lv_iload_n G.1 G.2.1 d_Wr_sameCode_74 rfl (lv_at hl 2 rfl) ?_
      refine lv_iconst (v := 4) G.1 G.2.1 d_Wr_sameCode_75 (by decide) ?_
      refine lv_iadd G.1 G.2.1 d_Wr_sameCode_76 ?_
      refine uiald G hP (kdp (lk_9_10 h_a0) rfl) (typ (lk_9_10 h_a0) rfl) h d_Wr_sameCode_77 (fun x_3 h => ?_)
      refine lv_aload_n G.1 G.2.1 d_Wr_sameCode_78 rfl (lv_at hl 3 rfl) ?_
      refine lv_aload G.1 G.2.1 d_Wr_sameCode_79 (lv_at hl 6 rfl) ?_
      refine W.eq (g2 := F0 m 81 ls [.ref (yP y (lk a2 10) 0), .ref (ad a2), .int x_3, .ref (ad a0)]) rfl ?_
      refine lv_iload_n G.1 G.2.1 d_Wr_sameCode_81 rfl (lv_at hl 4 rfl) ?_
      refine lv_iconst (v := 4) G.1 G.2.1 d_Wr_sameCode_82 (by decide) ?_
      refine lv_iadd G.1 G.2.1 d_Wr_sameCode_83 ?_
      refine uiald G hP (kdp (lk_9_10 h_a2) rfl) (typ (lk_9_10 h_a2) rfl) h d_Wr_sameCode_84 (fun x_4 h => ?_)
      refine ucSi (As := [.ref (ad a0), .int x_3, .ref (ad a2), .int x_4]) (rest := []) G hP hD hS (cu_Wr_sameFrame l D g ad y _ s_j64 a0 x_3 a2 x_4 H.size h_a0 h_a2 h) w9_Wr_sameFrame q2415 ⟨Nat.le_of_ble_eq_true rfl, Nat.le_of_ble_eq_true rfl⟩ rfl rfl hl.1 rfl (Nat.le_of_ble_eq_true rfl) rfl ⟨Nat.le_refl _, Nat.le_refl _⟩ d_Wr_sameCode_85 (fun r_5 s_6 H locs h hP hD hS => ?_)
      refine lv_if_ne (tgt := 93) G.1 G.2.1 d_Wr_sameCode_88 (by decide) (fun c88 => ?_) (fun c88 => ?_)
      · skip
        have h := h.1 c88
        refine lv_aload G.1 G.2.1 d_Wr_sameCode_93 (lv_at hl 5 rfl) ?_
        refine lv_iload_n G.1 G.2.1 d_Wr_sameCode_95 rfl (lv_at hl 2 rfl) ?_
        refine uiald G hP (kdp (lk_9_10 h_a0) rfl) (typ (lk_9_10 h_a0) rfl) h d_Wr_sameCode_96 (fun x_7 h => ?_)
        refine lv_bipush (v := 40) G.1 G.2.1 d_Wr_sameCode_97 (by decide) ?_
        refine lv_icmp_eq (tgt := 123) G.1 G.2.1 d_Wr_sameCode_99 (by decide) (fun c99 => ?_) (fun c99 => ?_)
        · skip
          have h := h.1 c99
          refine lv_aload_n G.1 G.2.1 d_Wr_sameCode_123 rfl (lv_at hl 1 rfl) ?_
          refine W.eq (g2 := F0 m 124 ls [.ref (ad a0)]) rfl ?_
          refine lv_aload G.1 G.2.1 d_Wr_sameCode_124 (lv_at hl 5 rfl) ?_
          refine lv_iload_n G.1 G.2.1 d_Wr_sameCode_126 rfl (lv_at hl 2 rfl) ?_
          refine lv_iconst (v := 2) G.1 G.2.1 d_Wr_sameCode_127 (by decide) ?_
          refine lv_iadd G.1 G.2.1 d_Wr_sameCode_128 ?_
          refine uiald G hP (kdp (lk_9_10 h_a0) rfl) (typ (lk_9_10 h_a0) rfl) h d_Wr_sameCode_129 (fun x_8 h => ?_)
          refine lv_aload_n G.1 G.2.1 d_Wr_sameCode_130 rfl (lv_at hl 3 rfl) ?_
          refine lv_aload G.1 G.2.1 d_Wr_sameCode_131 (lv_at hl 6 rfl) ?_
          refine lv_iload_n G.1 G.2.1 d_Wr_sameCode_133 rfl (lv_at hl 4 rfl) ?_
          refine lv_iconst (v := 2) G.1 G.2.1 d_Wr_sameCode_134 (by decide) ?_
          refine lv_iadd G.1 G.2.1 d_Wr_sameCode_135 ?_
          refine uiald G hP (kdp (lk_9_10 h_a2) rfl) (typ (lk_9_10 h_a2) rfl) h d_Wr_sameCode_136 (fun x_9 h => ?_)
          refine lv_aload G.1 G.2.1 d_Wr_sameCode_137 (lv_at hl 5 rfl) ?_
          refine W.eq (g2 := F0 m 139 ls [.ref (yP y (lk a0 10) 0), .int x_9, .ref (ad a2), .int x_8, .ref (ad a0)]) rfl ?_
          refine lv_iload_n G.1 G.2.1 d_Wr_sameCode_139 rfl (lv_at hl 2 rfl) ?_
          refine lv_iconst (v := 3) G.1 G.2.1 d_Wr_sameCode_140 (by decide) ?_
          refine lv_iadd G.1 G.2.1 d_Wr_sameCode_141 ?_
          refine uiald G hP (kdp (lk_9_10 h_a0) rfl) (typ (lk_9_10 h_a0) rfl) h d_Wr_sameCode_142 (fun x_10 h => ?_)
          refine ucSi (As := [.ref (ad a0), .int x_8, .ref (ad a2), .int x_9, .int x_10]) (rest := []) G hP hD hS (cu_Wr_sameRow l D g ad y _ s_6 a0 x_8 a2 x_9 x_10 H.size h_a0 h_a2 h) w9_Wr_sameRow q2418 ⟨Nat.le_of_ble_eq_true rfl, Nat.le_of_ble_eq_true rfl⟩ rfl rfl hl.1 rfl (Nat.le_of_ble_eq_true rfl) rfl ⟨Nat.le_refl _, Nat.le_refl _⟩ d_Wr_sameCode_143 (fun r_11 s_12 H locs h hP hD hS => ?_)
          exact hret _ _ _ _ _ _ _ ls (nb_n h.1) h.2 hP hD hS (Nat.le_refl _) (Nat.le_refl _) d_Wr_sameCode_146
        · skip
          have h := h.2 c99
          refine lv_aload G.1 G.2.1 d_Wr_sameCode_102 (lv_at hl 5 rfl) ?_
          refine W.eq (g2 := F0 m 104 ls [.ref (yP y (lk a0 10) 0)]) rfl ?_
          refine lv_iload_n G.1 G.2.1 d_Wr_sameCode_104 rfl (lv_at hl 2 rfl) ?_
          refine lv_iconst (v := 2) G.1 G.2.1 d_Wr_sameCode_105 (by decide) ?_
          refine lv_iadd G.1 G.2.1 d_Wr_sameCode_106 ?_
          refine uiald G hP (kdp (lk_9_10 h_a0) rfl) (typ (lk_9_10 h_a0) rfl) h d_Wr_sameCode_107 (fun x_13 h => ?_)
          refine lv_aload G.1 G.2.1 d_Wr_sameCode_108 (lv_at hl 6 rfl) ?_
          refine lv_iload_n G.1 G.2.1 d_Wr_sameCode_110 rfl (lv_at hl 4 rfl) ?_
          refine lv_iconst (v := 2) G.1 G.2.1 d_Wr_sameCode_111 (by decide) ?_
          refine lv_iadd G.1 G.2.1 d_Wr_sameCode_112 ?_
          refine uiald G hP (kdp (lk_9_10 h_a2) rfl) (typ (lk_9_10 h_a2) rfl) h d_Wr_sameCode_113 (fun x_14 h => ?_)
          have J_122 : ∀ (s_j122 : St) (z0j122 : Int32) (H : Heap) (locs : List Loc), wj_Wr_sameCode_122 y Post a0 a2 s_j122 z0j122 → va_P D CL (ws g ad y s_j122) H → va_D A (ws g ad y s_j122) → va_S A s.heap H locs → ∀ ls, lv_has ls 7 [] → W p l e ru_Wr_sameCode s m args below meth c H locs 0 0 Q (F0 m 122 ls [.int z0j122]) := by
            intro s_j122 z0j122 H locs h hP hD hS ls hl
            unfold wj_Wr_sameCode_122 at h
            exact hret _ _ _ _ _ _ _ ls (nb_n h.1) h.2 hP hD hS (Nat.le_refl _) (Nat.le_refl _) d_Wr_sameCode_122
          refine lv_icmp_ne (tgt := 121) G.1 G.2.1 d_Wr_sameCode_114 (by decide) (fun c114 => ?_) (fun c114 => ?_)
          · skip
            have h := h.1 c114
            refine lv_iconst (v := 0) G.1 G.2.1 d_Wr_sameCode_121 (by decide) ?_
            exact J_122 s_6 0 H locs h hP hD hS ls (lv_sub hl [] rfl)
          · skip
            have h := h.2 c114
            refine lv_iconst (v := 1) G.1 G.2.1 d_Wr_sameCode_117 (by decide) ?_
            refine lv_goto (tgt := 122) G.1 G.2.1 d_Wr_sameCode_118 (by decide) ?_
            exact J_122 s_6 1 H locs h hP hD hS ls (lv_sub hl [] rfl)
      · skip
        have h := h.2 c88
        exact J_91 s_6 H locs h hP hD hS ls (lv_sub hl [] rfl)
  have J_63 : ∀ (s_j63 : St) (x1j63 : Int32) (x3j63 : Int32) (H : Heap) (locs : List Loc), wj_Wr_sameCode_63 y Post a0 a2 s_j63 x1j63 x3j63 → va_P D CL (ws g ad y s_j63) H → va_D A (ws g ad y s_j63) → va_S A s.heap H locs → ∀ ls, lv_has ls 7 [(0, .ref (ad a0)), (1, .int x1j63), (2, .ref (ad a2)), (3, .int x3j63), (4, .ref (yP y (lk a0 10) 0)), (5, .ref (yP y (lk a2 10) 0))] → W p l e ru_Wr_sameCode s m args below meth c H locs 0 0 Q (F0 m 63 ls []) := by
    intro s_j63 x1j63 x3j63 H locs h hP hD hS ls hl
    unfold wj_Wr_sameCode_63 at h
    refine lv_iconst (v := 0) G.1 G.2.1 d_Wr_sameCode_63 (by decide) ?_
    exact J_64 s_j63 x1j63 x3j63 0 H locs h hP hD hS ls (lv_sub hl [0, 1, 2, 3, 4, 5] rfl)
  refine lv_icmp_ne (tgt := 63) G.1 G.2.1 d_Wr_sameCode_26 (by decide) (fun c26 => ?_) (fun c26 => ?_)
  · skip
    have h := h.1 c26
    exact J_63 σ v1 v3 H locs h hP hD hS ls (lv_sub hl [2, 3, 4, 5, 1, 0] rfl)
  · skip
    have h := h.2 c26
    refine lv_aload G.1 G.2.1 d_Wr_sameCode_29 (lv_at hl 1 rfl) ?_
    refine lv_iload_n G.1 G.2.1 d_Wr_sameCode_31 rfl (lv_at hl 3 rfl) ?_
    refine lv_iconst (v := 1) G.1 G.2.1 d_Wr_sameCode_32 (by decide) ?_
    refine lv_iadd G.1 G.2.1 d_Wr_sameCode_33 ?_
    refine uiald G hP (kdp (lk_9_10 h_a0) rfl) (typ (lk_9_10 h_a0) rfl) h d_Wr_sameCode_34 (fun x_15 h => ?_)
    refine lv_aload G.1 G.2.1 d_Wr_sameCode_35 (lv_at hl 0 rfl) ?_
    refine lv_iload_n G.1 G.2.1 d_Wr_sameCode_37 rfl (lv_at hl 5 rfl) ?_
    refine lv_iconst (v := 1) G.1 G.2.1 d_Wr_sameCode_38 (by decide) ?_
    refine W.eq (g2 := F0 m 39 ls [.int 1, .int v3, .ref (yP y (lk a2 10) 0), .int x_15]) rfl ?_
    refine lv_iadd G.1 G.2.1 d_Wr_sameCode_39 ?_
    refine uiald G hP (kdp (lk_9_10 h_a2) rfl) (typ (lk_9_10 h_a2) rfl) h d_Wr_sameCode_40 (fun x_16 h => ?_)
    refine lv_icmp_ne (tgt := 63) G.1 G.2.1 d_Wr_sameCode_41 (by decide) (fun c41 => ?_) (fun c41 => ?_)
    · skip
      have h := h.1 c41
      exact J_63 σ v1 v3 H locs h hP hD hS ls (lv_sub hl [2, 3, 4, 5, 1, 0] rfl)
    · skip
      have h := h.2 c41
      refine lv_aload G.1 G.2.1 d_Wr_sameCode_44 (lv_at hl 1 rfl) ?_
      refine lv_iload_n G.1 G.2.1 d_Wr_sameCode_46 rfl (lv_at hl 3 rfl) ?_
      refine lv_iconst (v := 3) G.1 G.2.1 d_Wr_sameCode_47 (by decide) ?_
      refine lv_iadd G.1 G.2.1 d_Wr_sameCode_48 ?_
      refine uiald G hP (kdp (lk_9_10 h_a0) rfl) (typ (lk_9_10 h_a0) rfl) h d_Wr_sameCode_49 (fun x_17 h => ?_)
      refine lv_aload G.1 G.2.1 d_Wr_sameCode_50 (lv_at hl 0 rfl) ?_
      refine lv_iload_n G.1 G.2.1 d_Wr_sameCode_52 rfl (lv_at hl 5 rfl) ?_
      refine lv_iconst (v := 3) G.1 G.2.1 d_Wr_sameCode_53 (by decide) ?_
      refine lv_iadd G.1 G.2.1 d_Wr_sameCode_54 ?_
      refine W.eq (g2 := F0 m 55 ls [.int (v3 + 3), .ref (yP y (lk a2 10) 0), .int x_17]) rfl ?_
      refine uiald G hP (kdp (lk_9_10 h_a2) rfl) (typ (lk_9_10 h_a2) rfl) h d_Wr_sameCode_55 (fun x_18 h => ?_)
      refine lv_icmp_ne (tgt := 63) G.1 G.2.1 d_Wr_sameCode_56 (by decide) (fun c56 => ?_) (fun c56 => ?_)
      · skip
        have h := h.1 c56
        exact J_63 σ v1 v3 H locs h hP hD hS ls (lv_sub hl [2, 3, 4, 5, 1, 0] rfl)
      · skip
        have h := h.2 c56
        refine lv_iconst (v := 1) G.1 G.2.1 d_Wr_sameCode_59 (by decide) ?_
        refine lv_goto (tgt := 64) G.1 G.2.1 d_Wr_sameCode_60 (by decide) ?_
        exact J_64 σ v1 v3 1 H locs h hP hD hS ls (lv_sub hl [2, 3, 4, 5, 1, 0] rfl)
theorem q841 : Cond.fieldLink "ClassWorks$Writer" 204 "ClassWorks$World" "methods" "LClassWorks$Ints;" ∈ lw_ok := lw_okmem (List.mem_of_getElem? (i := 841) (by decide +kernel)) rfl
theorem q2412 : Cond.methodLink "ClassWorks$Writer" 207 y_Wr_sameCode ∈ lw_ok := lw_okmem (List.mem_of_getElem? (i := 2412) (by decide +kernel)) rfl
theorem q2414 : Cond.code y_Wr_sameCode b_Wr_sameCode 7 (some (.boolean)) ∈ lw_ok := lw_okmem (List.mem_of_getElem? (i := 2414) (by decide +kernel)) rfl
theorem q2413 : Cond.static y_Wr_sameCode ∈ lw_ok := lw_okmem (List.mem_of_getElem? (i := 2413) (by decide +kernel)) rfl
theorem w9_Wr_sameCode : CWv y_Wr_sameCode b_Wr_sameCode 7 (some (.boolean)) 4 ∧ Cond.static y_Wr_sameCode ∈ lw_ok := ⟨⟨q2414, q343, by decide +kernel, by decide +kernel, by decide +kernel⟩, q2413⟩
def y_Wr_sameMethod : MethodName := ⟨"ClassWorks$Writer", "sameMethod", "(LClassWorks$World;ILClassWorks$World;I)Z"⟩
abbrev b_Wr_sameMethod : ByteArray := prog_12_method_29_code
theorem d_Wr_sameMethod_0 : decode b_Wr_sameMethod 0 = .ok (.aload_n 0, 1) := by decide +kernel
theorem d_Wr_sameMethod_1 : decode b_Wr_sameMethod 1 = .ok (.getfield 204, 3) := by decide +kernel
theorem d_Wr_sameMethod_4 : decode b_Wr_sameMethod 4 = .ok (.getfield 141, 3) := by decide +kernel
theorem d_Wr_sameMethod_7 : decode b_Wr_sameMethod 7 = .ok (.astore 4, 2) := by decide +kernel
theorem d_Wr_sameMethod_9 : decode b_Wr_sameMethod 9 = .ok (.aload_n 2, 1) := by decide +kernel
theorem d_Wr_sameMethod_10 : decode b_Wr_sameMethod 10 = .ok (.getfield 204, 3) := by decide +kernel
theorem d_Wr_sameMethod_13 : decode b_Wr_sameMethod 13 = .ok (.getfield 141, 3) := by decide +kernel
theorem d_Wr_sameMethod_16 : decode b_Wr_sameMethod 16 = .ok (.astore 5, 2) := by decide +kernel
theorem d_Wr_sameMethod_18 : decode b_Wr_sameMethod 18 = .ok (.aload 4, 2) := by decide +kernel
theorem d_Wr_sameMethod_20 : decode b_Wr_sameMethod 20 = .ok (.iload_n 1, 1) := by decide +kernel
theorem d_Wr_sameMethod_21 : decode b_Wr_sameMethod 21 = .ok (.iconst 1, 1) := by decide +kernel
theorem d_Wr_sameMethod_22 : decode b_Wr_sameMethod 22 = .ok (.iadd, 1) := by decide +kernel
theorem d_Wr_sameMethod_23 : decode b_Wr_sameMethod 23 = .ok (.iaload, 1) := by decide +kernel
theorem d_Wr_sameMethod_24 : decode b_Wr_sameMethod 24 = .ok (.aload 5, 2) := by decide +kernel
theorem d_Wr_sameMethod_26 : decode b_Wr_sameMethod 26 = .ok (.iload_n 3, 1) := by decide +kernel
theorem d_Wr_sameMethod_27 : decode b_Wr_sameMethod 27 = .ok (.iconst 1, 1) := by decide +kernel
theorem d_Wr_sameMethod_28 : decode b_Wr_sameMethod 28 = .ok (.iadd, 1) := by decide +kernel
theorem d_Wr_sameMethod_29 : decode b_Wr_sameMethod 29 = .ok (.iaload, 1) := by decide +kernel
theorem d_Wr_sameMethod_30 : decode b_Wr_sameMethod 30 = .ok (.if_icmp .ne 69, 3) := by decide +kernel
theorem d_Wr_sameMethod_33 : decode b_Wr_sameMethod 33 = .ok (.aload 4, 2) := by decide +kernel
theorem d_Wr_sameMethod_35 : decode b_Wr_sameMethod 35 = .ok (.iload_n 1, 1) := by decide +kernel
theorem d_Wr_sameMethod_36 : decode b_Wr_sameMethod 36 = .ok (.iconst 2, 1) := by decide +kernel
theorem d_Wr_sameMethod_37 : decode b_Wr_sameMethod 37 = .ok (.iadd, 1) := by decide +kernel
theorem d_Wr_sameMethod_38 : decode b_Wr_sameMethod 38 = .ok (.iaload, 1) := by decide +kernel
theorem d_Wr_sameMethod_39 : decode b_Wr_sameMethod 39 = .ok (.aload 5, 2) := by decide +kernel
theorem d_Wr_sameMethod_41 : decode b_Wr_sameMethod 41 = .ok (.iload_n 3, 1) := by decide +kernel
theorem d_Wr_sameMethod_42 : decode b_Wr_sameMethod 42 = .ok (.iconst 2, 1) := by decide +kernel
theorem d_Wr_sameMethod_43 : decode b_Wr_sameMethod 43 = .ok (.iadd, 1) := by decide +kernel
theorem d_Wr_sameMethod_44 : decode b_Wr_sameMethod 44 = .ok (.iaload, 1) := by decide +kernel
theorem d_Wr_sameMethod_45 : decode b_Wr_sameMethod 45 = .ok (.if_icmp .ne 54, 3) := by decide +kernel
theorem d_Wr_sameMethod_48 : decode b_Wr_sameMethod 48 = .ok (.aload 4, 2) := by decide +kernel
theorem d_Wr_sameMethod_50 : decode b_Wr_sameMethod 50 = .ok (.iload_n 1, 1) := by decide +kernel
theorem d_Wr_sameMethod_51 : decode b_Wr_sameMethod 51 = .ok (.iconst 3, 1) := by decide +kernel
theorem d_Wr_sameMethod_52 : decode b_Wr_sameMethod 52 = .ok (.iadd, 1) := by decide +kernel
theorem d_Wr_sameMethod_53 : decode b_Wr_sameMethod 53 = .ok (.iaload, 1) := by decide +kernel
theorem d_Wr_sameMethod_54 : decode b_Wr_sameMethod 54 = .ok (.aload 5, 2) := by decide +kernel
theorem d_Wr_sameMethod_56 : decode b_Wr_sameMethod 56 = .ok (.iload_n 3, 1) := by decide +kernel
theorem d_Wr_sameMethod_57 : decode b_Wr_sameMethod 57 = .ok (.iconst 3, 1) := by decide +kernel
theorem d_Wr_sameMethod_58 : decode b_Wr_sameMethod 58 = .ok (.iadd, 1) := by decide +kernel
theorem d_Wr_sameMethod_59 : decode b_Wr_sameMethod 59 = .ok (.iaload, 1) := by decide +kernel
theorem d_Wr_sameMethod_60 : decode b_Wr_sameMethod 60 = .ok (.if_icmp .ne 39, 3) := by decide +kernel
theorem d_Wr_sameMethod_63 : decode b_Wr_sameMethod 63 = .ok (.aload 4, 2) := by decide +kernel
theorem d_Wr_sameMethod_65 : decode b_Wr_sameMethod 65 = .ok (.iload_n 1, 1) := by decide +kernel
theorem d_Wr_sameMethod_66 : decode b_Wr_sameMethod 66 = .ok (.iconst 5, 1) := by decide +kernel
theorem d_Wr_sameMethod_67 : decode b_Wr_sameMethod 67 = .ok (.iadd, 1) := by decide +kernel
theorem d_Wr_sameMethod_68 : decode b_Wr_sameMethod 68 = .ok (.iaload, 1) := by decide +kernel
theorem d_Wr_sameMethod_69 : decode b_Wr_sameMethod 69 = .ok (.aload 5, 2) := by decide +kernel
theorem d_Wr_sameMethod_71 : decode b_Wr_sameMethod 71 = .ok (.iload_n 3, 1) := by decide +kernel
theorem d_Wr_sameMethod_72 : decode b_Wr_sameMethod 72 = .ok (.iconst 5, 1) := by decide +kernel
theorem d_Wr_sameMethod_73 : decode b_Wr_sameMethod 73 = .ok (.iadd, 1) := by decide +kernel
theorem d_Wr_sameMethod_74 : decode b_Wr_sameMethod 74 = .ok (.iaload, 1) := by decide +kernel
theorem d_Wr_sameMethod_75 : decode b_Wr_sameMethod 75 = .ok (.if_icmp .ne 24, 3) := by decide +kernel
theorem d_Wr_sameMethod_78 : decode b_Wr_sameMethod 78 = .ok (.aload 4, 2) := by decide +kernel
theorem d_Wr_sameMethod_80 : decode b_Wr_sameMethod 80 = .ok (.iload_n 1, 1) := by decide +kernel
theorem d_Wr_sameMethod_81 : decode b_Wr_sameMethod 81 = .ok (.bipush 7, 2) := by decide +kernel
theorem d_Wr_sameMethod_83 : decode b_Wr_sameMethod 83 = .ok (.iadd, 1) := by decide +kernel
theorem d_Wr_sameMethod_84 : decode b_Wr_sameMethod 84 = .ok (.iaload, 1) := by decide +kernel
theorem d_Wr_sameMethod_85 : decode b_Wr_sameMethod 85 = .ok (.aload 5, 2) := by decide +kernel
theorem d_Wr_sameMethod_87 : decode b_Wr_sameMethod 87 = .ok (.iload_n 3, 1) := by decide +kernel
theorem d_Wr_sameMethod_88 : decode b_Wr_sameMethod 88 = .ok (.bipush 7, 2) := by decide +kernel
theorem d_Wr_sameMethod_90 : decode b_Wr_sameMethod 90 = .ok (.iadd, 1) := by decide +kernel
theorem d_Wr_sameMethod_91 : decode b_Wr_sameMethod 91 = .ok (.iaload, 1) := by decide +kernel
theorem d_Wr_sameMethod_92 : decode b_Wr_sameMethod 92 = .ok (.if_icmp .ne 7, 3) := by decide +kernel
theorem d_Wr_sameMethod_95 : decode b_Wr_sameMethod 95 = .ok (.iconst 1, 1) := by decide +kernel
theorem d_Wr_sameMethod_96 : decode b_Wr_sameMethod 96 = .ok (.goto 4, 3) := by decide +kernel
theorem d_Wr_sameMethod_99 : decode b_Wr_sameMethod 99 = .ok (.iconst 0, 1) := by decide +kernel
theorem d_Wr_sameMethod_100 : decode b_Wr_sameMethod 100 = .ok (.istore 6, 2) := by decide +kernel
theorem d_Wr_sameMethod_102 : decode b_Wr_sameMethod 102 = .ok (.iconst 0, 1) := by decide +kernel
theorem d_Wr_sameMethod_103 : decode b_Wr_sameMethod 103 = .ok (.istore 7, 2) := by decide +kernel
theorem d_Wr_sameMethod_105 : decode b_Wr_sameMethod 105 = .ok (.iload 6, 2) := by decide +kernel
theorem d_Wr_sameMethod_107 : decode b_Wr_sameMethod 107 = .ok (.ifCond .eq 69, 3) := by decide +kernel
theorem d_Wr_sameMethod_110 : decode b_Wr_sameMethod 110 = .ok (.iload 7, 2) := by decide +kernel
theorem d_Wr_sameMethod_112 : decode b_Wr_sameMethod 112 = .ok (.aload 4, 2) := by decide +kernel
theorem d_Wr_sameMethod_114 : decode b_Wr_sameMethod 114 = .ok (.iload_n 1, 1) := by decide +kernel
theorem d_Wr_sameMethod_115 : decode b_Wr_sameMethod 115 = .ok (.bipush 7, 2) := by decide +kernel
theorem d_Wr_sameMethod_117 : decode b_Wr_sameMethod 117 = .ok (.iadd, 1) := by decide +kernel
theorem d_Wr_sameMethod_118 : decode b_Wr_sameMethod 118 = .ok (.iaload, 1) := by decide +kernel
theorem d_Wr_sameMethod_119 : decode b_Wr_sameMethod 119 = .ok (.iconst 4, 1) := by decide +kernel
theorem d_Wr_sameMethod_120 : decode b_Wr_sameMethod 120 = .ok (.imul, 1) := by decide +kernel
theorem d_Wr_sameMethod_121 : decode b_Wr_sameMethod 121 = .ok (.if_icmp .ge 55, 3) := by decide +kernel
theorem d_Wr_sameMethod_124 : decode b_Wr_sameMethod 124 = .ok (.aload_n 0, 1) := by decide +kernel
theorem d_Wr_sameMethod_125 : decode b_Wr_sameMethod 125 = .ok (.getfield 147, 3) := by decide +kernel
theorem d_Wr_sameMethod_128 : decode b_Wr_sameMethod 128 = .ok (.getfield 141, 3) := by decide +kernel
theorem d_Wr_sameMethod_131 : decode b_Wr_sameMethod 131 = .ok (.aload 4, 2) := by decide +kernel
theorem d_Wr_sameMethod_133 : decode b_Wr_sameMethod 133 = .ok (.iload_n 1, 1) := by decide +kernel
theorem d_Wr_sameMethod_134 : decode b_Wr_sameMethod 134 = .ok (.bipush 6, 2) := by decide +kernel
theorem d_Wr_sameMethod_136 : decode b_Wr_sameMethod 136 = .ok (.iadd, 1) := by decide +kernel
theorem d_Wr_sameMethod_137 : decode b_Wr_sameMethod 137 = .ok (.iaload, 1) := by decide +kernel
theorem d_Wr_sameMethod_138 : decode b_Wr_sameMethod 138 = .ok (.iload 7, 2) := by decide +kernel
theorem d_Wr_sameMethod_140 : decode b_Wr_sameMethod 140 = .ok (.iadd, 1) := by decide +kernel
theorem d_Wr_sameMethod_141 : decode b_Wr_sameMethod 141 = .ok (.iaload, 1) := by decide +kernel
theorem d_Wr_sameMethod_142 : decode b_Wr_sameMethod 142 = .ok (.aload_n 2, 1) := by decide +kernel
theorem d_Wr_sameMethod_143 : decode b_Wr_sameMethod 143 = .ok (.getfield 147, 3) := by decide +kernel
theorem d_Wr_sameMethod_146 : decode b_Wr_sameMethod 146 = .ok (.getfield 141, 3) := by decide +kernel
theorem d_Wr_sameMethod_149 : decode b_Wr_sameMethod 149 = .ok (.aload 5, 2) := by decide +kernel
theorem d_Wr_sameMethod_151 : decode b_Wr_sameMethod 151 = .ok (.iload_n 3, 1) := by decide +kernel
theorem d_Wr_sameMethod_152 : decode b_Wr_sameMethod 152 = .ok (.bipush 6, 2) := by decide +kernel
theorem d_Wr_sameMethod_154 : decode b_Wr_sameMethod 154 = .ok (.iadd, 1) := by decide +kernel
theorem d_Wr_sameMethod_155 : decode b_Wr_sameMethod 155 = .ok (.iaload, 1) := by decide +kernel
theorem d_Wr_sameMethod_156 : decode b_Wr_sameMethod 156 = .ok (.iload 7, 2) := by decide +kernel
theorem d_Wr_sameMethod_158 : decode b_Wr_sameMethod 158 = .ok (.iadd, 1) := by decide +kernel
theorem d_Wr_sameMethod_159 : decode b_Wr_sameMethod 159 = .ok (.iaload, 1) := by decide +kernel
theorem d_Wr_sameMethod_160 : decode b_Wr_sameMethod 160 = .ok (.if_icmp .ne 7, 3) := by decide +kernel
theorem d_Wr_sameMethod_163 : decode b_Wr_sameMethod 163 = .ok (.iconst 1, 1) := by decide +kernel
theorem d_Wr_sameMethod_164 : decode b_Wr_sameMethod 164 = .ok (.goto 4, 3) := by decide +kernel
theorem d_Wr_sameMethod_167 : decode b_Wr_sameMethod 167 = .ok (.iconst 0, 1) := by decide +kernel
theorem d_Wr_sameMethod_168 : decode b_Wr_sameMethod 168 = .ok (.istore 6, 2) := by decide +kernel
theorem d_Wr_sameMethod_170 : decode b_Wr_sameMethod 170 = .ok (.iinc 7 1, 3) := by decide +kernel
theorem d_Wr_sameMethod_173 : decode b_Wr_sameMethod 173 = .ok (.goto (-68), 3) := by decide +kernel
theorem d_Wr_sameMethod_176 : decode b_Wr_sameMethod 176 = .ok (.iconst 0, 1) := by decide +kernel
theorem d_Wr_sameMethod_177 : decode b_Wr_sameMethod 177 = .ok (.istore 7, 2) := by decide +kernel
theorem d_Wr_sameMethod_179 : decode b_Wr_sameMethod 179 = .ok (.iload 6, 2) := by decide +kernel
theorem d_Wr_sameMethod_181 : decode b_Wr_sameMethod 181 = .ok (.ifCond .eq 49, 3) := by decide +kernel
theorem d_Wr_sameMethod_184 : decode b_Wr_sameMethod 184 = .ok (.iload 7, 2) := by decide +kernel
theorem d_Wr_sameMethod_186 : decode b_Wr_sameMethod 186 = .ok (.aload 4, 2) := by decide +kernel
theorem d_Wr_sameMethod_188 : decode b_Wr_sameMethod 188 = .ok (.iload_n 1, 1) := by decide +kernel
theorem d_Wr_sameMethod_189 : decode b_Wr_sameMethod 189 = .ok (.iconst 5, 1) := by decide +kernel
theorem d_Wr_sameMethod_190 : decode b_Wr_sameMethod 190 = .ok (.iadd, 1) := by decide +kernel
theorem d_Wr_sameMethod_191 : decode b_Wr_sameMethod 191 = .ok (.iaload, 1) := by decide +kernel
theorem d_Wr_sameMethod_192 : decode b_Wr_sameMethod 192 = .ok (.if_icmp .ge 38, 3) := by decide +kernel
theorem d_Wr_sameMethod_195 : decode b_Wr_sameMethod 195 = .ok (.aload_n 0, 1) := by decide +kernel
theorem d_Wr_sameMethod_196 : decode b_Wr_sameMethod 196 = .ok (.aload 4, 2) := by decide +kernel
theorem d_Wr_sameMethod_198 : decode b_Wr_sameMethod 198 = .ok (.iload_n 1, 1) := by decide +kernel
theorem d_Wr_sameMethod_199 : decode b_Wr_sameMethod 199 = .ok (.iconst 4, 1) := by decide +kernel
theorem d_Wr_sameMethod_200 : decode b_Wr_sameMethod 200 = .ok (.iadd, 1) := by decide +kernel
theorem d_Wr_sameMethod_201 : decode b_Wr_sameMethod 201 = .ok (.iaload, 1) := by decide +kernel
theorem d_Wr_sameMethod_202 : decode b_Wr_sameMethod 202 = .ok (.iload 7, 2) := by decide +kernel
theorem d_Wr_sameMethod_204 : decode b_Wr_sameMethod 204 = .ok (.iconst 5, 1) := by decide +kernel
theorem d_Wr_sameMethod_205 : decode b_Wr_sameMethod 205 = .ok (.imul, 1) := by decide +kernel
theorem d_Wr_sameMethod_206 : decode b_Wr_sameMethod 206 = .ok (.iadd, 1) := by decide +kernel
theorem d_Wr_sameMethod_207 : decode b_Wr_sameMethod 207 = .ok (.aload_n 2, 1) := by decide +kernel
theorem d_Wr_sameMethod_208 : decode b_Wr_sameMethod 208 = .ok (.aload 5, 2) := by decide +kernel
theorem d_Wr_sameMethod_210 : decode b_Wr_sameMethod 210 = .ok (.iload_n 3, 1) := by decide +kernel
theorem d_Wr_sameMethod_211 : decode b_Wr_sameMethod 211 = .ok (.iconst 4, 1) := by decide +kernel
theorem d_Wr_sameMethod_212 : decode b_Wr_sameMethod 212 = .ok (.iadd, 1) := by decide +kernel
theorem d_Wr_sameMethod_213 : decode b_Wr_sameMethod 213 = .ok (.iaload, 1) := by decide +kernel
theorem d_Wr_sameMethod_214 : decode b_Wr_sameMethod 214 = .ok (.iload 7, 2) := by decide +kernel
theorem d_Wr_sameMethod_216 : decode b_Wr_sameMethod 216 = .ok (.iconst 5, 1) := by decide +kernel
theorem d_Wr_sameMethod_217 : decode b_Wr_sameMethod 217 = .ok (.imul, 1) := by decide +kernel
theorem d_Wr_sameMethod_218 : decode b_Wr_sameMethod 218 = .ok (.iadd, 1) := by decide +kernel
theorem d_Wr_sameMethod_219 : decode b_Wr_sameMethod 219 = .ok (.invokestatic 207, 3) := by decide +kernel
theorem d_Wr_sameMethod_222 : decode b_Wr_sameMethod 222 = .ok (.istore 6, 2) := by decide +kernel
theorem d_Wr_sameMethod_224 : decode b_Wr_sameMethod 224 = .ok (.iinc 7 1, 3) := by decide +kernel
theorem d_Wr_sameMethod_227 : decode b_Wr_sameMethod 227 = .ok (.goto (-48), 3) := by decide +kernel
theorem d_Wr_sameMethod_230 : decode b_Wr_sameMethod 230 = .ok (.iload 6, 2) := by decide +kernel
theorem d_Wr_sameMethod_232 : decode b_Wr_sameMethod 232 = .ok (.ireturn, 1) := by decide +kernel
abbrev ru_Wr_sameMethod : Room := { frames := 3, cells := 0, slots := 0, locals := 76 }
def wj_Wr_sameMethod_230 (y : Ly) (Post : St → Int32 → Prop) (a0 : Nat) (a2 : Nat) (s_j230 : St) (x6j230 : Int32) : Prop := (nb x6j230 ∧ Post s_j230 x6j230)
def wb_Wr_sameMethod_179 (y : Ly) (Post : St → Int32 → Prop) (K_179 : St → Int32 → Int32 → Int32 → Int32 → Prop) (a0 : Nat) (a2 : Nat) (s_h179 : St) (x1h179 : Int32) (x3h179 : Int32) (x6h179 : Int32) (x7h179 : Int32) : Prop := ((x6h179 = 0 → wj_Wr_sameMethod_230 y Post a0 a2 s_h179 x6h179) ∧ (¬ (x6h179 = 0) → xA y s_h179 (lk a0 9) 0 (x1h179 + 5) (fun x_3 : Int32 => ((x_3 ≤ x7h179 → wj_Wr_sameMethod_230 y Post a0 a2 s_h179 x6h179) ∧ (¬ (x_3 ≤ x7h179) → xA y s_h179 (lk a0 9) 0 (x1h179 + 4) (fun x_4 : Int32 => xA y s_h179 (lk a2 9) 0 (x3h179 + 4) (fun x_5 : Int32 => wu_Wr_sameCode y (fun (s_7 : St) (r_6 : Int32) => K_179 s_7 x1h179 x3h179 r_6 (x7h179 + 1)) s_h179 a0 (x_4 + (x7h179 * 5)) a2 (x_5 + (x7h179 * 5)))))))))
def wl_Wr_sameMethod_179 (y : Ly) (Post : St → Int32 → Prop) (a0 : Nat) (a2 : Nat) (s_h179 : St) (x1h179 : Int32) (x3h179 : Int32) (x6h179 : Int32) (x7h179 : Int32) : Prop := ∃ (I : St → Int32 → Int32 → Int32 → Int32 → Prop) (μ : St → Int32 → Int32 → Int32 → Int32 → Nat), I s_h179 x1h179 x3h179 x6h179 x7h179 ∧ ∀ (u : St) (t0 : Int32) (t1 : Int32) (t2 : Int32) (t3 : Int32), I u t0 t1 t2 t3 → wb_Wr_sameMethod_179 y Post (fun z t0q t1q t2q t3q => I z t0q t1q t2q t3q ∧ μ z t0q t1q t2q t3q < μ u t0 t1 t2 t3) a0 a2 u t0 t1 t2 t3
def wj_Wr_sameMethod_176 (y : Ly) (Post : St → Int32 → Prop) (a0 : Nat) (a2 : Nat) (s_j176 : St) (x1j176 : Int32) (x3j176 : Int32) (x6j176 : Int32) : Prop := wl_Wr_sameMethod_179 y Post a0 a2 s_j176 x1j176 x3j176 x6j176 0
def wj_Wr_sameMethod_168 (y : Ly) (Post : St → Int32 → Prop) (K_105 : St → Int32 → Int32 → Int32 → Int32 → Prop) (a0 : Nat) (a2 : Nat) (s_j168 : St) (x1j168 : Int32) (x3j168 : Int32) (x7j168 : Int32) (z0j168 : Int32) : Prop := K_105 s_j168 x1j168 x3j168 z0j168 (x7j168 + 1)
def wb_Wr_sameMethod_105 (y : Ly) (Post : St → Int32 → Prop) (K_105 : St → Int32 → Int32 → Int32 → Int32 → Prop) (a0 : Nat) (a2 : Nat) (s_h105 : St) (x1h105 : Int32) (x3h105 : Int32) (x6h105 : Int32) (x7h105 : Int32) : Prop := ((x6h105 = 0 → wj_Wr_sameMethod_176 y Post a0 a2 s_h105 x1h105 x3h105 x6h105) ∧ (¬ (x6h105 = 0) → xA y s_h105 (lk a0 9) 0 (x1h105 + 7) (fun x_8 : Int32 => (((x_8 * 4) ≤ x7h105 → wj_Wr_sameMethod_176 y Post a0 a2 s_h105 x1h105 x3h105 x6h105) ∧ (¬ ((x_8 * 4) ≤ x7h105) → xA y s_h105 (lk a0 9) 0 (x1h105 + 6) (fun x_9 : Int32 => xA y s_h105 (lk a0 11) 0 (x_9 + x7h105) (fun x_10 : Int32 => xA y s_h105 (lk a2 9) 0 (x3h105 + 6) (fun x_11 : Int32 => xA y s_h105 (lk a2 11) 0 (x_11 + x7h105) (fun x_12 : Int32 => ((¬ x_10 = x_12 → wj_Wr_sameMethod_168 y Post K_105 a0 a2 s_h105 x1h105 x3h105 x7h105 0) ∧ (x_10 = x_12 → wj_Wr_sameMethod_168 y Post K_105 a0 a2 s_h105 x1h105 x3h105 x7h105 1)))))))))))
def wl_Wr_sameMethod_105 (y : Ly) (Post : St → Int32 → Prop) (a0 : Nat) (a2 : Nat) (s_h105 : St) (x1h105 : Int32) (x3h105 : Int32) (x6h105 : Int32) (x7h105 : Int32) : Prop := ∃ (I : St → Int32 → Int32 → Int32 → Int32 → Prop) (μ : St → Int32 → Int32 → Int32 → Int32 → Nat), I s_h105 x1h105 x3h105 x6h105 x7h105 ∧ ∀ (u : St) (t0 : Int32) (t1 : Int32) (t2 : Int32) (t3 : Int32), I u t0 t1 t2 t3 → wb_Wr_sameMethod_105 y Post (fun z t0q t1q t2q t3q => I z t0q t1q t2q t3q ∧ μ z t0q t1q t2q t3q < μ u t0 t1 t2 t3) a0 a2 u t0 t1 t2 t3
def wj_Wr_sameMethod_100 (y : Ly) (Post : St → Int32 → Prop) (a0 : Nat) (a2 : Nat) (s_j100 : St) (x1j100 : Int32) (x3j100 : Int32) (z0j100 : Int32) : Prop := wl_Wr_sameMethod_105 y Post a0 a2 s_j100 x1j100 x3j100 z0j100 0
def wj_Wr_sameMethod_99 (y : Ly) (Post : St → Int32 → Prop) (a0 : Nat) (a2 : Nat) (s_j99 : St) (x1j99 : Int32) (x3j99 : Int32) : Prop := wj_Wr_sameMethod_100 y Post a0 a2 s_j99 x1j99 x3j99 0
def wu_Wr_sameMethod (y : Ly) (Post : St → Int32 → Prop) (σ : St) (a0 : Nat) (v1 : Int32) (a2 : Nat) (v3 : Int32) : Prop := xA y σ (lk a0 9) 0 (v1 + 1) (fun x_1 : Int32 => xA y σ (lk a2 9) 0 (v3 + 1) (fun x_2 : Int32 => ((¬ x_1 = x_2 → wj_Wr_sameMethod_99 y Post a0 a2 σ v1 v3) ∧ (x_1 = x_2 → xA y σ (lk a0 9) 0 (v1 + 2) (fun x_13 : Int32 => xA y σ (lk a2 9) 0 (v3 + 2) (fun x_14 : Int32 => ((¬ x_13 = x_14 → wj_Wr_sameMethod_99 y Post a0 a2 σ v1 v3) ∧ (x_13 = x_14 → xA y σ (lk a0 9) 0 (v1 + 3) (fun x_15 : Int32 => xA y σ (lk a2 9) 0 (v3 + 3) (fun x_16 : Int32 => ((¬ x_15 = x_16 → wj_Wr_sameMethod_99 y Post a0 a2 σ v1 v3) ∧ (x_15 = x_16 → xA y σ (lk a0 9) 0 (v1 + 5) (fun x_17 : Int32 => xA y σ (lk a2 9) 0 (v3 + 5) (fun x_18 : Int32 => ((¬ x_17 = x_18 → wj_Wr_sameMethod_99 y Post a0 a2 σ v1 v3) ∧ (x_17 = x_18 → xA y σ (lk a0 9) 0 (v1 + 7) (fun x_19 : Int32 => xA y σ (lk a2 9) 0 (v3 + 7) (fun x_20 : Int32 => ((¬ x_19 = x_20 → wj_Wr_sameMethod_99 y Post a0 a2 σ v1 v3) ∧ (x_19 = x_20 → wj_Wr_sameMethod_100 y Post a0 a2 σ v1 v3 1))))))))))))))))))))
set_option maxHeartbeats 4000000 in
set_option maxRecDepth 100000 in
theorem cu_Wr_sameMethod (l : Launch) (D : va_G) (g : Nat → ClassId) (ad : Nat → Nat) (y : Ly) (Post : St → Int32 → Prop) (σ : St) (a0 : Nat) (v1 : Int32) (a2 : Nat) (v3 : Int32) (sz : Nat) (h_a0 : cl a0 = 9) (h_a2 : cl a2 = 9) (h : wu_Wr_sameMethod y Post σ a0 v1 a2 v3) : Met l y_Wr_sameMethod (mw y_Wr_sameMethod b_Wr_sameMethod 8 (some (.boolean))) ru_Wr_sameMethod (PC g D [] [.ref (ad a0), .int v1, .ref (ad a2), .int v3] sz (ws g ad y σ)) (va_Qi (fun (r : Int32) (u : St) => Post u r) (QW D (va_A (ws g ad y σ) sz) (fun u => ws g ad y u)) (va_A (ws g ad y σ) sz)) 0 0 (va_A (ws g ad y σ) sz) := by
  refine ofZ (by decide +kernel) (Nat.le_of_ble_eq_true rfl) ?_
  intro p e s m args below meth c A Q ls H locs G hsz hP hD hS hl hret
  subst hsz
  have hl : lv_has ls 8 [(0, .ref (ad a0)), (1, .int v1), (2, .ref (ad a2)), (3, .int v3)] := hl
  unfold wu_Wr_sameMethod at h
  refine lv_aload_n G.1 G.2.1 d_Wr_sameMethod_0 rfl (lv_at hl 0 rfl) ?_
  refine ugf (v := .ref (ad (lk a0 9))) G hP h_a0 iWd rfl 9 (by decide) rfl q841 rfl rfl d_Wr_sameMethod_1 ?_
  refine ugf (v := .ref (yP y (lk a0 9) 0)) G hP (lk_9_9 h_a0) iIn rfl 0 (by decide) rfl q386 rfl rfl d_Wr_sameMethod_4 ?_
  refine lv_astore (lv' := [(4, .ref (yP y (lk a0 9) 0)), (0, .ref (ad a0)), (1, .int v1), (2, .ref (ad a2)), (3, .int v3)]) G.1 G.2.1 d_Wr_sameMethod_7 hl (by decide) rfl (fun ls hl => ?_)
  refine lv_aload_n G.1 G.2.1 d_Wr_sameMethod_9 rfl (lv_at hl 3 rfl) ?_
  refine ugf (v := .ref (ad (lk a2 9))) G hP h_a2 iWd rfl 9 (by decide) rfl q841 rfl rfl d_Wr_sameMethod_10 ?_
  refine ugf (v := .ref (yP y (lk a2 9) 0)) G hP (lk_9_9 h_a2) iIn rfl 0 (by decide) rfl q386 rfl rfl d_Wr_sameMethod_13 ?_
  refine lv_astore (lv' := [(5, .ref (yP y (lk a2 9) 0)), (4, .ref (yP y (lk a0 9) 0)), (0, .ref (ad a0)), (1, .int v1), (2, .ref (ad a2)), (3, .int v3)]) G.1 G.2.1 d_Wr_sameMethod_16 hl (by decide) rfl (fun ls hl => ?_)
  refine lv_aload G.1 G.2.1 d_Wr_sameMethod_18 (lv_at hl 1 rfl) ?_
  refine lv_iload_n G.1 G.2.1 d_Wr_sameMethod_20 rfl (lv_at hl 3 rfl) ?_
  refine lv_iconst (v := 1) G.1 G.2.1 d_Wr_sameMethod_21 (by decide) ?_
  refine W.eq (g2 := F0 m 22 ls [.int 1, .int v1, .ref (yP y (lk a0 9) 0)]) rfl ?_
  refine lv_iadd G.1 G.2.1 d_Wr_sameMethod_22 ?_
  refine uiald G hP (kdp (lk_9_9 h_a0) rfl) (typ (lk_9_9 h_a0) rfl) h d_Wr_sameMethod_23 (fun x_1 h => ?_)
  refine lv_aload G.1 G.2.1 d_Wr_sameMethod_24 (lv_at hl 0 rfl) ?_
  refine lv_iload_n G.1 G.2.1 d_Wr_sameMethod_26 rfl (lv_at hl 5 rfl) ?_
  refine lv_iconst (v := 1) G.1 G.2.1 d_Wr_sameMethod_27 (by decide) ?_
  refine lv_iadd G.1 G.2.1 d_Wr_sameMethod_28 ?_
  refine uiald G hP (kdp (lk_9_9 h_a2) rfl) (typ (lk_9_9 h_a2) rfl) h d_Wr_sameMethod_29 (fun x_2 h => ?_)
  have J_100 : ∀ (s_j100 : St) (x1j100 : Int32) (x3j100 : Int32) (z0j100 : Int32) (H : Heap) (locs : List Loc), wj_Wr_sameMethod_100 y Post a0 a2 s_j100 x1j100 x3j100 z0j100 → va_P D CL (ws g ad y s_j100) H → va_D A (ws g ad y s_j100) → va_S A s.heap H locs → ∀ ls, lv_has ls 8 [(0, .ref (ad a0)), (1, .int x1j100), (2, .ref (ad a2)), (3, .int x3j100), (4, .ref (yP y (lk a0 9) 0)), (5, .ref (yP y (lk a2 9) 0))] → W p l e ru_Wr_sameMethod s m args below meth c H locs 0 0 Q (F0 m 100 ls [.int z0j100]) := by
    intro s_j100 x1j100 x3j100 z0j100 H locs h hP hD hS ls hl
    unfold wj_Wr_sameMethod_100 at h
    refine lv_istore (lv' := [(6, .int z0j100), (0, .ref (ad a0)), (1, .int x1j100), (2, .ref (ad a2)), (3, .int x3j100), (4, .ref (yP y (lk a0 9) 0)), (5, .ref (yP y (lk a2 9) 0))]) G.1 G.2.1 d_Wr_sameMethod_100 hl (by decide) rfl (fun ls hl => ?_)
    refine lv_iconst (v := 0) G.1 G.2.1 d_Wr_sameMethod_102 (by decide) ?_
    refine lv_istore (lv' := [(7, .int 0), (6, .int z0j100), (0, .ref (ad a0)), (1, .int x1j100), (2, .ref (ad a2)), (3, .int x3j100), (4, .ref (yP y (lk a0 9) 0)), (5, .ref (yP y (lk a2 9) 0))]) G.1 G.2.1 d_Wr_sameMethod_103 hl (by decide) rfl (fun ls hl => ?_)
    unfold wl_Wr_sameMethod_105 at h
    obtain ⟨I_105, μ_105, hI_105, hB_105⟩ := h
    have L_105 : ∀ (n_105 : Nat) (s_h105 : St) (x1h105 : Int32) (x3h105 : Int32) (x6h105 : Int32) (x7h105 : Int32), μ_105 s_h105 x1h105 x3h105 x6h105 x7h105 < n_105 → I_105 s_h105 x1h105 x3h105 x6h105 x7h105 → ∀ (H : Heap) (locs : List Loc), va_P D CL (ws g ad y s_h105) H → va_D A (ws g ad y s_h105) → va_S A s.heap H locs → ∀ ls, lv_has ls 8 [(0, .ref (ad a0)), (1, .int x1h105), (2, .ref (ad a2)), (3, .int x3h105), (4, .ref (yP y (lk a0 9) 0)), (5, .ref (yP y (lk a2 9) 0)), (6, .int x6h105), (7, .int x7h105)] → W p l e ru_Wr_sameMethod s m args below meth c H locs 0 0 Q (F0 m 105 ls []) := by
      intro n_105
      induction n_105 with
      | zero => intro s_h105 x1h105 x3h105 x6h105 x7h105 hμ; exact absurd hμ (Nat.not_lt_zero _)
      | succ n_105 ih_105 =>
        intro s_h105 x1h105 x3h105 x6h105 x7h105 hμ_105 hJ H locs hP hD hS ls hl
        obtain ⟨K_105, hK_105, h⟩ : ∃ K : St → Int32 → Int32 → Int32 → Int32 → Prop, (∀ z (t0 : Int32) (t1 : Int32) (t2 : Int32) (t3 : Int32), K z t0 t1 t2 t3 → I_105 z t0 t1 t2 t3 ∧ μ_105 z t0 t1 t2 t3 < μ_105 s_h105 x1h105 x3h105 x6h105 x7h105) ∧ wb_Wr_sameMethod_105 y Post K a0 a2 s_h105 x1h105 x3h105 x6h105 x7h105 := ⟨_, fun _ _ _ _ _ h => h, hB_105 s_h105 x1h105 x3h105 x6h105 x7h105 hJ⟩
        unfold wb_Wr_sameMethod_105 at h
        refine lv_iload G.1 G.2.1 d_Wr_sameMethod_105 (lv_at hl 6 rfl) ?_
        have J_176 : ∀ (s_j176 : St) (x1j176 : Int32) (x3j176 : Int32) (x6j176 : Int32) (H : Heap) (locs : List Loc), wj_Wr_sameMethod_176 y Post a0 a2 s_j176 x1j176 x3j176 x6j176 → va_P D CL (ws g ad y s_j176) H → va_D A (ws g ad y s_j176) → va_S A s.heap H locs → ∀ ls, lv_has ls 8 [(0, .ref (ad a0)), (1, .int x1j176), (2, .ref (ad a2)), (3, .int x3j176), (4, .ref (yP y (lk a0 9) 0)), (5, .ref (yP y (lk a2 9) 0)), (6, .int x6j176)] → W p l e ru_Wr_sameMethod s m args below meth c H locs 0 0 Q (F0 m 176 ls []) := by
          intro s_j176 x1j176 x3j176 x6j176 H locs h hP hD hS ls hl
          unfold wj_Wr_sameMethod_176 at h
          refine lv_iconst (v := 0) G.1 G.2.1 d_Wr_sameMethod_176 (by decide) ?_
          refine lv_istore (lv' := [(7, .int 0), (0, .ref (ad a0)), (1, .int x1j176), (2, .ref (ad a2)), (3, .int x3j176), (4, .ref (yP y (lk a0 9) 0)), (5, .ref (yP y (lk a2 9) 0)), (6, .int x6j176)]) G.1 G.2.1 d_Wr_sameMethod_177 hl (by decide) rfl (fun ls hl => ?_)
          unfold wl_Wr_sameMethod_179 at h
          obtain ⟨I_179, μ_179, hI_179, hB_179⟩ := h
          have L_179 : ∀ (n_179 : Nat) (s_h179 : St) (x1h179 : Int32) (x3h179 : Int32) (x6h179 : Int32) (x7h179 : Int32), μ_179 s_h179 x1h179 x3h179 x6h179 x7h179 < n_179 → I_179 s_h179 x1h179 x3h179 x6h179 x7h179 → ∀ (H : Heap) (locs : List Loc), va_P D CL (ws g ad y s_h179) H → va_D A (ws g ad y s_h179) → va_S A s.heap H locs → ∀ ls, lv_has ls 8 [(0, .ref (ad a0)), (1, .int x1h179), (2, .ref (ad a2)), (3, .int x3h179), (4, .ref (yP y (lk a0 9) 0)), (5, .ref (yP y (lk a2 9) 0)), (6, .int x6h179), (7, .int x7h179)] → W p l e ru_Wr_sameMethod s m args below meth c H locs 0 0 Q (F0 m 179 ls []) := by
            intro n_179
            induction n_179 with
            | zero => intro s_h179 x1h179 x3h179 x6h179 x7h179 hμ; exact absurd hμ (Nat.not_lt_zero _)
            | succ n_179 ih_179 =>
              intro s_h179 x1h179 x3h179 x6h179 x7h179 hμ_179 hJ H locs hP hD hS ls hl
              obtain ⟨K_179, hK_179, h⟩ : ∃ K : St → Int32 → Int32 → Int32 → Int32 → Prop, (∀ z (t0 : Int32) (t1 : Int32) (t2 : Int32) (t3 : Int32), K z t0 t1 t2 t3 → I_179 z t0 t1 t2 t3 ∧ μ_179 z t0 t1 t2 t3 < μ_179 s_h179 x1h179 x3h179 x6h179 x7h179) ∧ wb_Wr_sameMethod_179 y Post K a0 a2 s_h179 x1h179 x3h179 x6h179 x7h179 := ⟨_, fun _ _ _ _ _ h => h, hB_179 s_h179 x1h179 x3h179 x6h179 x7h179 hJ⟩
              unfold wb_Wr_sameMethod_179 at h
              refine lv_iload G.1 G.2.1 d_Wr_sameMethod_179 (lv_at hl 6 rfl) ?_
              have J_230 : ∀ (s_j230 : St) (x6j230 : Int32) (H : Heap) (locs : List Loc), wj_Wr_sameMethod_230 y Post a0 a2 s_j230 x6j230 → va_P D CL (ws g ad y s_j230) H → va_D A (ws g ad y s_j230) → va_S A s.heap H locs → ∀ ls, lv_has ls 8 [(6, .int x6j230)] → W p l e ru_Wr_sameMethod s m args below meth c H locs 0 0 Q (F0 m 230 ls []) := by
                intro s_j230 x6j230 H locs h hP hD hS ls hl
                unfold wj_Wr_sameMethod_230 at h
                refine lv_iload G.1 G.2.1 d_Wr_sameMethod_230 (lv_at hl 0 rfl) ?_
                exact hret _ _ _ _ _ _ _ ls (nb_n h.1) h.2 hP hD hS (Nat.le_refl _) (Nat.le_refl _) d_Wr_sameMethod_232
              refine lv_if_eq (tgt := 230) G.1 G.2.1 d_Wr_sameMethod_181 (by decide) (fun c181 => ?_) (fun c181 => ?_)
              · skip
                have h := h.1 c181
                exact J_230 s_h179 x6h179 H locs h hP hD hS ls (lv_sub hl [6] rfl)
              · skip
                have h := h.2 c181
                refine lv_iload G.1 G.2.1 d_Wr_sameMethod_184 (lv_at hl 7 rfl) ?_
                refine lv_aload G.1 G.2.1 d_Wr_sameMethod_186 (lv_at hl 4 rfl) ?_
                refine lv_iload_n G.1 G.2.1 d_Wr_sameMethod_188 rfl (lv_at hl 1 rfl) ?_
                refine lv_iconst (v := 5) G.1 G.2.1 d_Wr_sameMethod_189 (by decide) ?_
                refine lv_iadd G.1 G.2.1 d_Wr_sameMethod_190 ?_
                refine uiald G hP (kdp (lk_9_9 h_a0) rfl) (typ (lk_9_9 h_a0) rfl) h d_Wr_sameMethod_191 (fun x_3 h => ?_)
                refine lv_icmp_ge (tgt := 230) G.1 G.2.1 d_Wr_sameMethod_192 (by decide) (fun c192 => ?_) (fun c192 => ?_)
                · skip
                  have h := h.1 c192
                  exact J_230 s_h179 x6h179 H locs h hP hD hS ls (lv_sub hl [6] rfl)
                · skip
                  have h := h.2 c192
                  refine lv_aload_n G.1 G.2.1 d_Wr_sameMethod_195 rfl (lv_at hl 0 rfl) ?_
                  refine lv_aload G.1 G.2.1 d_Wr_sameMethod_196 (lv_at hl 4 rfl) ?_
                  refine W.eq (g2 := F0 m 198 ls [.ref (yP y (lk a0 9) 0), .ref (ad a0)]) rfl ?_
                  refine lv_iload_n G.1 G.2.1 d_Wr_sameMethod_198 rfl (lv_at hl 1 rfl) ?_
                  refine lv_iconst (v := 4) G.1 G.2.1 d_Wr_sameMethod_199 (by decide) ?_
                  refine lv_iadd G.1 G.2.1 d_Wr_sameMethod_200 ?_
                  refine uiald G hP (kdp (lk_9_9 h_a0) rfl) (typ (lk_9_9 h_a0) rfl) h d_Wr_sameMethod_201 (fun x_4 h => ?_)
                  refine lv_iload G.1 G.2.1 d_Wr_sameMethod_202 (lv_at hl 7 rfl) ?_
                  refine lv_iconst (v := 5) G.1 G.2.1 d_Wr_sameMethod_204 (by decide) ?_
                  refine lv_imul G.1 G.2.1 d_Wr_sameMethod_205 ?_
                  refine lv_iadd G.1 G.2.1 d_Wr_sameMethod_206 ?_
                  refine lv_aload_n G.1 G.2.1 d_Wr_sameMethod_207 rfl (lv_at hl 2 rfl) ?_
                  refine lv_aload G.1 G.2.1 d_Wr_sameMethod_208 (lv_at hl 5 rfl) ?_
                  refine lv_iload_n G.1 G.2.1 d_Wr_sameMethod_210 rfl (lv_at hl 3 rfl) ?_
                  refine lv_iconst (v := 4) G.1 G.2.1 d_Wr_sameMethod_211 (by decide) ?_
                  refine W.eq (g2 := F0 m 212 ls [.int 4, .int x3h179, .ref (yP y (lk a2 9) 0), .ref (ad a2), .int (x_4 + (x7h179 * 5)), .ref (ad a0)]) rfl ?_
                  refine lv_iadd G.1 G.2.1 d_Wr_sameMethod_212 ?_
                  refine uiald G hP (kdp (lk_9_9 h_a2) rfl) (typ (lk_9_9 h_a2) rfl) h d_Wr_sameMethod_213 (fun x_5 h => ?_)
                  refine lv_iload G.1 G.2.1 d_Wr_sameMethod_214 (lv_at hl 7 rfl) ?_
                  refine lv_iconst (v := 5) G.1 G.2.1 d_Wr_sameMethod_216 (by decide) ?_
                  refine lv_imul G.1 G.2.1 d_Wr_sameMethod_217 ?_
                  refine lv_iadd G.1 G.2.1 d_Wr_sameMethod_218 ?_
                  refine ucSi (As := [.ref (ad a0), .int (x_4 + (x7h179 * 5)), .ref (ad a2), .int (x_5 + (x7h179 * 5))]) (rest := []) G hP hD hS (cu_Wr_sameCode l D g ad y _ s_h179 a0 (x_4 + (x7h179 * 5)) a2 (x_5 + (x7h179 * 5)) H.size h_a0 h_a2 h) w9_Wr_sameCode q2412 ⟨Nat.le_of_ble_eq_true rfl, Nat.le_of_ble_eq_true rfl⟩ rfl rfl hl.1 rfl (Nat.le_of_ble_eq_true rfl) rfl ⟨Nat.le_refl _, Nat.le_refl _⟩ d_Wr_sameMethod_219 (fun r_6 s_7 H locs h hP hD hS => ?_)
                  refine lv_istore (lv' := [(6, .int r_6), (0, .ref (ad a0)), (1, .int x1h179), (2, .ref (ad a2)), (3, .int x3h179), (4, .ref (yP y (lk a0 9) 0)), (5, .ref (yP y (lk a2 9) 0)), (7, .int x7h179)]) G.1 G.2.1 d_Wr_sameMethod_222 hl (by decide) rfl (fun ls hl => ?_)
                  refine lv_iinc (v := x7h179 + 1) (lv' := [(7, .int (x7h179 + 1)), (6, .int r_6), (0, .ref (ad a0)), (1, .int x1h179), (2, .ref (ad a2)), (3, .int x3h179), (4, .ref (yP y (lk a0 9) 0)), (5, .ref (yP y (lk a2 9) 0))]) G.1 G.2.1 d_Wr_sameMethod_224 hl (k := 7) rfl rfl (by decide) rfl (fun ls hl => ?_)
                  refine lv_goto (tgt := 179) G.1 G.2.1 d_Wr_sameMethod_227 (by decide) ?_
                  have h := hK_179 s_7 x1h179 x3h179 r_6 (x7h179 + 1) h
                  exact ih_179 s_7 x1h179 x3h179 r_6 (x7h179 + 1) (Nat.lt_of_lt_of_le h.2 (Nat.le_of_lt_succ hμ_179)) h.1 H locs hP hD hS ls (lv_sub hl [2, 3, 4, 5, 6, 7, 1, 0] rfl)
          exact L_179 _ s_j176 x1j176 x3j176 x6j176 0 (Nat.lt_succ_self _) hI_179 H locs hP hD hS ls (lv_sub hl [1, 2, 3, 4, 5, 6, 7, 0] rfl)
        refine lv_if_eq (tgt := 176) G.1 G.2.1 d_Wr_sameMethod_107 (by decide) (fun c107 => ?_) (fun c107 => ?_)
        · skip
          have h := h.1 c107
          exact J_176 s_h105 x1h105 x3h105 x6h105 H locs h hP hD hS ls (lv_sub hl [0, 1, 2, 3, 4, 5, 6] rfl)
        · skip
          have h := h.2 c107
          refine lv_iload G.1 G.2.1 d_Wr_sameMethod_110 (lv_at hl 7 rfl) ?_
          refine lv_aload G.1 G.2.1 d_Wr_sameMethod_112 (lv_at hl 4 rfl) ?_
          refine lv_iload_n G.1 G.2.1 d_Wr_sameMethod_114 rfl (lv_at hl 1 rfl) ?_
          refine lv_bipush (v := 7) G.1 G.2.1 d_Wr_sameMethod_115 (by decide) ?_
          refine lv_iadd G.1 G.2.1 d_Wr_sameMethod_117 ?_
          refine uiald G hP (kdp (lk_9_9 h_a0) rfl) (typ (lk_9_9 h_a0) rfl) h d_Wr_sameMethod_118 (fun x_8 h => ?_)
          refine lv_iconst (v := 4) G.1 G.2.1 d_Wr_sameMethod_119 (by decide) ?_
          refine lv_imul G.1 G.2.1 d_Wr_sameMethod_120 ?_
          refine lv_icmp_ge (tgt := 176) G.1 G.2.1 d_Wr_sameMethod_121 (by decide) (fun c121 => ?_) (fun c121 => ?_)
          · skip
            have h := h.1 c121
            exact J_176 s_h105 x1h105 x3h105 x6h105 H locs h hP hD hS ls (lv_sub hl [0, 1, 2, 3, 4, 5, 6] rfl)
          · skip
            have h := h.2 c121
            refine W.eq (g2 := F0 m 124 ls []) rfl ?_
            refine lv_aload_n G.1 G.2.1 d_Wr_sameMethod_124 rfl (lv_at hl 0 rfl) ?_
            refine ugf (v := .ref (ad (lk a0 11))) G hP h_a0 iWd rfl 11 (by decide) rfl q850 rfl rfl d_Wr_sameMethod_125 ?_
            refine ugf (v := .ref (yP y (lk a0 11) 0)) G hP (lk_9_11 h_a0) iIn rfl 0 (by decide) rfl q386 rfl rfl d_Wr_sameMethod_128 ?_
            refine lv_aload G.1 G.2.1 d_Wr_sameMethod_131 (lv_at hl 4 rfl) ?_
            refine lv_iload_n G.1 G.2.1 d_Wr_sameMethod_133 rfl (lv_at hl 1 rfl) ?_
            refine lv_bipush (v := 6) G.1 G.2.1 d_Wr_sameMethod_134 (by decide) ?_
            refine lv_iadd G.1 G.2.1 d_Wr_sameMethod_136 ?_
            refine uiald G hP (kdp (lk_9_9 h_a0) rfl) (typ (lk_9_9 h_a0) rfl) h d_Wr_sameMethod_137 (fun x_9 h => ?_)
            refine lv_iload G.1 G.2.1 d_Wr_sameMethod_138 (lv_at hl 7 rfl) ?_
            refine lv_iadd G.1 G.2.1 d_Wr_sameMethod_140 ?_
            refine uiald G hP (kdp (lk_9_11 h_a0) rfl) (typ (lk_9_11 h_a0) rfl) h d_Wr_sameMethod_141 (fun x_10 h => ?_)
            refine lv_aload_n G.1 G.2.1 d_Wr_sameMethod_142 rfl (lv_at hl 2 rfl) ?_
            refine W.eq (g2 := F0 m 143 ls [.ref (ad a2), .int x_10]) rfl ?_
            refine ugf (v := .ref (ad (lk a2 11))) G hP h_a2 iWd rfl 11 (by decide) rfl q850 rfl rfl d_Wr_sameMethod_143 ?_
            refine ugf (v := .ref (yP y (lk a2 11) 0)) G hP (lk_9_11 h_a2) iIn rfl 0 (by decide) rfl q386 rfl rfl d_Wr_sameMethod_146 ?_
            refine lv_aload G.1 G.2.1 d_Wr_sameMethod_149 (lv_at hl 5 rfl) ?_
            refine lv_iload_n G.1 G.2.1 d_Wr_sameMethod_151 rfl (lv_at hl 3 rfl) ?_
            refine lv_bipush (v := 6) G.1 G.2.1 d_Wr_sameMethod_152 (by decide) ?_
            refine lv_iadd G.1 G.2.1 d_Wr_sameMethod_154 ?_
            refine uiald G hP (kdp (lk_9_9 h_a2) rfl) (typ (lk_9_9 h_a2) rfl) h d_Wr_sameMethod_155 (fun x_11 h => ?_)
            refine lv_iload G.1 G.2.1 d_Wr_sameMethod_156 (lv_at hl 7 rfl) ?_
            refine lv_iadd G.1 G.2.1 d_Wr_sameMethod_158 ?_
            refine uiald G hP (kdp (lk_9_11 h_a2) rfl) (typ (lk_9_11 h_a2) rfl) h d_Wr_sameMethod_159 (fun x_12 h => ?_)
            have J_168 : ∀ (s_j168 : St) (x1j168 : Int32) (x3j168 : Int32) (x7j168 : Int32) (z0j168 : Int32) (H : Heap) (locs : List Loc), wj_Wr_sameMethod_168 y Post K_105 a0 a2 s_j168 x1j168 x3j168 x7j168 z0j168 → va_P D CL (ws g ad y s_j168) H → va_D A (ws g ad y s_j168) → va_S A s.heap H locs → ∀ ls, lv_has ls 8 [(0, .ref (ad a0)), (1, .int x1j168), (2, .ref (ad a2)), (3, .int x3j168), (4, .ref (yP y (lk a0 9) 0)), (5, .ref (yP y (lk a2 9) 0)), (7, .int x7j168)] → W p l e ru_Wr_sameMethod s m args below meth c H locs 0 0 Q (F0 m 168 ls [.int z0j168]) := by
              intro s_j168 x1j168 x3j168 x7j168 z0j168 H locs h hP hD hS ls hl
              unfold wj_Wr_sameMethod_168 at h
              refine lv_istore (lv' := [(6, .int z0j168), (0, .ref (ad a0)), (1, .int x1j168), (2, .ref (ad a2)), (3, .int x3j168), (4, .ref (yP y (lk a0 9) 0)), (5, .ref (yP y (lk a2 9) 0)), (7, .int x7j168)]) G.1 G.2.1 d_Wr_sameMethod_168 hl (by decide) rfl (fun ls hl => ?_)
              refine lv_iinc (v := x7j168 + 1) (lv' := [(7, .int (x7j168 + 1)), (6, .int z0j168), (0, .ref (ad a0)), (1, .int x1j168), (2, .ref (ad a2)), (3, .int x3j168), (4, .ref (yP y (lk a0 9) 0)), (5, .ref (yP y (lk a2 9) 0))]) G.1 G.2.1 d_Wr_sameMethod_170 hl (k := 7) rfl rfl (by decide) rfl (fun ls hl => ?_)
              refine lv_goto (tgt := 105) G.1 G.2.1 d_Wr_sameMethod_173 (by decide) ?_
              have h := hK_105 s_j168 x1j168 x3j168 z0j168 (x7j168 + 1) h
              exact ih_105 s_j168 x1j168 x3j168 z0j168 (x7j168 + 1) (Nat.lt_of_lt_of_le h.2 (Nat.le_of_lt_succ hμ_105)) h.1 H locs hP hD hS ls (lv_sub hl [2, 3, 4, 5, 6, 7, 1, 0] rfl)
            refine lv_icmp_ne (tgt := 167) G.1 G.2.1 d_Wr_sameMethod_160 (by decide) (fun c160 => ?_) (fun c160 => ?_)
            · skip
              have h := h.1 c160
              refine lv_iconst (v := 0) G.1 G.2.1 d_Wr_sameMethod_167 (by decide) ?_
              exact J_168 s_h105 x1h105 x3h105 x7h105 0 H locs h hP hD hS ls (lv_sub hl [0, 1, 2, 3, 4, 5, 7] rfl)
            · skip
              have h := h.2 c160
              refine lv_iconst (v := 1) G.1 G.2.1 d_Wr_sameMethod_163 (by decide) ?_
              refine W.eq (g2 := F0 m 164 ls [.int 1]) rfl ?_
              refine lv_goto (tgt := 168) G.1 G.2.1 d_Wr_sameMethod_164 (by decide) ?_
              exact J_168 s_h105 x1h105 x3h105 x7h105 1 H locs h hP hD hS ls (lv_sub hl [0, 1, 2, 3, 4, 5, 7] rfl)
    exact L_105 _ s_j100 x1j100 x3j100 z0j100 0 (Nat.lt_succ_self _) hI_105 H locs hP hD hS ls (lv_sub hl [2, 3, 4, 5, 6, 7, 1, 0] rfl)
  have J_99 : ∀ (s_j99 : St) (x1j99 : Int32) (x3j99 : Int32) (H : Heap) (locs : List Loc), wj_Wr_sameMethod_99 y Post a0 a2 s_j99 x1j99 x3j99 → va_P D CL (ws g ad y s_j99) H → va_D A (ws g ad y s_j99) → va_S A s.heap H locs → ∀ ls, lv_has ls 8 [(0, .ref (ad a0)), (1, .int x1j99), (2, .ref (ad a2)), (3, .int x3j99), (4, .ref (yP y (lk a0 9) 0)), (5, .ref (yP y (lk a2 9) 0))] → W p l e ru_Wr_sameMethod s m args below meth c H locs 0 0 Q (F0 m 99 ls []) := by
    intro s_j99 x1j99 x3j99 H locs h hP hD hS ls hl
    unfold wj_Wr_sameMethod_99 at h
    refine lv_iconst (v := 0) G.1 G.2.1 d_Wr_sameMethod_99 (by decide) ?_
    exact J_100 s_j99 x1j99 x3j99 0 H locs h hP hD hS ls (lv_sub hl [0, 1, 2, 3, 4, 5] rfl)
  refine lv_icmp_ne (tgt := 99) G.1 G.2.1 d_Wr_sameMethod_30 (by decide) (fun c30 => ?_) (fun c30 => ?_)
  · skip
    have h := h.1 c30
    exact J_99 σ v1 v3 H locs h hP hD hS ls (lv_sub hl [2, 3, 4, 5, 1, 0] rfl)
  · skip
    have h := h.2 c30
    refine lv_aload G.1 G.2.1 d_Wr_sameMethod_33 (lv_at hl 1 rfl) ?_
    refine lv_iload_n G.1 G.2.1 d_Wr_sameMethod_35 rfl (lv_at hl 3 rfl) ?_
    refine lv_iconst (v := 2) G.1 G.2.1 d_Wr_sameMethod_36 (by decide) ?_
    refine lv_iadd G.1 G.2.1 d_Wr_sameMethod_37 ?_
    refine W.eq (g2 := F0 m 38 ls [.int (v1 + 2), .ref (yP y (lk a0 9) 0)]) rfl ?_
    refine uiald G hP (kdp (lk_9_9 h_a0) rfl) (typ (lk_9_9 h_a0) rfl) h d_Wr_sameMethod_38 (fun x_13 h => ?_)
    refine lv_aload G.1 G.2.1 d_Wr_sameMethod_39 (lv_at hl 0 rfl) ?_
    refine lv_iload_n G.1 G.2.1 d_Wr_sameMethod_41 rfl (lv_at hl 5 rfl) ?_
    refine lv_iconst (v := 2) G.1 G.2.1 d_Wr_sameMethod_42 (by decide) ?_
    refine lv_iadd G.1 G.2.1 d_Wr_sameMethod_43 ?_
    refine uiald G hP (kdp (lk_9_9 h_a2) rfl) (typ (lk_9_9 h_a2) rfl) h d_Wr_sameMethod_44 (fun x_14 h => ?_)
    refine lv_icmp_ne (tgt := 99) G.1 G.2.1 d_Wr_sameMethod_45 (by decide) (fun c45 => ?_) (fun c45 => ?_)
    · skip
      have h := h.1 c45
      exact J_99 σ v1 v3 H locs h hP hD hS ls (lv_sub hl [2, 3, 4, 5, 1, 0] rfl)
    · skip
      have h := h.2 c45
      refine lv_aload G.1 G.2.1 d_Wr_sameMethod_48 (lv_at hl 1 rfl) ?_
      refine lv_iload_n G.1 G.2.1 d_Wr_sameMethod_50 rfl (lv_at hl 3 rfl) ?_
      refine lv_iconst (v := 3) G.1 G.2.1 d_Wr_sameMethod_51 (by decide) ?_
      refine lv_iadd G.1 G.2.1 d_Wr_sameMethod_52 ?_
      refine uiald G hP (kdp (lk_9_9 h_a0) rfl) (typ (lk_9_9 h_a0) rfl) h d_Wr_sameMethod_53 (fun x_15 h => ?_)
      refine W.eq (g2 := F0 m 54 ls [.int x_15]) rfl ?_
      refine lv_aload G.1 G.2.1 d_Wr_sameMethod_54 (lv_at hl 0 rfl) ?_
      refine lv_iload_n G.1 G.2.1 d_Wr_sameMethod_56 rfl (lv_at hl 5 rfl) ?_
      refine lv_iconst (v := 3) G.1 G.2.1 d_Wr_sameMethod_57 (by decide) ?_
      refine lv_iadd G.1 G.2.1 d_Wr_sameMethod_58 ?_
      refine uiald G hP (kdp (lk_9_9 h_a2) rfl) (typ (lk_9_9 h_a2) rfl) h d_Wr_sameMethod_59 (fun x_16 h => ?_)
      refine lv_icmp_ne (tgt := 99) G.1 G.2.1 d_Wr_sameMethod_60 (by decide) (fun c60 => ?_) (fun c60 => ?_)
      · skip
        have h := h.1 c60
        exact J_99 σ v1 v3 H locs h hP hD hS ls (lv_sub hl [2, 3, 4, 5, 1, 0] rfl)
      · skip
        have h := h.2 c60
        refine lv_aload G.1 G.2.1 d_Wr_sameMethod_63 (lv_at hl 1 rfl) ?_
        refine lv_iload_n G.1 G.2.1 d_Wr_sameMethod_65 rfl (lv_at hl 3 rfl) ?_
        refine lv_iconst (v := 5) G.1 G.2.1 d_Wr_sameMethod_66 (by decide) ?_
        refine lv_iadd G.1 G.2.1 d_Wr_sameMethod_67 ?_
        refine uiald G hP (kdp (lk_9_9 h_a0) rfl) (typ (lk_9_9 h_a0) rfl) h d_Wr_sameMethod_68 (fun x_17 h => ?_)
        refine lv_aload G.1 G.2.1 d_Wr_sameMethod_69 (lv_at hl 0 rfl) ?_
        refine W.eq (g2 := F0 m 71 ls [.ref (yP y (lk a2 9) 0), .int x_17]) rfl ?_
        refine lv_iload_n G.1 G.2.1 d_Wr_sameMethod_71 rfl (lv_at hl 5 rfl) ?_
        refine lv_iconst (v := 5) G.1 G.2.1 d_Wr_sameMethod_72 (by decide) ?_
        refine lv_iadd G.1 G.2.1 d_Wr_sameMethod_73 ?_
        refine uiald G hP (kdp (lk_9_9 h_a2) rfl) (typ (lk_9_9 h_a2) rfl) h d_Wr_sameMethod_74 (fun x_18 h => ?_)
        refine lv_icmp_ne (tgt := 99) G.1 G.2.1 d_Wr_sameMethod_75 (by decide) (fun c75 => ?_) (fun c75 => ?_)
        · skip
          have h := h.1 c75
          exact J_99 σ v1 v3 H locs h hP hD hS ls (lv_sub hl [2, 3, 4, 5, 1, 0] rfl)
        · skip
          have h := h.2 c75
          refine lv_aload G.1 G.2.1 d_Wr_sameMethod_78 (lv_at hl 1 rfl) ?_
          refine lv_iload_n G.1 G.2.1 d_Wr_sameMethod_80 rfl (lv_at hl 3 rfl) ?_
          refine lv_bipush (v := 7) G.1 G.2.1 d_Wr_sameMethod_81 (by decide) ?_
          refine lv_iadd G.1 G.2.1 d_Wr_sameMethod_83 ?_
          refine uiald G hP (kdp (lk_9_9 h_a0) rfl) (typ (lk_9_9 h_a0) rfl) h d_Wr_sameMethod_84 (fun x_19 h => ?_)
          refine lv_aload G.1 G.2.1 d_Wr_sameMethod_85 (lv_at hl 0 rfl) ?_
          refine lv_iload_n G.1 G.2.1 d_Wr_sameMethod_87 rfl (lv_at hl 5 rfl) ?_
          refine W.eq (g2 := F0 m 88 ls [.int v3, .ref (yP y (lk a2 9) 0), .int x_19]) rfl ?_
          refine lv_bipush (v := 7) G.1 G.2.1 d_Wr_sameMethod_88 (by decide) ?_
          refine lv_iadd G.1 G.2.1 d_Wr_sameMethod_90 ?_
          refine uiald G hP (kdp (lk_9_9 h_a2) rfl) (typ (lk_9_9 h_a2) rfl) h d_Wr_sameMethod_91 (fun x_20 h => ?_)
          refine lv_icmp_ne (tgt := 99) G.1 G.2.1 d_Wr_sameMethod_92 (by decide) (fun c92 => ?_) (fun c92 => ?_)
          · skip
            have h := h.1 c92
            exact J_99 σ v1 v3 H locs h hP hD hS ls (lv_sub hl [2, 3, 4, 5, 1, 0] rfl)
          · skip
            have h := h.2 c92
            refine lv_iconst (v := 1) G.1 G.2.1 d_Wr_sameMethod_95 (by decide) ?_
            refine lv_goto (tgt := 100) G.1 G.2.1 d_Wr_sameMethod_96 (by decide) ?_
            exact J_100 σ v1 v3 1 H locs h hP hD hS ls (lv_sub hl [2, 3, 4, 5, 1, 0] rfl)
