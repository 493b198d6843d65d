def y_Mo_parentOf : MethodName := ⟨"ClassWorksModel", "parentOf", "(I)I"⟩
abbrev b_Mo_parentOf : ByteArray := prog_14_method_53_code
theorem d_Mo_parentOf_0 : decode b_Mo_parentOf 0 = .ok (.iload_n 1, 1) := by decide +kernel
theorem d_Mo_parentOf_1 : decode b_Mo_parentOf 1 = .ok (.ifCond .ne 8, 3) := by decide +kernel
theorem d_Mo_parentOf_4 : decode b_Mo_parentOf 4 = .ok (.bipush (-2), 2) := by decide +kernel
theorem d_Mo_parentOf_6 : decode b_Mo_parentOf 6 = .ok (.goto 34, 3) := by decide +kernel
theorem d_Mo_parentOf_9 : decode b_Mo_parentOf 9 = .ok (.aload_n 0, 1) := by decide +kernel
theorem d_Mo_parentOf_10 : decode b_Mo_parentOf 10 = .ok (.getfield 522, 3) := by decide +kernel
theorem d_Mo_parentOf_13 : decode b_Mo_parentOf 13 = .ok (.getfield 429, 3) := by decide +kernel
theorem d_Mo_parentOf_16 : decode b_Mo_parentOf 16 = .ok (.iload_n 1, 1) := by decide +kernel
theorem d_Mo_parentOf_17 : decode b_Mo_parentOf 17 = .ok (.iaload, 1) := by decide +kernel
theorem d_Mo_parentOf_18 : decode b_Mo_parentOf 18 = .ok (.iconst 4, 1) := by decide +kernel
theorem d_Mo_parentOf_19 : decode b_Mo_parentOf 19 = .ok (.iand, 1) := by decide +kernel
theorem d_Mo_parentOf_20 : decode b_Mo_parentOf 20 = .ok (.ifCond .eq 7, 3) := by decide +kernel
theorem d_Mo_parentOf_23 : decode b_Mo_parentOf 23 = .ok (.iconst 0, 1) := by decide +kernel
theorem d_Mo_parentOf_24 : decode b_Mo_parentOf 24 = .ok (.goto 16, 3) := by decide +kernel
theorem d_Mo_parentOf_27 : decode b_Mo_parentOf 27 = .ok (.aload_n 0, 1) := by decide +kernel
theorem d_Mo_parentOf_28 : decode b_Mo_parentOf 28 = .ok (.aload_n 0, 1) := by decide +kernel
theorem d_Mo_parentOf_29 : decode b_Mo_parentOf 29 = .ok (.getfield 522, 3) := by decide +kernel
theorem d_Mo_parentOf_32 : decode b_Mo_parentOf 32 = .ok (.getfield 426, 3) := by decide +kernel
theorem d_Mo_parentOf_35 : decode b_Mo_parentOf 35 = .ok (.iload_n 1, 1) := by decide +kernel
theorem d_Mo_parentOf_36 : decode b_Mo_parentOf 36 = .ok (.iaload, 1) := by decide +kernel
theorem d_Mo_parentOf_37 : decode b_Mo_parentOf 37 = .ok (.invokevirtual 601, 3) := by decide +kernel
theorem d_Mo_parentOf_40 : decode b_Mo_parentOf 40 = .ok (.ireturn, 1) := by decide +kernel
abbrev ru_Mo_parentOf : Room := { frames := 1, cells := 0, slots := 0, locals := 22 }
def wj_Mo_parentOf_40 (y : Ly) (Post : St → Int32 → Prop) (a0 : Nat) (s_j40 : St) (z0j40 : Int32) : Prop := Post s_j40 z0j40
def wu_Mo_parentOf (y : Ly) (Post : St → Int32 → Prop) (σ : St) (a0 : Nat) (v1 : Int32) : Prop := ((¬ v1 = 0 → ∃ b_1 : Nat, sO σ a0 45 = some b_1 ∧ cl b_1 = 13 ∧ xA y σ b_1 5 v1 (fun x_4 : Int32 => (((x_4 &&& 4) = 0 → ∃ b_5 : Nat, sO σ a0 45 = some b_5 ∧ cl b_5 = 13 ∧ xA y σ b_5 4 v1 (fun x_8 : Int32 => wu_Mo_classOf y (fun (s_10 : St) (r_9 : Int32) => wj_Mo_parentOf_40 y Post a0 s_10 r_9) σ a0 x_8)) ∧ (¬ ((x_4 &&& 4) = 0) → wj_Mo_parentOf_40 y Post a0 σ 0)))) ∧ (v1 = 0 → wj_Mo_parentOf_40 y Post a0 σ (-2)))
set_option maxHeartbeats 4000000 in
set_option maxRecDepth 100000 in
theorem cu_Mo_parentOf (l : Launch) (D : va_G) (g : Nat → ClassId) (ad : Nat → Nat) (y : Ly) (Post : St → Int32 → Prop) (σ : St) (a0 : Nat) (v1 : Int32) (sz : Nat) (h_a0 : cl a0 = 14) (h : wu_Mo_parentOf y Post σ a0 v1) : Met l y_Mo_parentOf (mw y_Mo_parentOf b_Mo_parentOf 2 (some .int)) ru_Mo_parentOf (PC g D [] [.ref (ad a0), .int v1] sz (ws g ad y σ)) (va_Qi (fun (r : Int32) (u : St) => Post u r) (QW D (va_A (ws g ad y σ) sz) (fun u => ws g ad y u)) (va_A (ws g ad y σ) sz)) 0 0 (va_A (ws g ad y σ) sz) := by
  refine ofI (by decide +kernel) (Nat.le_of_ble_eq_true rfl) ?_
  intro p e s m args below meth c A Q ls H locs G hsz hP hD hS hl hret
  subst hsz
  have hl : lv_has ls 2 [(0, .ref (ad a0)), (1, .int v1)] := hl
  unfold wu_Mo_parentOf at h
  refine lv_iload_n G.1 G.2.1 d_Mo_parentOf_0 rfl (lv_at hl 1 rfl) ?_
  have J_40 : ∀ (s_j40 : St) (z0j40 : Int32) (H : Heap) (locs : List Loc), wj_Mo_parentOf_40 y Post a0 s_j40 z0j40 → va_P D CL (ws g ad y s_j40) H → va_D A (ws g ad y s_j40) → va_S A s.heap H locs → ∀ ls, lv_has ls 2 [] → W p l e ru_Mo_parentOf s m args below meth c H locs 0 0 Q (F0 m 40 ls [.int z0j40]) := by
    intro s_j40 z0j40 H locs h hP hD hS ls hl
    unfold wj_Mo_parentOf_40 at h
    exact hret _ _ _ _ _ _ _ ls h hP hD hS (Nat.le_refl _) (Nat.le_refl _) d_Mo_parentOf_40
  refine lv_if_ne (tgt := 9) G.1 G.2.1 d_Mo_parentOf_1 (by decide) (fun c1 => ?_) (fun c1 => ?_)
  · skip
    have h := h.1 c1
    refine lv_aload_n G.1 G.2.1 d_Mo_parentOf_9 rfl (lv_at hl 0 rfl) ?_
    obtain ⟨b_1, e_2, c_3, h⟩ := h
    refine ugf (v := .ref (ad b_1)) G hP h_a0 iMo rfl 45 (by decide) rfl q3109 rfl (by show va_rf ((sO σ a0 45).map ad) = _; rw [e_2]; rfl) d_Mo_parentOf_10 ?_
    refine ugfN (v := .ref (yP y b_1 5)) G hP c_3 iMw rfl 5 (by decide) rfl q2714 rfl rfl d_Mo_parentOf_13 ?_
    refine lv_iload_n G.1 G.2.1 d_Mo_parentOf_16 rfl (lv_at hl 1 rfl) ?_
    refine uiald G hP (kdp c_3 rfl) (typ c_3 rfl) h d_Mo_parentOf_17 (fun x_4 h => ?_)
    refine lv_iconst (v := 4) G.1 G.2.1 d_Mo_parentOf_18 (by decide) ?_
    refine lv_iand G.1 G.2.1 d_Mo_parentOf_19 ?_
    refine lv_if_eq (tgt := 27) G.1 G.2.1 d_Mo_parentOf_20 (by decide) (fun c20 => ?_) (fun c20 => ?_)
    · skip
      have h := h.1 c20
      refine lv_aload_n G.1 G.2.1 d_Mo_parentOf_27 rfl (lv_at hl 0 rfl) ?_
      refine W.eq (g2 := F0 m 28 ls [.ref (ad a0)]) rfl ?_
      refine lv_aload_n G.1 G.2.1 d_Mo_parentOf_28 rfl (lv_at hl 0 rfl) ?_
      obtain ⟨b_5, e_6, c_7, h⟩ := h
      refine ugf (v := .ref (ad b_5)) G hP h_a0 iMo rfl 45 (by decide) rfl q3109 rfl (by show va_rf ((sO σ a0 45).map ad) = _; rw [e_6]; rfl) d_Mo_parentOf_29 ?_
      refine ugfN (v := .ref (yP y b_5 4)) G hP c_7 iMw rfl 4 (by decide) rfl q2712 rfl rfl d_Mo_parentOf_32 ?_
      refine lv_iload_n G.1 G.2.1 d_Mo_parentOf_35 rfl (lv_at hl 1 rfl) ?_
      refine uiald G hP (kdp c_7 rfl) (typ c_7 rfl) h d_Mo_parentOf_36 (fun x_8 h => ?_)
      refine ucVi (As := [.int x_8]) (rest := []) G hP hD hS (cu_Mo_classOf l D g ad y _ σ a0 x_8 H.size h_a0 h) w9_Mo_classOf q3571 ⟨Nat.le_of_ble_eq_true rfl, Nat.le_of_ble_eq_true rfl⟩ rfl rfl h_a0 (q := (RMo, TMo, 131)) rfl rfl hl.1 rfl (Nat.le_of_ble_eq_true rfl) rfl ⟨Nat.le_refl _, Nat.le_refl _⟩ d_Mo_parentOf_37 (fun r_9 s_10 H locs h hP hD hS => ?_)
      exact J_40 s_10 r_9 H locs h hP hD hS ls (lv_sub hl [] rfl)
    · skip
      have h := h.2 c20
      refine lv_iconst (v := 0) G.1 G.2.1 d_Mo_parentOf_23 (by decide) ?_
      refine W.eq (g2 := F0 m 24 ls [.int 0]) rfl ?_
      refine lv_goto (tgt := 40) G.1 G.2.1 d_Mo_parentOf_24 (by decide) ?_
      exact J_40 σ 0 H locs h hP hD hS ls (lv_sub hl [] rfl)
  · skip
    have h := h.2 c1
    refine lv_bipush (v := (-2)) G.1 G.2.1 d_Mo_parentOf_4 (by decide) ?_
    refine lv_goto (tgt := 40) G.1 G.2.1 d_Mo_parentOf_6 (by decide) ?_
    exact J_40 σ (-2) H locs h hP hD hS ls (lv_sub hl [] rfl)
theorem q2716 : Cond.fieldLinkNest "ClassWorksModel" 612 "ClassWorksModel$World" "faces" "[I" "ClassWorksModel" ∈ lw_nest := lw_nestmem (List.mem_of_getElem? (i := 2716) (by decide +kernel)) rfl
theorem q3689 : Cond.methodLink "ClassWorksModel" 725 y_Mo_parentOf ∈ lw_ok := lw_okmem (List.mem_of_getElem? (i := 3689) (by decide +kernel)) rfl
theorem q3692 : Cond.code y_Mo_parentOf b_Mo_parentOf 2 (some .int) ∈ lw_ok := lw_okmem (List.mem_of_getElem? (i := 3692) (by decide +kernel)) rfl
theorem q3691 : Cond.instanceMethod y_Mo_parentOf ∈ lw_ok := lw_okmem (List.mem_of_getElem? (i := 3691) (by decide +kernel)) rfl
theorem q219 : Cond.selects y_Mo_parentOf.cls y_Mo_parentOf y_Mo_parentOf ∈ lw_ok := lw_okmem (List.mem_of_getElem? (i := 219) (by decide +kernel)) rfl
theorem w9_Mo_parentOf : CWv y_Mo_parentOf b_Mo_parentOf 2 (some .int) 1 ∧ Cond.instanceMethod y_Mo_parentOf ∈ lw_ok ∧ Cond.selects y_Mo_parentOf.cls y_Mo_parentOf y_Mo_parentOf ∈ lw_ok := ⟨⟨q3692, q348, by decide +kernel, by decide +kernel, by decide +kernel⟩, q3691, q219⟩
def y_Mo_directs : MethodName := ⟨"ClassWorksModel", "directs", "(IZ)J"⟩
abbrev b_Mo_directs : ByteArray := prog_14_method_50_code
theorem d_Mo_directs_0 : decode b_Mo_directs 0 = .ok (.iload_n 2, 1) := by decide +kernel
theorem d_Mo_directs_1 : decode b_Mo_directs 1 = .ok (.ifCond .eq 19, 3) := by decide +kernel
theorem d_Mo_directs_4 : decode b_Mo_directs 4 = .ok (.aload_n 0, 1) := by decide +kernel
theorem d_Mo_directs_5 : decode b_Mo_directs 5 = .ok (.aload_n 0, 1) := by decide +kernel
theorem d_Mo_directs_6 : decode b_Mo_directs 6 = .ok (.getfield 522, 3) := by decide +kernel
theorem d_Mo_directs_9 : decode b_Mo_directs 9 = .ok (.getfield 426, 3) := by decide +kernel
theorem d_Mo_directs_12 : decode b_Mo_directs 12 = .ok (.iload_n 1, 1) := by decide +kernel
theorem d_Mo_directs_13 : decode b_Mo_directs 13 = .ok (.iaload, 1) := by decide +kernel
theorem d_Mo_directs_14 : decode b_Mo_directs 14 = .ok (.invokevirtual 601, 3) := by decide +kernel
theorem d_Mo_directs_17 : decode b_Mo_directs 17 = .ok (.goto 8, 3) := by decide +kernel
theorem d_Mo_directs_20 : decode b_Mo_directs 20 = .ok (.aload_n 0, 1) := by decide +kernel
theorem d_Mo_directs_21 : decode b_Mo_directs 21 = .ok (.iload_n 1, 1) := by decide +kernel
theorem d_Mo_directs_22 : decode b_Mo_directs 22 = .ok (.invokevirtual 725, 3) := by decide +kernel
theorem d_Mo_directs_25 : decode b_Mo_directs 25 = .ok (.istore_n 3, 1) := by decide +kernel
theorem d_Mo_directs_26 : decode b_Mo_directs 26 = .ok (.iload_n 3, 1) := by decide +kernel
theorem d_Mo_directs_27 : decode b_Mo_directs 27 = .ok (.ifCond .lt 9, 3) := by decide +kernel
theorem d_Mo_directs_30 : decode b_Mo_directs 30 = .ok (.lconst 1, 1) := by decide +kernel
theorem d_Mo_directs_31 : decode b_Mo_directs 31 = .ok (.iload_n 3, 1) := by decide +kernel
theorem d_Mo_directs_32 : decode b_Mo_directs 32 = .ok (.lshl, 1) := by decide +kernel
theorem d_Mo_directs_33 : decode b_Mo_directs 33 = .ok (.goto 4, 3) := by decide +kernel
theorem d_Mo_directs_36 : decode b_Mo_directs 36 = .ok (.lconst 0, 1) := by decide +kernel
theorem d_Mo_directs_37 : decode b_Mo_directs 37 = .ok (.lstore 4, 2) := by decide +kernel
theorem d_Mo_directs_39 : decode b_Mo_directs 39 = .ok (.iconst 0, 1) := by decide +kernel
theorem d_Mo_directs_40 : decode b_Mo_directs 40 = .ok (.istore 6, 2) := by decide +kernel
theorem d_Mo_directs_42 : decode b_Mo_directs 42 = .ok (.iload 6, 2) := by decide +kernel
theorem d_Mo_directs_44 : decode b_Mo_directs 44 = .ok (.aload_n 0, 1) := by decide +kernel
theorem d_Mo_directs_45 : decode b_Mo_directs 45 = .ok (.getfield 522, 3) := by decide +kernel
theorem d_Mo_directs_48 : decode b_Mo_directs 48 = .ok (.getfield 432, 3) := by decide +kernel
theorem d_Mo_directs_51 : decode b_Mo_directs 51 = .ok (.iload_n 1, 1) := by decide +kernel
theorem d_Mo_directs_52 : decode b_Mo_directs 52 = .ok (.iaload, 1) := by decide +kernel
theorem d_Mo_directs_53 : decode b_Mo_directs 53 = .ok (.if_icmp .ge 47, 3) := by decide +kernel
theorem d_Mo_directs_56 : decode b_Mo_directs 56 = .ok (.aload_n 0, 1) := by decide +kernel
theorem d_Mo_directs_57 : decode b_Mo_directs 57 = .ok (.aload_n 0, 1) := by decide +kernel
theorem d_Mo_directs_58 : decode b_Mo_directs 58 = .ok (.getfield 522, 3) := by decide +kernel
theorem d_Mo_directs_61 : decode b_Mo_directs 61 = .ok (.getfield 612, 3) := by decide +kernel
theorem d_Mo_directs_64 : decode b_Mo_directs 64 = .ok (.iconst 4, 1) := by decide +kernel
theorem d_Mo_directs_65 : decode b_Mo_directs 65 = .ok (.iload_n 1, 1) := by decide +kernel
theorem d_Mo_directs_66 : decode b_Mo_directs 66 = .ok (.imul, 1) := by decide +kernel
theorem d_Mo_directs_67 : decode b_Mo_directs 67 = .ok (.iload 6, 2) := by decide +kernel
theorem d_Mo_directs_69 : decode b_Mo_directs 69 = .ok (.iadd, 1) := by decide +kernel
theorem d_Mo_directs_70 : decode b_Mo_directs 70 = .ok (.iaload, 1) := by decide +kernel
theorem d_Mo_directs_71 : decode b_Mo_directs 71 = .ok (.invokevirtual 601, 3) := by decide +kernel
theorem d_Mo_directs_74 : decode b_Mo_directs 74 = .ok (.istore 7, 2) := by decide +kernel
theorem d_Mo_directs_76 : decode b_Mo_directs 76 = .ok (.lload 4, 2) := by decide +kernel
theorem d_Mo_directs_78 : decode b_Mo_directs 78 = .ok (.iload 7, 2) := by decide +kernel
theorem d_Mo_directs_80 : decode b_Mo_directs 80 = .ok (.ifCond .lt 10, 3) := by decide +kernel
theorem d_Mo_directs_83 : decode b_Mo_directs 83 = .ok (.lconst 1, 1) := by decide +kernel
theorem d_Mo_directs_84 : decode b_Mo_directs 84 = .ok (.iload 7, 2) := by decide +kernel
theorem d_Mo_directs_86 : decode b_Mo_directs 86 = .ok (.lshl, 1) := by decide +kernel
theorem d_Mo_directs_87 : decode b_Mo_directs 87 = .ok (.goto 4, 3) := by decide +kernel
theorem d_Mo_directs_90 : decode b_Mo_directs 90 = .ok (.lconst 0, 1) := by decide +kernel
theorem d_Mo_directs_91 : decode b_Mo_directs 91 = .ok (.lor, 1) := by decide +kernel
theorem d_Mo_directs_92 : decode b_Mo_directs 92 = .ok (.lstore 4, 2) := by decide +kernel
theorem d_Mo_directs_94 : decode b_Mo_directs 94 = .ok (.iinc 6 1, 3) := by decide +kernel
theorem d_Mo_directs_97 : decode b_Mo_directs 97 = .ok (.goto (-55), 3) := by decide +kernel
theorem d_Mo_directs_100 : decode b_Mo_directs 100 = .ok (.lload 4, 2) := by decide +kernel
theorem d_Mo_directs_102 : decode b_Mo_directs 102 = .ok (.lreturn, 1) := by decide +kernel
abbrev ru_Mo_directs : Room := { frames := 2, cells := 0, slots := 0, locals := 43 }
def wj_Mo_directs_91 (y : Ly) (Post : St → Int64 → Prop) (K_42 : St → Int32 → Int64 → Int32 → Prop) (a0 : Nat) (s_j91 : St) (x1j91 : Int32) (x6j91 : Int32) (z0j91 : Int64) (z1j91 : Int64) : Prop := K_42 s_j91 x1j91 (z0j91 ||| z1j91) (x6j91 + 1)
def wb_Mo_directs_42 (y : Ly) (Post : St → Int64 → Prop) (K_42 : St → Int32 → Int64 → Int32 → Prop) (a0 : Nat) (s_h42 : St) (x1h42 : Int32) (x4h42 : Int64) (x6h42 : Int32) : Prop := ∃ b_1 : Nat, sO s_h42 a0 45 = some b_1 ∧ cl b_1 = 13 ∧ xA y s_h42 b_1 7 x1h42 (fun x_4 : Int32 => ((x_4 ≤ x6h42 → Post s_h42 x4h42) ∧ (¬ (x_4 ≤ x6h42) → ∃ b_5 : Nat, sO s_h42 a0 45 = some b_5 ∧ cl b_5 = 13 ∧ xA y s_h42 b_5 6 ((4 * x1h42) + x6h42) (fun x_8 : Int32 => wu_Mo_classOf y (fun (s_10 : St) (r_9 : Int32) => ((r_9 < 0 → wj_Mo_directs_91 y Post K_42 a0 s_10 x1h42 x6h42 x4h42 0) ∧ (¬ (r_9 < 0) → wj_Mo_directs_91 y Post K_42 a0 s_10 x1h42 x6h42 x4h42 (1 <<< (r_9.toInt64 &&& 63))))) s_h42 a0 x_8))))
def wl_Mo_directs_42 (y : Ly) (Post : St → Int64 → Prop) (a0 : Nat) (s_h42 : St) (x1h42 : Int32) (x4h42 : Int64) (x6h42 : Int32) : Prop := ∃ (I : St → Int32 → Int64 → Int32 → Prop) (μ : St → Int32 → Int64 → Int32 → Nat), I s_h42 x1h42 x4h42 x6h42 ∧ ∀ (u : St) (t0 : Int32) (t1 : Int64) (t2 : Int32), I u t0 t1 t2 → wb_Mo_directs_42 y Post (fun z t0q t1q t2q => I z t0q t1q t2q ∧ μ z t0q t1q t2q < μ u t0 t1 t2) a0 u t0 t1 t2
def wj_Mo_directs_37 (y : Ly) (Post : St → Int64 → Prop) (a0 : Nat) (s_j37 : St) (x1j37 : Int32) (z0j37 : Int64) : Prop := wl_Mo_directs_42 y Post a0 s_j37 x1j37 z0j37 0
def wj_Mo_directs_25 (y : Ly) (Post : St → Int64 → Prop) (a0 : Nat) (s_j25 : St) (x1j25 : Int32) (z0j25 : Int32) : Prop := ((z0j25 < 0 → wj_Mo_directs_37 y Post a0 s_j25 x1j25 0) ∧ (¬ (z0j25 < 0) → wj_Mo_directs_37 y Post a0 s_j25 x1j25 (1 <<< (z0j25.toInt64 &&& 63))))
def wu_Mo_directs (y : Ly) (Post : St → Int64 → Prop) (σ : St) (a0 : Nat) (v1 : Int32) (v2 : Int32) : Prop := ((v2 = 0 → wu_Mo_parentOf y (fun (s_12 : St) (r_11 : Int32) => wj_Mo_directs_25 y Post a0 s_12 v1 r_11) σ a0 v1) ∧ (¬ (v2 = 0) → ∃ b_13 : Nat, sO σ a0 45 = some b_13 ∧ cl b_13 = 13 ∧ xA y σ b_13 4 v1 (fun x_16 : Int32 => wu_Mo_classOf y (fun (s_18 : St) (r_17 : Int32) => wj_Mo_directs_25 y Post a0 s_18 v1 r_17) σ a0 x_16)))
set_option maxHeartbeats 4000000 in
set_option maxRecDepth 100000 in
theorem cu_Mo_directs (l : Launch) (D : va_G) (g : Nat → ClassId) (ad : Nat → Nat) (y : Ly) (Post : St → Int64 → Prop) (σ : St) (a0 : Nat) (v1 : Int32) (v2 : Int32) (sz : Nat) (h_a0 : cl a0 = 14) (h : wu_Mo_directs y Post σ a0 v1 v2) : Met l y_Mo_directs (mw y_Mo_directs b_Mo_directs 8 (some (.long))) ru_Mo_directs (PC g D [] [.ref (ad a0), .int v1, .int v2] sz (ws g ad y σ)) (va_Ql (fun (r : Int64) (u : St) => Post u r) (QW D (va_A (ws g ad y σ) sz) (fun u => ws g ad y u)) (va_A (ws g ad y σ) sz)) 0 0 (va_A (ws g ad y σ) sz) := by
  refine ofL (by decide +kernel) (Nat.le_of_ble_eq_true rfl) ?_
  intro p e s m args below meth c A Q ls H locs G hsz hP hD hS hl hret
  subst hsz
  have hl : lv_has ls 8 [(0, .ref (ad a0)), (1, .int v1), (2, .int v2)] := hl
  unfold wu_Mo_directs at h
  refine lv_iload_n G.1 G.2.1 d_Mo_directs_0 rfl (lv_at hl 2 rfl) ?_
  have J_25 : ∀ (s_j25 : St) (x1j25 : Int32) (z0j25 : Int32) (H : Heap) (locs : List Loc), wj_Mo_directs_25 y Post a0 s_j25 x1j25 z0j25 → va_P D CL (ws g ad y s_j25) H → va_D A (ws g ad y s_j25) → va_S A s.heap H locs → ∀ ls, lv_has ls 8 [(0, .ref (ad a0)), (1, .int x1j25)] → W p l e ru_Mo_directs s m args below meth c H locs 0 0 Q (F0 m 25 ls [.int z0j25]) := by
    intro s_j25 x1j25 z0j25 H locs h hP hD hS ls hl
    unfold wj_Mo_directs_25 at h
    refine lv_istore_n (lv' := [(3, .int z0j25), (0, .ref (ad a0)), (1, .int x1j25)]) G.1 G.2.1 d_Mo_directs_25 rfl hl (by decide) rfl (fun ls hl => ?_)
    refine lv_iload_n G.1 G.2.1 d_Mo_directs_26 rfl (lv_at hl 0 rfl) ?_
    have J_37 : ∀ (s_j37 : St) (x1j37 : Int32) (z0j37 : Int64) (H : Heap) (locs : List Loc), wj_Mo_directs_37 y Post a0 s_j37 x1j37 z0j37 → va_P D CL (ws g ad y s_j37) H → va_D A (ws g ad y s_j37) → va_S A s.heap H locs → ∀ ls, lv_has ls 8 [(0, .ref (ad a0)), (1, .int x1j37)] → W p l e ru_Mo_directs s m args below meth c H locs 0 0 Q (F0 m 37 ls [.long z0j37]) := by
      intro s_j37 x1j37 z0j37 H locs h hP hD hS ls hl
      unfold wj_Mo_directs_37 at h
      refine lv_lstore (lv' := [(4, .long z0j37), (0, .ref (ad a0)), (1, .int x1j37)]) G.1 G.2.1 d_Mo_directs_37 hl (by decide) rfl (fun ls hl => ?_)
      refine lv_iconst (v := 0) G.1 G.2.1 d_Mo_directs_39 (by decide) ?_
      refine lv_istore (lv' := [(6, .int 0), (4, .long z0j37), (0, .ref (ad a0)), (1, .int x1j37)]) G.1 G.2.1 d_Mo_directs_40 hl (by decide) rfl (fun ls hl => ?_)
      unfold wl_Mo_directs_42 at h
      obtain ⟨I_42, μ_42, hI_42, hB_42⟩ := h
      have L_42 : ∀ (n_42 : Nat) (s_h42 : St) (x1h42 : Int32) (x4h42 : Int64) (x6h42 : Int32), μ_42 s_h42 x1h42 x4h42 x6h42 < n_42 → I_42 s_h42 x1h42 x4h42 x6h42 → ∀ (H : Heap) (locs : List Loc), va_P D CL (ws g ad y s_h42) H → va_D A (ws g ad y s_h42) → va_S A s.heap H locs → ∀ ls, lv_has ls 8 [(0, .ref (ad a0)), (1, .int x1h42), (4, .long x4h42), (6, .int x6h42)] → W p l e ru_Mo_directs s m args below meth c H locs 0 0 Q (F0 m 42 ls []) := by
        intro n_42
        induction n_42 with
        | zero => intro s_h42 x1h42 x4h42 x6h42 hμ; exact absurd hμ (Nat.not_lt_zero _)
        | succ n_42 ih_42 =>
          intro s_h42 x1h42 x4h42 x6h42 hμ_42 hJ H locs hP hD hS ls hl
          obtain ⟨K_42, hK_42, h⟩ : ∃ K : St → Int32 → Int64 → Int32 → Prop, (∀ z (t0 : Int32) (t1 : Int64) (t2 : Int32), K z t0 t1 t2 → I_42 z t0 t1 t2 ∧ μ_42 z t0 t1 t2 < μ_42 s_h42 x1h42 x4h42 x6h42) ∧ wb_Mo_directs_42 y Post K a0 s_h42 x1h42 x4h42 x6h42 := ⟨_, fun _ _ _ _ h => h, hB_42 s_h42 x1h42 x4h42 x6h42 hJ⟩
          unfold wb_Mo_directs_42 at h
          refine lv_iload G.1 G.2.1 d_Mo_directs_42 (lv_at hl 3 rfl) ?_
          refine lv_aload_n G.1 G.2.1 d_Mo_directs_44 rfl (lv_at hl 0 rfl) ?_
          obtain ⟨b_1, e_2, c_3, h⟩ := h
          refine ugf (v := .ref (ad b_1)) G hP h_a0 iMo rfl 45 (by decide) rfl q3109 rfl (by show va_rf ((sO s_h42 a0 45).map ad) = _; rw [e_2]; rfl) d_Mo_directs_45 ?_
          refine ugfN (v := .ref (yP y b_1 7)) G hP c_3 iMw rfl 7 (by decide) rfl q2718 rfl rfl d_Mo_directs_48 ?_
          refine lv_iload_n G.1 G.2.1 d_Mo_directs_51 rfl (lv_at hl 1 rfl) ?_
          refine uiald G hP (kdp c_3 rfl) (typ c_3 rfl) h d_Mo_directs_52 (fun x_4 h => ?_)
          refine lv_icmp_ge (tgt := 100) G.1 G.2.1 d_Mo_directs_53 (by decide) (fun c53 => ?_) (fun c53 => ?_)
          · skip
            have h := h.1 c53
            refine lv_lload G.1 G.2.1 d_Mo_directs_100 (lv_at hl 2 rfl) ?_
            exact hret _ _ _ _ _ _ _ ls h hP hD hS (Nat.le_refl _) (Nat.le_refl _) d_Mo_directs_102
          · skip
            have h := h.2 c53
            refine lv_aload_n G.1 G.2.1 d_Mo_directs_56 rfl (lv_at hl 0 rfl) ?_
            refine lv_aload_n G.1 G.2.1 d_Mo_directs_57 rfl (lv_at hl 0 rfl) ?_
            obtain ⟨b_5, e_6, c_7, h⟩ := h
            refine ugf (v := .ref (ad b_5)) G hP h_a0 iMo rfl 45 (by decide) rfl q3109 rfl (by show va_rf ((sO s_h42 a0 45).map ad) = _; rw [e_6]; rfl) d_Mo_directs_58 ?_
            refine ugfN (v := .ref (yP y b_5 6)) G hP c_7 iMw rfl 6 (by decide) rfl q2716 rfl rfl d_Mo_directs_61 ?_
            refine W.eq (g2 := F0 m 64 ls [.ref (yP y b_5 6), .ref (ad a0)]) rfl ?_
            refine lv_iconst (v := 4) G.1 G.2.1 d_Mo_directs_64 (by decide) ?_
            refine lv_iload_n G.1 G.2.1 d_Mo_directs_65 rfl (lv_at hl 1 rfl) ?_
            refine lv_imul G.1 G.2.1 d_Mo_directs_66 ?_
            refine lv_iload G.1 G.2.1 d_Mo_directs_67 (lv_at hl 3 rfl) ?_
            refine lv_iadd G.1 G.2.1 d_Mo_directs_69 ?_
            refine uiald G hP (kdp c_7 rfl) (typ c_7 rfl) h d_Mo_directs_70 (fun x_8 h => ?_)
            refine ucVi (As := [.int x_8]) (rest := []) G hP hD hS (cu_Mo_classOf l D g ad y _ s_h42 a0 x_8 H.size h_a0 h) w9_Mo_classOf q3571 ⟨Nat.le_of_ble_eq_true rfl, Nat.le_of_ble_eq_true rfl⟩ rfl rfl h_a0 (q := (RMo, TMo, 131)) rfl rfl hl.1 rfl (Nat.le_of_ble_eq_true rfl) rfl ⟨Nat.le_refl _, Nat.le_refl _⟩ d_Mo_directs_71 (fun r_9 s_10 H locs h hP hD hS => ?_)
            refine lv_istore (lv' := [(7, .int r_9), (0, .ref (ad a0)), (1, .int x1h42), (4, .long x4h42), (6, .int x6h42)]) G.1 G.2.1 d_Mo_directs_74 hl (by decide) rfl (fun ls hl => ?_)
            refine lv_lload G.1 G.2.1 d_Mo_directs_76 (lv_at hl 3 rfl) ?_
            refine lv_iload G.1 G.2.1 d_Mo_directs_78 (lv_at hl 0 rfl) ?_
            have J_91 : ∀ (s_j91 : St) (x1j91 : Int32) (x6j91 : Int32) (z0j91 : Int64) (z1j91 : Int64) (H : Heap) (locs : List Loc), wj_Mo_directs_91 y Post K_42 a0 s_j91 x1j91 x6j91 z0j91 z1j91 → va_P D CL (ws g ad y s_j91) H → va_D A (ws g ad y s_j91) → va_S A s.heap H locs → ∀ ls, lv_has ls 8 [(0, .ref (ad a0)), (1, .int x1j91), (6, .int x6j91)] → W p l e ru_Mo_directs s m args below meth c H locs 0 0 Q (F0 m 91 ls [.long z1j91, .long z0j91]) := by
              intro s_j91 x1j91 x6j91 z0j91 z1j91 H locs h hP hD hS ls hl
              unfold wj_Mo_directs_91 at h
              refine lv_lor G.1 G.2.1 d_Mo_directs_91 ?_
              refine lv_lstore (lv' := [(4, .long (z0j91 ||| z1j91)), (0, .ref (ad a0)), (1, .int x1j91), (6, .int x6j91)]) G.1 G.2.1 d_Mo_directs_92 hl (by decide) rfl (fun ls hl => ?_)
              refine lv_iinc (v := x6j91 + 1) (lv' := [(6, .int (x6j91 + 1)), (4, .long (z0j91 ||| z1j91)), (0, .ref (ad a0)), (1, .int x1j91)]) G.1 G.2.1 d_Mo_directs_94 hl (k := 3) rfl rfl (by decide) rfl (fun ls hl => ?_)
              refine lv_goto (tgt := 42) G.1 G.2.1 d_Mo_directs_97 (by decide) ?_
              have h := hK_42 s_j91 x1j91 (z0j91 ||| z1j91) (x6j91 + 1) h
              exact ih_42 s_j91 x1j91 (z0j91 ||| z1j91) (x6j91 + 1) (Nat.lt_of_lt_of_le h.2 (Nat.le_of_lt_succ hμ_42)) h.1 H locs hP hD hS ls (lv_sub hl [2, 3, 1, 0] rfl)
            refine lv_if_lt (tgt := 90) G.1 G.2.1 d_Mo_directs_80 (by decide) (fun c80 => ?_) (fun c80 => ?_)
            · skip
              have h := h.1 c80
              refine lv_lconst (v := 0) G.1 G.2.1 d_Mo_directs_90 (by decide) ?_
              exact J_91 s_10 x1h42 x6h42 x4h42 0 H locs h hP hD hS ls (lv_sub hl [1, 2, 4] rfl)
            · skip
              have h := h.2 c80
              refine lv_lconst (v := 1) G.1 G.2.1 d_Mo_directs_83 (by decide) ?_
              refine W.eq (g2 := F0 m 84 ls [.long 1, .long x4h42]) rfl ?_
              refine lv_iload G.1 G.2.1 d_Mo_directs_84 (lv_at hl 0 rfl) ?_
              refine lv_lshl G.1 G.2.1 d_Mo_directs_86 rfl ?_
              refine lv_goto (tgt := 91) G.1 G.2.1 d_Mo_directs_87 (by decide) ?_
              exact J_91 s_10 x1h42 x6h42 x4h42 (1 <<< (r_9.toInt64 &&& 63)) H locs h hP hD hS ls (lv_sub hl [1, 2, 4] rfl)
      exact L_42 _ s_j37 x1j37 z0j37 0 (Nat.lt_succ_self _) hI_42 H locs hP hD hS ls (lv_sub hl [2, 3, 1, 0] rfl)
    refine lv_if_lt (tgt := 36) G.1 G.2.1 d_Mo_directs_27 (by decide) (fun c27 => ?_) (fun c27 => ?_)
    · skip
      have h := h.1 c27
      refine lv_lconst (v := 0) G.1 G.2.1 d_Mo_directs_36 (by decide) ?_
      exact J_37 s_j25 x1j25 0 H locs h hP hD hS ls (lv_sub hl [1, 2] rfl)
    · skip
      have h := h.2 c27
      refine lv_lconst (v := 1) G.1 G.2.1 d_Mo_directs_30 (by decide) ?_
      refine lv_iload_n G.1 G.2.1 d_Mo_directs_31 rfl (lv_at hl 0 rfl) ?_
      refine lv_lshl G.1 G.2.1 d_Mo_directs_32 rfl ?_
      refine lv_goto (tgt := 37) G.1 G.2.1 d_Mo_directs_33 (by decide) ?_
      exact J_37 s_j25 x1j25 (1 <<< (z0j25.toInt64 &&& 63)) H locs h hP hD hS ls (lv_sub hl [1, 2] rfl)
  refine lv_if_eq (tgt := 20) G.1 G.2.1 d_Mo_directs_1 (by decide) (fun c1 => ?_) (fun c1 => ?_)
  · skip
    have h := h.1 c1
    refine lv_aload_n G.1 G.2.1 d_Mo_directs_20 rfl (lv_at hl 0 rfl) ?_
    refine lv_iload_n G.1 G.2.1 d_Mo_directs_21 rfl (lv_at hl 1 rfl) ?_
    refine ucVi (As := [.int v1]) (rest := []) G hP hD hS (cu_Mo_parentOf l D g ad y _ σ a0 v1 H.size h_a0 h) w9_Mo_parentOf q3689 ⟨Nat.le_of_ble_eq_true rfl, Nat.le_of_ble_eq_true rfl⟩ rfl rfl h_a0 (q := (RMo, TMo, 131)) rfl rfl hl.1 rfl (Nat.le_of_ble_eq_true rfl) rfl ⟨Nat.le_refl _, Nat.le_refl _⟩ d_Mo_directs_22 (fun r_11 s_12 H locs h hP hD hS => ?_)
    exact J_25 s_12 v1 r_11 H locs h hP hD hS ls (lv_sub hl [0, 1] rfl)
  · skip
    have h := h.2 c1
    refine lv_aload_n G.1 G.2.1 d_Mo_directs_4 rfl (lv_at hl 0 rfl) ?_
    refine lv_aload_n G.1 G.2.1 d_Mo_directs_5 rfl (lv_at hl 0 rfl) ?_
    obtain ⟨b_13, e_14, c_15, h⟩ := h
    refine ugf (v := .ref (ad b_13)) G hP h_a0 iMo rfl 45 (by decide) rfl q3109 rfl (by show va_rf ((sO σ a0 45).map ad) = _; rw [e_14]; rfl) d_Mo_directs_6 ?_
    refine ugfN (v := .ref (yP y b_13 4)) G hP c_15 iMw rfl 4 (by decide) rfl q2712 rfl rfl d_Mo_directs_9 ?_
    refine lv_iload_n G.1 G.2.1 d_Mo_directs_12 rfl (lv_at hl 1 rfl) ?_
    refine uiald G hP (kdp c_15 rfl) (typ c_15 rfl) h d_Mo_directs_13 (fun x_16 h => ?_)
    refine ucVi (As := [.int x_16]) (rest := []) G hP hD hS (cu_Mo_classOf l D g ad y _ σ a0 x_16 H.size h_a0 h) w9_Mo_classOf q3571 ⟨Nat.le_of_ble_eq_true rfl, Nat.le_of_ble_eq_true rfl⟩ rfl rfl h_a0 (q := (RMo, TMo, 131)) rfl rfl hl.1 rfl (Nat.le_of_ble_eq_true rfl) rfl ⟨Nat.le_refl _, Nat.le_refl _⟩ d_Mo_directs_14 (fun r_17 s_18 H locs h hP hD hS => ?_)
    refine lv_goto (tgt := 25) G.1 G.2.1 d_Mo_directs_17 (by decide) ?_
    exact J_25 s_18 v1 r_17 H locs h hP hD hS ls (lv_sub hl [0, 1] rfl)
theorem q3685 : Cond.methodLink "ClassWorksModel" 728 y_Mo_directs ∈ lw_ok := lw_okmem (List.mem_of_getElem? (i := 3685) (by decide +kernel)) rfl
theorem q3688 : Cond.code y_Mo_directs b_Mo_directs 8 (some (.long)) ∈ lw_ok := lw_okmem (List.mem_of_getElem? (i := 3688) (by decide +kernel)) rfl
theorem q3687 : Cond.instanceMethod y_Mo_directs ∈ lw_ok := lw_okmem (List.mem_of_getElem? (i := 3687) (by decide +kernel)) rfl
theorem q218 : Cond.selects y_Mo_directs.cls y_Mo_directs y_Mo_directs ∈ lw_ok := lw_okmem (List.mem_of_getElem? (i := 218) (by decide +kernel)) rfl
theorem w9_Mo_directs : CWv y_Mo_directs b_Mo_directs 8 (some (.long)) 2 ∧ Cond.instanceMethod y_Mo_directs ∈ lw_ok ∧ Cond.selects y_Mo_directs.cls y_Mo_directs y_Mo_directs ∈ lw_ok := ⟨⟨q3688, q348, by decide +kernel, by decide +kernel, by decide +kernel⟩, q3687, q218⟩
def y_Mo_upFrom : MethodName := ⟨"ClassWorksModel", "upFrom", "(JZ)J"⟩
abbrev b_Mo_upFrom : ByteArray := prog_14_method_51_code
theorem d_Mo_upFrom_0 : decode b_Mo_upFrom 0 = .ok (.lload_n 1, 1) := by decide +kernel
theorem d_Mo_upFrom_1 : decode b_Mo_upFrom 1 = .ok (.lstore 4, 2) := by decide +kernel
theorem d_Mo_upFrom_3 : decode b_Mo_upFrom 3 = .ok (.iconst 1, 1) := by decide +kernel
theorem d_Mo_upFrom_4 : decode b_Mo_upFrom 4 = .ok (.istore 6, 2) := by decide +kernel
theorem d_Mo_upFrom_6 : decode b_Mo_upFrom 6 = .ok (.iload 6, 2) := by decide +kernel
theorem d_Mo_upFrom_8 : decode b_Mo_upFrom 8 = .ok (.ifCond .eq 78, 3) := by decide +kernel
theorem d_Mo_upFrom_11 : decode b_Mo_upFrom 11 = .ok (.lload 4, 2) := by decide +kernel
theorem d_Mo_upFrom_13 : decode b_Mo_upFrom 13 = .ok (.lstore 7, 2) := by decide +kernel
theorem d_Mo_upFrom_15 : decode b_Mo_upFrom 15 = .ok (.iconst 0, 1) := by decide +kernel
theorem d_Mo_upFrom_16 : decode b_Mo_upFrom 16 = .ok (.istore 9, 2) := by decide +kernel
theorem d_Mo_upFrom_18 : decode b_Mo_upFrom 18 = .ok (.iload 9, 2) := by decide +kernel
theorem d_Mo_upFrom_20 : decode b_Mo_upFrom 20 = .ok (.aload_n 0, 1) := by decide +kernel
theorem d_Mo_upFrom_21 : decode b_Mo_upFrom 21 = .ok (.getfield 522, 3) := by decide +kernel
theorem d_Mo_upFrom_24 : decode b_Mo_upFrom 24 = .ok (.getfield 420, 3) := by decide +kernel
theorem d_Mo_upFrom_27 : decode b_Mo_upFrom 27 = .ok (.if_icmp .ge 37, 3) := by decide +kernel
theorem d_Mo_upFrom_30 : decode b_Mo_upFrom 30 = .ok (.lload 7, 2) := by decide +kernel
theorem d_Mo_upFrom_32 : decode b_Mo_upFrom 32 = .ok (.lload 4, 2) := by decide +kernel
theorem d_Mo_upFrom_34 : decode b_Mo_upFrom 34 = .ok (.iload 9, 2) := by decide +kernel
theorem d_Mo_upFrom_36 : decode b_Mo_upFrom 36 = .ok (.lshr, 1) := by decide +kernel
theorem d_Mo_upFrom_37 : decode b_Mo_upFrom 37 = .ok (.lconst 1, 1) := by decide +kernel
theorem d_Mo_upFrom_38 : decode b_Mo_upFrom 38 = .ok (.land, 1) := by decide +kernel
theorem d_Mo_upFrom_39 : decode b_Mo_upFrom 39 = .ok (.lconst 1, 1) := by decide +kernel
theorem d_Mo_upFrom_40 : decode b_Mo_upFrom 40 = .ok (.lcmp, 1) := by decide +kernel
theorem d_Mo_upFrom_41 : decode b_Mo_upFrom 41 = .ok (.ifCond .ne 13, 3) := by decide +kernel
theorem d_Mo_upFrom_44 : decode b_Mo_upFrom 44 = .ok (.aload_n 0, 1) := by decide +kernel
theorem d_Mo_upFrom_45 : decode b_Mo_upFrom 45 = .ok (.iload 9, 2) := by decide +kernel
theorem d_Mo_upFrom_47 : decode b_Mo_upFrom 47 = .ok (.iload_n 3, 1) := by decide +kernel
theorem d_Mo_upFrom_48 : decode b_Mo_upFrom 48 = .ok (.invokevirtual 728, 3) := by decide +kernel
theorem d_Mo_upFrom_51 : decode b_Mo_upFrom 51 = .ok (.goto 4, 3) := by decide +kernel
theorem d_Mo_upFrom_54 : decode b_Mo_upFrom 54 = .ok (.lconst 0, 1) := by decide +kernel
theorem d_Mo_upFrom_55 : decode b_Mo_upFrom 55 = .ok (.lor, 1) := by decide +kernel
theorem d_Mo_upFrom_56 : decode b_Mo_upFrom 56 = .ok (.lstore 7, 2) := by decide +kernel
theorem d_Mo_upFrom_58 : decode b_Mo_upFrom 58 = .ok (.iinc 9 1, 3) := by decide +kernel
theorem d_Mo_upFrom_61 : decode b_Mo_upFrom 61 = .ok (.goto (-43), 3) := by decide +kernel
theorem d_Mo_upFrom_64 : decode b_Mo_upFrom 64 = .ok (.lload 7, 2) := by decide +kernel
theorem d_Mo_upFrom_66 : decode b_Mo_upFrom 66 = .ok (.lload 4, 2) := by decide +kernel
theorem d_Mo_upFrom_68 : decode b_Mo_upFrom 68 = .ok (.lcmp, 1) := by decide +kernel
theorem d_Mo_upFrom_69 : decode b_Mo_upFrom 69 = .ok (.ifCond .eq 7, 3) := by decide +kernel
theorem d_Mo_upFrom_72 : decode b_Mo_upFrom 72 = .ok (.iconst 1, 1) := by decide +kernel
theorem d_Mo_upFrom_73 : decode b_Mo_upFrom 73 = .ok (.goto 4, 3) := by decide +kernel
theorem d_Mo_upFrom_76 : decode b_Mo_upFrom 76 = .ok (.iconst 0, 1) := by decide +kernel
theorem d_Mo_upFrom_77 : decode b_Mo_upFrom 77 = .ok (.istore 6, 2) := by decide +kernel
theorem d_Mo_upFrom_79 : decode b_Mo_upFrom 79 = .ok (.lload 7, 2) := by decide +kernel
theorem d_Mo_upFrom_81 : decode b_Mo_upFrom 81 = .ok (.lstore 4, 2) := by decide +kernel
theorem d_Mo_upFrom_83 : decode b_Mo_upFrom 83 = .ok (.goto (-77), 3) := by decide +kernel
theorem d_Mo_upFrom_86 : decode b_Mo_upFrom 86 = .ok (.lload 4, 2) := by decide +kernel
theorem d_Mo_upFrom_88 : decode b_Mo_upFrom 88 = .ok (.lreturn, 1) := by decide +kernel
abbrev ru_Mo_upFrom : Room := { frames := 3, cells := 0, slots := 0, locals := 70 }
def wj_Mo_upFrom_77 (y : Ly) (Post : St → Int64 → Prop) (K_6 : St → Int32 → Int64 → Int32 → Prop) (a0 : Nat) (s_j77 : St) (x3j77 : Int32) (x7j77 : Int64) (z0j77 : Int32) : Prop := K_6 s_j77 x3j77 x7j77 z0j77
def wj_Mo_upFrom_55 (y : Ly) (Post : St → Int64 → Prop) (K_6 : St → Int32 → Int64 → Int32 → Prop) (K_18 : St → Int32 → Int64 → Int64 → Int32 → Prop) (a0 : Nat) (s_j55 : St) (x3j55 : Int32) (x4j55 : Int64) (x9j55 : Int32) (z0j55 : Int64) (z1j55 : Int64) : Prop := K_18 s_j55 x3j55 x4j55 (z0j55 ||| z1j55) (x9j55 + 1)
def wb_Mo_upFrom_18 (y : Ly) (Post : St → Int64 → Prop) (K_6 : St → Int32 → Int64 → Int32 → Prop) (K_18 : St → Int32 → Int64 → Int64 → Int32 → Prop) (a0 : Nat) (s_h18 : St) (x3h18 : Int32) (x4h18 : Int64) (x7h18 : Int64) (x9h18 : Int32) : Prop := ∃ b_1 : Nat, sO s_h18 a0 45 = some b_1 ∧ cl b_1 = 13 ∧ (((sV s_h18 b_1 2) ≤ x9h18 → (((lg_cmp x7h18 x4h18) = 0 → wj_Mo_upFrom_77 y Post K_6 a0 s_h18 x3h18 x7h18 0) ∧ (¬ ((lg_cmp x7h18 x4h18) = 0) → wj_Mo_upFrom_77 y Post K_6 a0 s_h18 x3h18 x7h18 1))) ∧ (¬ ((sV s_h18 b_1 2) ≤ x9h18) → ((¬ (lg_cmp ((x4h18 >>> (x9h18.toInt64 &&& 63)) &&& 1) 1) = 0 → wj_Mo_upFrom_55 y Post K_6 K_18 a0 s_h18 x3h18 x4h18 x9h18 x7h18 0) ∧ ((lg_cmp ((x4h18 >>> (x9h18.toInt64 &&& 63)) &&& 1) 1) = 0 → wu_Mo_directs y (fun (s_5 : St) (r_4 : Int64) => wj_Mo_upFrom_55 y Post K_6 K_18 a0 s_5 x3h18 x4h18 x9h18 x7h18 r_4) s_h18 a0 x9h18 x3h18))))
def wl_Mo_upFrom_18 (y : Ly) (Post : St → Int64 → Prop) (K_6 : St → Int32 → Int64 → Int32 → Prop) (a0 : Nat) (s_h18 : St) (x3h18 : Int32) (x4h18 : Int64) (x7h18 : Int64) (x9h18 : Int32) : Prop := ∃ (I : St → Int32 → Int64 → Int64 → Int32 → Prop) (μ : St → Int32 → Int64 → Int64 → Int32 → Nat), I s_h18 x3h18 x4h18 x7h18 x9h18 ∧ ∀ (u : St) (t0 : Int32) (t1 : Int64) (t2 : Int64) (t3 : Int32), I u t0 t1 t2 t3 → wb_Mo_upFrom_18 y Post K_6 (fun z t0q t1q t2q t3q => I z t0q t1q t2q t3q ∧ μ z t0q t1q t2q t3q < μ u t0 t1 t2 t3) a0 u t0 t1 t2 t3
def wb_Mo_upFrom_6 (y : Ly) (Post : St → Int64 → Prop) (K_6 : St → Int32 → Int64 → Int32 → Prop) (a0 : Nat) (s_h6 : St) (x3h6 : Int32) (x4h6 : Int64) (x6h6 : Int32) : Prop := ((x6h6 = 0 → Post s_h6 x4h6) ∧ (¬ (x6h6 = 0) → wl_Mo_upFrom_18 y Post K_6 a0 s_h6 x3h6 x4h6 x4h6 0))
def wl_Mo_upFrom_6 (y : Ly) (Post : St → Int64 → Prop) (a0 : Nat) (s_h6 : St) (x3h6 : Int32) (x4h6 : Int64) (x6h6 : Int32) : Prop := ∃ (I : St → Int32 → Int64 → Int32 → Prop) (μ : St → Int32 → Int64 → Int32 → Nat), I s_h6 x3h6 x4h6 x6h6 ∧ ∀ (u : St) (t0 : Int32) (t1 : Int64) (t2 : Int32), I u t0 t1 t2 → wb_Mo_upFrom_6 y Post (fun z t0q t1q t2q => I z t0q t1q t2q ∧ μ z t0q t1q t2q < μ u t0 t1 t2) a0 u t0 t1 t2
def wu_Mo_upFrom (y : Ly) (Post : St → Int64 → Prop) (σ : St) (a0 : Nat) (v1 : Int64) (v3 : Int32) : Prop := wl_Mo_upFrom_6 y Post a0 σ v3 v1 1
set_option maxHeartbeats 4000000 in
set_option maxRecDepth 100000 in
theorem cu_Mo_upFrom (l : Launch) (D : va_G) (g : Nat → ClassId) (ad : Nat → Nat) (y : Ly) (Post : St → Int64 → Prop) (σ : St) (a0 : Nat) (v1 : Int64) (v3 : Int32) (sz : Nat) (h_a0 : cl a0 = 14) (h : wu_Mo_upFrom y Post σ a0 v1 v3) : Met l y_Mo_upFrom (mw y_Mo_upFrom b_Mo_upFrom 10 (some (.long))) ru_Mo_upFrom (PC g D [] [.ref (ad a0), .long v1, .int v3] sz (ws g ad y σ)) (va_Ql (fun (r : Int64) (u : St) => Post u r) (QW D (va_A (ws g ad y σ) sz) (fun u => ws g ad y u)) (va_A (ws g ad y σ) sz)) 0 0 (va_A (ws g ad y σ) sz) := by
  refine ofL (by decide +kernel) (Nat.le_of_ble_eq_true rfl) ?_
  intro p e s m args below meth c A Q ls H locs G hsz hP hD hS hl hret
  subst hsz
  have hl : lv_has ls 10 [(0, .ref (ad a0)), (1, .long v1), (3, .int v3)] := hl
  unfold wu_Mo_upFrom at h
  refine lv_lload_n G.1 G.2.1 d_Mo_upFrom_0 rfl (lv_at hl 1 rfl) ?_
  refine lv_lstore (lv' := [(4, .long v1), (0, .ref (ad a0)), (1, .long v1), (3, .int v3)]) G.1 G.2.1 d_Mo_upFrom_1 hl (by decide) rfl (fun ls hl => ?_)
  refine lv_iconst (v := 1) G.1 G.2.1 d_Mo_upFrom_3 (by decide) ?_
  refine lv_istore (lv' := [(6, .int 1), (4, .long v1), (0, .ref (ad a0)), (1, .long v1), (3, .int v3)]) G.1 G.2.1 d_Mo_upFrom_4 hl (by decide) rfl (fun ls hl => ?_)
  unfold wl_Mo_upFrom_6 at h
  obtain ⟨I_6, μ_6, hI_6, hB_6⟩ := h
  have L_6 : ∀ (n_6 : Nat) (s_h6 : St) (x3h6 : Int32) (x4h6 : Int64) (x6h6 : Int32), μ_6 s_h6 x3h6 x4h6 x6h6 < n_6 → I_6 s_h6 x3h6 x4h6 x6h6 → ∀ (H : Heap) (locs : List Loc), va_P D CL (ws g ad y s_h6) H → va_D A (ws g ad y s_h6) → va_S A s.heap H locs → ∀ ls, lv_has ls 10 [(0, .ref (ad a0)), (3, .int x3h6), (4, .long x4h6), (6, .int x6h6)] → W p l e ru_Mo_upFrom s m args below meth c H locs 0 0 Q (F0 m 6 ls []) := by
    intro n_6
    induction n_6 with
    | zero => intro s_h6 x3h6 x4h6 x6h6 hμ; exact absurd hμ (Nat.not_lt_zero _)
    | succ n_6 ih_6 =>
      intro s_h6 x3h6 x4h6 x6h6 hμ_6 hJ H locs hP hD hS ls hl
      obtain ⟨K_6, hK_6, h⟩ : ∃ K : St → Int32 → Int64 → Int32 → Prop, (∀ z (t0 : Int32) (t1 : Int64) (t2 : Int32), K z t0 t1 t2 → I_6 z t0 t1 t2 ∧ μ_6 z t0 t1 t2 < μ_6 s_h6 x3h6 x4h6 x6h6) ∧ wb_Mo_upFrom_6 y Post K a0 s_h6 x3h6 x4h6 x6h6 := ⟨_, fun _ _ _ _ h => h, hB_6 s_h6 x3h6 x4h6 x6h6 hJ⟩
      unfold wb_Mo_upFrom_6 at h
      refine lv_iload G.1 G.2.1 d_Mo_upFrom_6 (lv_at hl 3 rfl) ?_
      refine lv_if_eq (tgt := 86) G.1 G.2.1 d_Mo_upFrom_8 (by decide) (fun c8 => ?_) (fun c8 => ?_)
      · skip
        have h := h.1 c8
        refine lv_lload G.1 G.2.1 d_Mo_upFrom_86 (lv_at hl 2 rfl) ?_
        exact hret _ _ _ _ _ _ _ ls h hP hD hS (Nat.le_refl _) (Nat.le_refl _) d_Mo_upFrom_88
      · skip
        have h := h.2 c8
        refine lv_lload G.1 G.2.1 d_Mo_upFrom_11 (lv_at hl 2 rfl) ?_
        refine lv_lstore (lv' := [(7, .long x4h6), (0, .ref (ad a0)), (3, .int x3h6), (4, .long x4h6), (6, .int x6h6)]) G.1 G.2.1 d_Mo_upFrom_13 hl (by decide) rfl (fun ls hl => ?_)
        refine lv_iconst (v := 0) G.1 G.2.1 d_Mo_upFrom_15 (by decide) ?_
        refine lv_istore (lv' := [(9, .int 0), (7, .long x4h6), (0, .ref (ad a0)), (3, .int x3h6), (4, .long x4h6), (6, .int x6h6)]) G.1 G.2.1 d_Mo_upFrom_16 hl (by decide) rfl (fun ls hl => ?_)
        unfold wl_Mo_upFrom_18 at h
        obtain ⟨I_18, μ_18, hI_18, hB_18⟩ := h
        have L_18 : ∀ (n_18 : Nat) (s_h18 : St) (x3h18 : Int32) (x4h18 : Int64) (x7h18 : Int64) (x9h18 : Int32), μ_18 s_h18 x3h18 x4h18 x7h18 x9h18 < n_18 → I_18 s_h18 x3h18 x4h18 x7h18 x9h18 → ∀ (H : Heap) (locs : List Loc), va_P D CL (ws g ad y s_h18) H → va_D A (ws g ad y s_h18) → va_S A s.heap H locs → ∀ ls, lv_has ls 10 [(0, .ref (ad a0)), (3, .int x3h18), (4, .long x4h18), (7, .long x7h18), (9, .int x9h18)] → W p l e ru_Mo_upFrom s m args below meth c H locs 0 0 Q (F0 m 18 ls []) := by
          intro n_18
          induction n_18 with
          | zero => intro s_h18 x3h18 x4h18 x7h18 x9h18 hμ; exact absurd hμ (Nat.not_lt_zero _)
          | succ n_18 ih_18 =>
            intro s_h18 x3h18 x4h18 x7h18 x9h18 hμ_18 hJ H locs hP hD hS ls hl
            obtain ⟨K_18, hK_18, h⟩ : ∃ K : St → Int32 → Int64 → Int64 → Int32 → Prop, (∀ z (t0 : Int32) (t1 : Int64) (t2 : Int64) (t3 : Int32), K z t0 t1 t2 t3 → I_18 z t0 t1 t2 t3 ∧ μ_18 z t0 t1 t2 t3 < μ_18 s_h18 x3h18 x4h18 x7h18 x9h18) ∧ wb_Mo_upFrom_18 y Post K_6 K a0 s_h18 x3h18 x4h18 x7h18 x9h18 := ⟨_, fun _ _ _ _ _ h => h, hB_18 s_h18 x3h18 x4h18 x7h18 x9h18 hJ⟩
            unfold wb_Mo_upFrom_18 at h
            refine lv_iload G.1 G.2.1 d_Mo_upFrom_18 (lv_at hl 4 rfl) ?_
            refine lv_aload_n G.1 G.2.1 d_Mo_upFrom_20 rfl (lv_at hl 0 rfl) ?_
            obtain ⟨b_1, e_2, c_3, h⟩ := h
            refine ugf (v := .ref (ad b_1)) G hP h_a0 iMo rfl 45 (by decide) rfl q3109 rfl (by show va_rf ((sO s_h18 a0 45).map ad) = _; rw [e_2]; rfl) d_Mo_upFrom_21 ?_
            refine ugfN (v := .int (sV s_h18 b_1 2)) G hP c_3 iMw rfl 2 (by decide) rfl q2708 rfl rfl d_Mo_upFrom_24 ?_
            refine lv_icmp_ge (tgt := 64) G.1 G.2.1 d_Mo_upFrom_27 (by decide) (fun c27 => ?_) (fun c27 => ?_)
            · skip
              have h := h.1 c27
              refine lv_lload G.1 G.2.1 d_Mo_upFrom_64 (lv_at hl 3 rfl) ?_
              refine lv_lload G.1 G.2.1 d_Mo_upFrom_66 (lv_at hl 2 rfl) ?_
              refine W.lcmp G.1 G.2.1 d_Mo_upFrom_68 ?_
              have J_77 : ∀ (s_j77 : St) (x3j77 : Int32) (x7j77 : Int64) (z0j77 : Int32) (H : Heap) (locs : List Loc), wj_Mo_upFrom_77 y Post K_6 a0 s_j77 x3j77 x7j77 z0j77 → va_P D CL (ws g ad y s_j77) H → va_D A (ws g ad y s_j77) → va_S A s.heap H locs → ∀ ls, lv_has ls 10 [(0, .ref (ad a0)), (3, .int x3j77), (7, .long x7j77)] → W p l e ru_Mo_upFrom s m args below meth c H locs 0 0 Q (F0 m 77 ls [.int z0j77]) := by
                intro s_j77 x3j77 x7j77 z0j77 H locs h hP hD hS ls hl
                unfold wj_Mo_upFrom_77 at h
                refine lv_istore (lv' := [(6, .int z0j77), (0, .ref (ad a0)), (3, .int x3j77), (7, .long x7j77)]) G.1 G.2.1 d_Mo_upFrom_77 hl (by decide) rfl (fun ls hl => ?_)
                refine lv_lload G.1 G.2.1 d_Mo_upFrom_79 (lv_at hl 3 rfl) ?_
                refine lv_lstore (lv' := [(4, .long x7j77), (6, .int z0j77), (0, .ref (ad a0)), (3, .int x3j77), (7, .long x7j77)]) G.1 G.2.1 d_Mo_upFrom_81 hl (by decide) rfl (fun ls hl => ?_)
                refine lv_goto (tgt := 6) G.1 G.2.1 d_Mo_upFrom_83 (by decide) ?_
                have h := hK_6 s_j77 x3j77 x7j77 z0j77 h
                exact ih_6 s_j77 x3j77 x7j77 z0j77 (Nat.lt_of_lt_of_le h.2 (Nat.le_of_lt_succ hμ_6)) h.1 H locs hP hD hS ls (lv_sub hl [2, 3, 0, 1] rfl)
              refine lv_if_eq (tgt := 76) G.1 G.2.1 d_Mo_upFrom_69 (by decide) (fun c69 => ?_) (fun c69 => ?_)
              · skip
                have h := h.1 c69
                refine lv_iconst (v := 0) G.1 G.2.1 d_Mo_upFrom_76 (by decide) ?_
                exact J_77 s_h18 x3h18 x7h18 0 H locs h hP hD hS ls (lv_sub hl [0, 1, 3] rfl)
              · skip
                have h := h.2 c69
                refine lv_iconst (v := 1) G.1 G.2.1 d_Mo_upFrom_72 (by decide) ?_
                refine lv_goto (tgt := 77) G.1 G.2.1 d_Mo_upFrom_73 (by decide) ?_
                exact J_77 s_h18 x3h18 x7h18 1 H locs h hP hD hS ls (lv_sub hl [0, 1, 3] rfl)
            · skip
              have h := h.2 c27
              refine lv_lload G.1 G.2.1 d_Mo_upFrom_30 (lv_at hl 3 rfl) ?_
              refine lv_lload G.1 G.2.1 d_Mo_upFrom_32 (lv_at hl 2 rfl) ?_
              refine lv_iload G.1 G.2.1 d_Mo_upFrom_34 (lv_at hl 4 rfl) ?_
              refine lv_lshr G.1 G.2.1 d_Mo_upFrom_36 rfl ?_
              refine lv_lconst (v := 1) G.1 G.2.1 d_Mo_upFrom_37 (by decide) ?_
              refine lv_land G.1 G.2.1 d_Mo_upFrom_38 ?_
              refine W.eq (g2 := F0 m 39 ls [.long ((x4h18 >>> (x9h18.toInt64 &&& 63)) &&& 1), .long x7h18]) rfl ?_
              refine lv_lconst (v := 1) G.1 G.2.1 d_Mo_upFrom_39 (by decide) ?_
              refine W.lcmp G.1 G.2.1 d_Mo_upFrom_40 ?_
              have J_55 : ∀ (s_j55 : St) (x3j55 : Int32) (x4j55 : Int64) (x9j55 : Int32) (z0j55 : Int64) (z1j55 : Int64) (H : Heap) (locs : List Loc), wj_Mo_upFrom_55 y Post K_6 K_18 a0 s_j55 x3j55 x4j55 x9j55 z0j55 z1j55 → va_P D CL (ws g ad y s_j55) H → va_D A (ws g ad y s_j55) → va_S A s.heap H locs → ∀ ls, lv_has ls 10 [(0, .ref (ad a0)), (3, .int x3j55), (4, .long x4j55), (9, .int x9j55)] → W p l e ru_Mo_upFrom s m args below meth c H locs 0 0 Q (F0 m 55 ls [.long z1j55, .long z0j55]) := by
                intro s_j55 x3j55 x4j55 x9j55 z0j55 z1j55 H locs h hP hD hS ls hl
                unfold wj_Mo_upFrom_55 at h
                refine lv_lor G.1 G.2.1 d_Mo_upFrom_55 ?_
                refine lv_lstore (lv' := [(7, .long (z0j55 ||| z1j55)), (0, .ref (ad a0)), (3, .int x3j55), (4, .long x4j55), (9, .int x9j55)]) G.1 G.2.1 d_Mo_upFrom_56 hl (by decide) rfl (fun ls hl => ?_)
                refine lv_iinc (v := x9j55 + 1) (lv' := [(9, .int (x9j55 + 1)), (7, .long (z0j55 ||| z1j55)), (0, .ref (ad a0)), (3, .int x3j55), (4, .long x4j55)]) G.1 G.2.1 d_Mo_upFrom_58 hl (k := 4) rfl rfl (by decide) rfl (fun ls hl => ?_)
                refine lv_goto (tgt := 18) G.1 G.2.1 d_Mo_upFrom_61 (by decide) ?_
                have h := hK_18 s_j55 x3j55 x4j55 (z0j55 ||| z1j55) (x9j55 + 1) h
                exact ih_18 s_j55 x3j55 x4j55 (z0j55 ||| z1j55) (x9j55 + 1) (Nat.lt_of_lt_of_le h.2 (Nat.le_of_lt_succ hμ_18)) h.1 H locs hP hD hS ls (lv_sub hl [2, 3, 4, 1, 0] rfl)
              refine lv_if_ne (tgt := 54) G.1 G.2.1 d_Mo_upFrom_41 (by decide) (fun c41 => ?_) (fun c41 => ?_)
              · skip
                have h := h.1 c41
                refine lv_lconst (v := 0) G.1 G.2.1 d_Mo_upFrom_54 (by decide) ?_
                exact J_55 s_h18 x3h18 x4h18 x9h18 x7h18 0 H locs h hP hD hS ls (lv_sub hl [0, 1, 2, 4] rfl)
              · skip
                have h := h.2 c41
                refine lv_aload_n G.1 G.2.1 d_Mo_upFrom_44 rfl (lv_at hl 0 rfl) ?_
                refine lv_iload G.1 G.2.1 d_Mo_upFrom_45 (lv_at hl 4 rfl) ?_
                refine lv_iload_n G.1 G.2.1 d_Mo_upFrom_47 rfl (lv_at hl 1 rfl) ?_
                refine ucVl (As := [.int x9h18, .int x3h18]) (rest := [.long x7h18]) G hP hD hS (cu_Mo_directs l D g ad y _ s_h18 a0 x9h18 x3h18 H.size h_a0 h) w9_Mo_directs q3685 ⟨Nat.le_of_ble_eq_true rfl, Nat.le_of_ble_eq_true rfl⟩ rfl rfl h_a0 (q := (RMo, TMo, 131)) rfl rfl hl.1 rfl (Nat.le_of_ble_eq_true rfl) rfl ⟨Nat.le_refl _, Nat.le_refl _⟩ d_Mo_upFrom_48 (fun r_4 s_5 H locs h hP hD hS => ?_)
                refine lv_goto (tgt := 55) G.1 G.2.1 d_Mo_upFrom_51 (by decide) ?_
                exact J_55 s_5 x3h18 x4h18 x9h18 x7h18 r_4 H locs h hP hD hS ls (lv_sub hl [0, 1, 2, 4] rfl)
        exact L_18 _ s_h6 x3h6 x4h6 x4h6 0 (Nat.lt_succ_self _) hI_18 H locs hP hD hS ls (lv_sub hl [2, 3, 4, 1, 0] rfl)
  exact L_6 _ σ v3 v1 1 (Nat.lt_succ_self _) hI_6 H locs hP hD hS ls (lv_sub hl [2, 4, 1, 0] rfl)
def y_Mo_methodIn : MethodName := ⟨"ClassWorksModel", "methodIn", "(III)I"⟩
abbrev b_Mo_methodIn : ByteArray := prog_14_method_59_code
theorem d_Mo_methodIn_0 : decode b_Mo_methodIn 0 = .ok (.bipush 12, 2) := by decide +kernel
theorem d_Mo_methodIn_2 : decode b_Mo_methodIn 2 = .ok (.iload_n 1, 1) := by decide +kernel
theorem d_Mo_methodIn_3 : decode b_Mo_methodIn 3 = .ok (.imul, 1) := by decide +kernel
theorem d_Mo_methodIn_4 : decode b_Mo_methodIn 4 = .ok (.istore 4, 2) := by decide +kernel
theorem d_Mo_methodIn_6 : decode b_Mo_methodIn 6 = .ok (.iload 4, 2) := by decide +kernel
theorem d_Mo_methodIn_8 : decode b_Mo_methodIn 8 = .ok (.bipush 12, 2) := by decide +kernel
theorem d_Mo_methodIn_10 : decode b_Mo_methodIn 10 = .ok (.iload_n 1, 1) := by decide +kernel
theorem d_Mo_methodIn_11 : decode b_Mo_methodIn 11 = .ok (.imul, 1) := by decide +kernel
theorem d_Mo_methodIn_12 : decode b_Mo_methodIn 12 = .ok (.aload_n 0, 1) := by decide +kernel
theorem d_Mo_methodIn_13 : decode b_Mo_methodIn 13 = .ok (.getfield 522, 3) := by decide +kernel
theorem d_Mo_methodIn_16 : decode b_Mo_methodIn 16 = .ok (.getfield 438, 3) := by decide +kernel
theorem d_Mo_methodIn_19 : decode b_Mo_methodIn 19 = .ok (.iload_n 1, 1) := by decide +kernel
theorem d_Mo_methodIn_20 : decode b_Mo_methodIn 20 = .ok (.iaload, 1) := by decide +kernel
theorem d_Mo_methodIn_21 : decode b_Mo_methodIn 21 = .ok (.iadd, 1) := by decide +kernel
theorem d_Mo_methodIn_22 : decode b_Mo_methodIn 22 = .ok (.if_icmp .ge 40, 3) := by decide +kernel
theorem d_Mo_methodIn_25 : decode b_Mo_methodIn 25 = .ok (.aload_n 0, 1) := by decide +kernel
theorem d_Mo_methodIn_26 : decode b_Mo_methodIn 26 = .ok (.getfield 522, 3) := by decide +kernel
theorem d_Mo_methodIn_29 : decode b_Mo_methodIn 29 = .ok (.getfield 447, 3) := by decide +kernel
theorem d_Mo_methodIn_32 : decode b_Mo_methodIn 32 = .ok (.iload 4, 2) := by decide +kernel
theorem d_Mo_methodIn_34 : decode b_Mo_methodIn 34 = .ok (.iaload, 1) := by decide +kernel
theorem d_Mo_methodIn_35 : decode b_Mo_methodIn 35 = .ok (.iload_n 2, 1) := by decide +kernel
theorem d_Mo_methodIn_36 : decode b_Mo_methodIn 36 = .ok (.if_icmp .ne 20, 3) := by decide +kernel
theorem d_Mo_methodIn_39 : decode b_Mo_methodIn 39 = .ok (.aload_n 0, 1) := by decide +kernel
theorem d_Mo_methodIn_40 : decode b_Mo_methodIn 40 = .ok (.getfield 522, 3) := by decide +kernel
theorem d_Mo_methodIn_43 : decode b_Mo_methodIn 43 = .ok (.getfield 450, 3) := by decide +kernel
theorem d_Mo_methodIn_46 : decode b_Mo_methodIn 46 = .ok (.iload 4, 2) := by decide +kernel
theorem d_Mo_methodIn_48 : decode b_Mo_methodIn 48 = .ok (.iaload, 1) := by decide +kernel
theorem d_Mo_methodIn_49 : decode b_Mo_methodIn 49 = .ok (.iload_n 3, 1) := by decide +kernel
theorem d_Mo_methodIn_50 : decode b_Mo_methodIn 50 = .ok (.if_icmp .ne 6, 3) := by decide +kernel
theorem d_Mo_methodIn_53 : decode b_Mo_methodIn 53 = .ok (.iload 4, 2) := by decide +kernel
theorem d_Mo_methodIn_55 : decode b_Mo_methodIn 55 = .ok (.ireturn, 1) := by decide +kernel
theorem d_Mo_methodIn_56 : decode b_Mo_methodIn 56 = .ok (.iinc 4 1, 3) := by decide +kernel
theorem d_Mo_methodIn_59 : decode b_Mo_methodIn 59 = .ok (.goto (-53), 3) := by decide +kernel
theorem d_Mo_methodIn_62 : decode b_Mo_methodIn 62 = .ok (.bipush (-2), 2) := by decide +kernel
theorem d_Mo_methodIn_64 : decode b_Mo_methodIn 64 = .ok (.ireturn, 1) := by decide +kernel
abbrev ru_Mo_methodIn : Room := { frames := 0, cells := 0, slots := 0, locals := 0 }
def wj_Mo_methodIn_56 (y : Ly) (Post : St → Int32 → Prop) (K_6 : St → Int32 → Int32 → Int32 → Int32 → Prop) (a0 : Nat) (s_j56 : St) (x1j56 : Int32) (x2j56 : Int32) (x3j56 : Int32) (x4j56 : Int32) : Prop := K_6 s_j56 x1j56 x2j56 x3j56 (x4j56 + 1)
def wb_Mo_methodIn_6 (y : Ly) (Post : St → Int32 → Prop) (K_6 : St → Int32 → Int32 → Int32 → Int32 → Prop) (a0 : Nat) (s_h6 : St) (x1h6 : Int32) (x2h6 : Int32) (x3h6 : Int32) (x4h6 : Int32) : Prop := ∃ b_1 : Nat, sO s_h6 a0 45 = some b_1 ∧ cl b_1 = 13 ∧ xA y s_h6 b_1 9 x1h6 (fun x_4 : Int32 => ((((12 * x1h6) + x_4) ≤ x4h6 → Post s_h6 (-2)) ∧ (¬ (((12 * x1h6) + x_4) ≤ x4h6) → ∃ b_5 : Nat, sO s_h6 a0 45 = some b_5 ∧ cl b_5 = 13 ∧ xA y s_h6 b_5 18 x4h6 (fun x_8 : Int32 => ((¬ x_8 = x2h6 → wj_Mo_methodIn_56 y Post K_6 a0 s_h6 x1h6 x2h6 x3h6 x4h6) ∧ (x_8 = x2h6 → ∃ b_9 : Nat, sO s_h6 a0 45 = some b_9 ∧ cl b_9 = 13 ∧ xA y s_h6 b_9 19 x4h6 (fun x_12 : Int32 => ((¬ x_12 = x3h6 → wj_Mo_methodIn_56 y Post K_6 a0 s_h6 x1h6 x2h6 x3h6 x4h6) ∧ (x_12 = x3h6 → Post s_h6 x4h6)))))))))
def wl_Mo_methodIn_6 (y : Ly) (Post : St → Int32 → Prop) (a0 : Nat) (s_h6 : St) (x1h6 : Int32) (x2h6 : Int32) (x3h6 : Int32) (x4h6 : Int32) : Prop := ∃ (I : St → Int32 → Int32 → Int32 → Int32 → Prop) (μ : St → Int32 → Int32 → Int32 → Int32 → Nat), I s_h6 x1h6 x2h6 x3h6 x4h6 ∧ ∀ (u : St) (t0 : Int32) (t1 : Int32) (t2 : Int32) (t3 : Int32), I u t0 t1 t2 t3 → wb_Mo_methodIn_6 y Post (fun z t0q t1q t2q t3q => I z t0q t1q t2q t3q ∧ μ z t0q t1q t2q t3q < μ u t0 t1 t2 t3) a0 u t0 t1 t2 t3
def wu_Mo_methodIn (y : Ly) (Post : St → Int32 → Prop) (σ : St) (a0 : Nat) (v1 : Int32) (v2 : Int32) (v3 : Int32) : Prop := wl_Mo_methodIn_6 y Post a0 σ v1 v2 v3 (12 * v1)
set_option maxHeartbeats 4000000 in
set_option maxRecDepth 100000 in
theorem cu_Mo_methodIn (l : Launch) (D : va_G) (g : Nat → ClassId) (ad : Nat → Nat) (y : Ly) (Post : St → Int32 → Prop) (σ : St) (a0 : Nat) (v1 : Int32) (v2 : Int32) (v3 : Int32) (sz : Nat) (h_a0 : cl a0 = 14) (h : wu_Mo_methodIn y Post σ a0 v1 v2 v3) : Met l y_Mo_methodIn (mw y_Mo_methodIn b_Mo_methodIn 5 (some .int)) ru_Mo_methodIn (PC g D [] [.ref (ad a0), .int v1, .int v2, .int v3] sz (ws g ad y σ)) (va_Qi (fun (r : Int32) (u : St) => Post u r) (QW D (va_A (ws g ad y σ) sz) (fun u => ws g ad y u)) (va_A (ws g ad y σ) sz)) 0 0 (va_A (ws g ad y σ) sz) := by
  refine ofI (by decide +kernel) (Nat.le_of_ble_eq_true rfl) ?_
  intro p e s m args below meth c A Q ls H locs G hsz hP hD hS hl hret
  subst hsz
  have hl : lv_has ls 5 [(0, .ref (ad a0)), (1, .int v1), (2, .int v2), (3, .int v3)] := hl
  unfold wu_Mo_methodIn at h
  refine lv_bipush (v := 12) G.1 G.2.1 d_Mo_methodIn_0 (by decide) ?_
  refine lv_iload_n G.1 G.2.1 d_Mo_methodIn_2 rfl (lv_at hl 1 rfl) ?_
  refine lv_imul G.1 G.2.1 d_Mo_methodIn_3 ?_
  refine lv_istore (lv' := [(4, .int (12 * v1)), (0, .ref (ad a0)), (1, .int v1), (2, .int v2), (3, .int v3)]) G.1 G.2.1 d_Mo_methodIn_4 hl (by decide) rfl (fun ls hl => ?_)
  unfold wl_Mo_methodIn_6 at h
  obtain ⟨I_6, μ_6, hI_6, hB_6⟩ := h
  have L_6 : ∀ (n_6 : Nat) (s_h6 : St) (x1h6 : Int32) (x2h6 : Int32) (x3h6 : Int32) (x4h6 : Int32), μ_6 s_h6 x1h6 x2h6 x3h6 x4h6 < n_6 → I_6 s_h6 x1h6 x2h6 x3h6 x4h6 → ∀ (H : Heap) (locs : List Loc), va_P D CL (ws g ad y s_h6) H → va_D A (ws g ad y s_h6) → va_S A s.heap H locs → ∀ ls, lv_has ls 5 [(0, .ref (ad a0)), (1, .int x1h6), (2, .int x2h6), (3, .int x3h6), (4, .int x4h6)] → W p l e ru_Mo_methodIn s m args below meth c H locs 0 0 Q (F0 m 6 ls []) := by
    intro n_6
    induction n_6 with
    | zero => intro s_h6 x1h6 x2h6 x3h6 x4h6 hμ; exact absurd hμ (Nat.not_lt_zero _)
    | succ n_6 ih_6 =>
      intro s_h6 x1h6 x2h6 x3h6 x4h6 hμ_6 hJ H locs hP hD hS ls hl
      obtain ⟨K_6, hK_6, h⟩ : ∃ K : St → Int32 → Int32 → Int32 → Int32 → Prop, (∀ z (t0 : Int32) (t1 : Int32) (t2 : Int32) (t3 : Int32), K z t0 t1 t2 t3 → I_6 z t0 t1 t2 t3 ∧ μ_6 z t0 t1 t2 t3 < μ_6 s_h6 x1h6 x2h6 x3h6 x4h6) ∧ wb_Mo_methodIn_6 y Post K a0 s_h6 x1h6 x2h6 x3h6 x4h6 := ⟨_, fun _ _ _ _ _ h => h, hB_6 s_h6 x1h6 x2h6 x3h6 x4h6 hJ⟩
      unfold wb_Mo_methodIn_6 at h
      refine lv_iload G.1 G.2.1 d_Mo_methodIn_6 (lv_at hl 4 rfl) ?_
      refine lv_bipush (v := 12) G.1 G.2.1 d_Mo_methodIn_8 (by decide) ?_
      refine lv_iload_n G.1 G.2.1 d_Mo_methodIn_10 rfl (lv_at hl 1 rfl) ?_
      refine lv_imul G.1 G.2.1 d_Mo_methodIn_11 ?_
      refine lv_aload_n G.1 G.2.1 d_Mo_methodIn_12 rfl (lv_at hl 0 rfl) ?_
      obtain ⟨b_1, e_2, c_3, h⟩ := h
      refine ugf (v := .ref (ad b_1)) G hP h_a0 iMo rfl 45 (by decide) rfl q3109 rfl (by show va_rf ((sO s_h6 a0 45).map ad) = _; rw [e_2]; rfl) d_Mo_methodIn_13 ?_
      refine ugfN (v := .ref (yP y b_1 9)) G hP c_3 iMw rfl 9 (by decide) rfl q2722 rfl rfl d_Mo_methodIn_16 ?_
      refine lv_iload_n G.1 G.2.1 d_Mo_methodIn_19 rfl (lv_at hl 1 rfl) ?_
      refine uiald G hP (kdp c_3 rfl) (typ c_3 rfl) h d_Mo_methodIn_20 (fun x_4 h => ?_)
      refine lv_iadd G.1 G.2.1 d_Mo_methodIn_21 ?_
      refine lv_icmp_ge (tgt := 62) G.1 G.2.1 d_Mo_methodIn_22 (by decide) (fun c22 => ?_) (fun c22 => ?_)
      · skip
        have h := h.1 c22
        refine W.eq (g2 := F0 m 62 ls []) rfl ?_
        refine lv_bipush (v := (-2)) G.1 G.2.1 d_Mo_methodIn_62 (by decide) ?_
        exact hret _ _ _ _ _ _ _ ls h hP hD hS (Nat.le_refl _) (Nat.le_refl _) d_Mo_methodIn_64
      · skip
        have h := h.2 c22
        refine W.eq (g2 := F0 m 25 ls []) rfl ?_
        refine lv_aload_n G.1 G.2.1 d_Mo_methodIn_25 rfl (lv_at hl 0 rfl) ?_
        obtain ⟨b_5, e_6, c_7, h⟩ := h
        refine ugf (v := .ref (ad b_5)) G hP h_a0 iMo rfl 45 (by decide) rfl q3109 rfl (by show va_rf ((sO s_h6 a0 45).map ad) = _; rw [e_6]; rfl) d_Mo_methodIn_26 ?_
        refine ugfN (v := .ref (yP y b_5 18)) G hP c_7 iMw rfl 18 (by decide) rfl q2740 rfl rfl d_Mo_methodIn_29 ?_
        refine lv_iload G.1 G.2.1 d_Mo_methodIn_32 (lv_at hl 4 rfl) ?_
        refine uiald G hP (kdp c_7 rfl) (typ c_7 rfl) h d_Mo_methodIn_34 (fun x_8 h => ?_)
        refine lv_iload_n G.1 G.2.1 d_Mo_methodIn_35 rfl (lv_at hl 2 rfl) ?_
        have J_56 : ∀ (s_j56 : St) (x1j56 : Int32) (x2j56 : Int32) (x3j56 : Int32) (x4j56 : Int32) (H : Heap) (locs : List Loc), wj_Mo_methodIn_56 y Post K_6 a0 s_j56 x1j56 x2j56 x3j56 x4j56 → va_P D CL (ws g ad y s_j56) H → va_D A (ws g ad y s_j56) → va_S A s.heap H locs → ∀ ls, lv_has ls 5 [(0, .ref (ad a0)), (1, .int x1j56), (2, .int x2j56), (3, .int x3j56), (4, .int x4j56)] → W p l e ru_Mo_methodIn s m args below meth c H locs 0 0 Q (F0 m 56 ls []) := by
          intro s_j56 x1j56 x2j56 x3j56 x4j56 H locs h hP hD hS ls hl
          unfold wj_Mo_methodIn_56 at h
          refine lv_iinc (v := x4j56 + 1) (lv' := [(4, .int (x4j56 + 1)), (0, .ref (ad a0)), (1, .int x1j56), (2, .int x2j56), (3, .int x3j56)]) G.1 G.2.1 d_Mo_methodIn_56 hl (k := 4) rfl rfl (by decide) rfl (fun ls hl => ?_)
          refine lv_goto (tgt := 6) G.1 G.2.1 d_Mo_methodIn_59 (by decide) ?_
          have h := hK_6 s_j56 x1j56 x2j56 x3j56 (x4j56 + 1) h
          exact ih_6 s_j56 x1j56 x2j56 x3j56 (x4j56 + 1) (Nat.lt_of_lt_of_le h.2 (Nat.le_of_lt_succ hμ_6)) h.1 H locs hP hD hS ls (lv_sub hl [1, 2, 3, 4, 0] rfl)
        refine lv_icmp_ne (tgt := 56) G.1 G.2.1 d_Mo_methodIn_36 (by decide) (fun c36 => ?_) (fun c36 => ?_)
        · skip
          have h := h.1 c36
          exact J_56 s_h6 x1h6 x2h6 x3h6 x4h6 H locs h hP hD hS ls (lv_sub hl [0, 1, 2, 3, 4] rfl)
        · skip
          have h := h.2 c36
          refine lv_aload_n G.1 G.2.1 d_Mo_methodIn_39 rfl (lv_at hl 0 rfl) ?_
          obtain ⟨b_9, e_10, c_11, h⟩ := h
          refine ugf (v := .ref (ad b_9)) G hP h_a0 iMo rfl 45 (by decide) rfl q3109 rfl (by show va_rf ((sO s_h6 a0 45).map ad) = _; rw [e_10]; rfl) d_Mo_methodIn_40 ?_
          refine ugfN (v := .ref (yP y b_9 19)) G hP c_11 iMw rfl 19 (by decide) rfl q2742 rfl rfl d_Mo_methodIn_43 ?_
          refine lv_iload G.1 G.2.1 d_Mo_methodIn_46 (lv_at hl 4 rfl) ?_
          refine uiald G hP (kdp c_11 rfl) (typ c_11 rfl) h d_Mo_methodIn_48 (fun x_12 h => ?_)
          refine W.eq (g2 := F0 m 49 ls [.int x_12]) rfl ?_
          refine lv_iload_n G.1 G.2.1 d_Mo_methodIn_49 rfl (lv_at hl 3 rfl) ?_
          refine lv_icmp_ne (tgt := 56) G.1 G.2.1 d_Mo_methodIn_50 (by decide) (fun c50 => ?_) (fun c50 => ?_)
          · skip
            have h := h.1 c50
            exact J_56 s_h6 x1h6 x2h6 x3h6 x4h6 H locs h hP hD hS ls (lv_sub hl [0, 1, 2, 3, 4] rfl)
          · skip
            have h := h.2 c50
            refine lv_iload G.1 G.2.1 d_Mo_methodIn_53 (lv_at hl 4 rfl) ?_
            exact hret _ _ _ _ _ _ _ ls h hP hD hS (Nat.le_refl _) (Nat.le_refl _) d_Mo_methodIn_55
  exact L_6 _ σ v1 v2 v3 (12 * v1) (Nat.lt_succ_self _) hI_6 H locs hP hD hS ls (lv_sub hl [1, 2, 3, 4, 0] rfl)
def y_Mo_begin : MethodName := ⟨"ClassWorksModel", "begin", "(II)V"⟩
abbrev b_Mo_begin : ByteArray := prog_14_method_70_code
theorem q3140 : Cond.fieldLink "ClassWorksModel" 789 "ClassWorksModel" "checkedClass" "I" ∈ lw_ok := lw_okmem (List.mem_of_getElem? (i := 3140) (by decide +kernel)) rfl
theorem q3139 : Cond.fieldLink "ClassWorksModel" 768 "ClassWorksModel" "checkedMethod" "I" ∈ lw_ok := lw_okmem (List.mem_of_getElem? (i := 3139) (by decide +kernel)) rfl
theorem q3136 : Cond.fieldLink "ClassWorksModel" 780 "ClassWorksModel" "height" "I" ∈ lw_ok := lw_okmem (List.mem_of_getElem? (i := 3136) (by decide +kernel)) rfl
theorem q3137 : Cond.fieldLink "ClassWorksModel" 792 "ClassWorksModel" "known" "Z" ∈ lw_ok := lw_okmem (List.mem_of_getElem? (i := 3137) (by decide +kernel)) rfl
theorem q3134 : Cond.fieldLink "ClassWorksModel" 305 "ClassWorksModel" "kinds" "[I" ∈ lw_ok := lw_okmem (List.mem_of_getElem? (i := 3134) (by decide +kernel)) rfl
theorem d_Mo_begin_0 : decode b_Mo_begin 0 = .ok (.aload_n 0, 1) := by decide +kernel
theorem d_Mo_begin_1 : decode b_Mo_begin 1 = .ok (.iload_n 1, 1) := by decide +kernel
theorem d_Mo_begin_2 : decode b_Mo_begin 2 = .ok (.putfield 789, 3) := by decide +kernel
theorem d_Mo_begin_5 : decode b_Mo_begin 5 = .ok (.aload_n 0, 1) := by decide +kernel
theorem d_Mo_begin_6 : decode b_Mo_begin 6 = .ok (.iload_n 2, 1) := by decide +kernel
theorem d_Mo_begin_7 : decode b_Mo_begin 7 = .ok (.putfield 768, 3) := by decide +kernel
theorem d_Mo_begin_10 : decode b_Mo_begin 10 = .ok (.aload_n 0, 1) := by decide +kernel
theorem d_Mo_begin_11 : decode b_Mo_begin 11 = .ok (.iconst 0, 1) := by decide +kernel
theorem d_Mo_begin_12 : decode b_Mo_begin 12 = .ok (.putfield 780, 3) := by decide +kernel
theorem d_Mo_begin_15 : decode b_Mo_begin 15 = .ok (.aload_n 0, 1) := by decide +kernel
theorem d_Mo_begin_16 : decode b_Mo_begin 16 = .ok (.iconst 1, 1) := by decide +kernel
theorem d_Mo_begin_17 : decode b_Mo_begin 17 = .ok (.putfield 792, 3) := by decide +kernel
theorem d_Mo_begin_20 : decode b_Mo_begin 20 = .ok (.aload_n 0, 1) := by decide +kernel
theorem d_Mo_begin_21 : decode b_Mo_begin 21 = .ok (.getfield 522, 3) := by decide +kernel
theorem d_Mo_begin_24 : decode b_Mo_begin 24 = .ok (.getfield 459, 3) := by decide +kernel
theorem d_Mo_begin_27 : decode b_Mo_begin 27 = .ok (.iload_n 2, 1) := by decide +kernel
theorem d_Mo_begin_28 : decode b_Mo_begin 28 = .ok (.iaload, 1) := by decide +kernel
theorem d_Mo_begin_29 : decode b_Mo_begin 29 = .ok (.istore_n 3, 1) := by decide +kernel
theorem d_Mo_begin_30 : decode b_Mo_begin 30 = .ok (.iconst 0, 1) := by decide +kernel
theorem d_Mo_begin_31 : decode b_Mo_begin 31 = .ok (.istore 4, 2) := by decide +kernel
theorem d_Mo_begin_33 : decode b_Mo_begin 33 = .ok (.aload_n 0, 1) := by decide +kernel
theorem d_Mo_begin_34 : decode b_Mo_begin 34 = .ok (.getfield 522, 3) := by decide +kernel
theorem d_Mo_begin_37 : decode b_Mo_begin 37 = .ok (.getfield 453, 3) := by decide +kernel
theorem d_Mo_begin_40 : decode b_Mo_begin 40 = .ok (.iload_n 2, 1) := by decide +kernel
theorem d_Mo_begin_41 : decode b_Mo_begin 41 = .ok (.iaload, 1) := by decide +kernel
theorem d_Mo_begin_42 : decode b_Mo_begin 42 = .ok (.iconst 1, 1) := by decide +kernel
theorem d_Mo_begin_43 : decode b_Mo_begin 43 = .ok (.iand, 1) := by decide +kernel
theorem d_Mo_begin_44 : decode b_Mo_begin 44 = .ok (.ifCond .ne 44, 3) := by decide +kernel
theorem d_Mo_begin_47 : decode b_Mo_begin 47 = .ok (.aload_n 0, 1) := by decide +kernel
theorem d_Mo_begin_48 : decode b_Mo_begin 48 = .ok (.getfield 305, 3) := by decide +kernel
theorem d_Mo_begin_51 : decode b_Mo_begin 51 = .ok (.iconst 0, 1) := by decide +kernel
theorem d_Mo_begin_52 : decode b_Mo_begin 52 = .ok (.aload_n 0, 1) := by decide +kernel
theorem d_Mo_begin_53 : decode b_Mo_begin 53 = .ok (.getfield 522, 3) := by decide +kernel
theorem d_Mo_begin_56 : decode b_Mo_begin 56 = .ok (.getfield 447, 3) := by decide +kernel
theorem d_Mo_begin_59 : decode b_Mo_begin 59 = .ok (.iload_n 2, 1) := by decide +kernel
theorem d_Mo_begin_60 : decode b_Mo_begin 60 = .ok (.iaload, 1) := by decide +kernel
theorem d_Mo_begin_61 : decode b_Mo_begin 61 = .ok (.aload_n 0, 1) := by decide +kernel
theorem d_Mo_begin_62 : decode b_Mo_begin 62 = .ok (.getfield 121, 3) := by decide +kernel
theorem d_Mo_begin_65 : decode b_Mo_begin 65 = .ok (.if_icmp .ne 7, 3) := by decide +kernel
theorem d_Mo_begin_68 : decode b_Mo_begin 68 = .ok (.iconst 5, 1) := by decide +kernel
theorem d_Mo_begin_69 : decode b_Mo_begin 69 = .ok (.goto 15, 3) := by decide +kernel
theorem d_Mo_begin_72 : decode b_Mo_begin 72 = .ok (.bipush 16, 2) := by decide +kernel
theorem d_Mo_begin_74 : decode b_Mo_begin 74 = .ok (.aload_n 0, 1) := by decide +kernel
theorem d_Mo_begin_75 : decode b_Mo_begin 75 = .ok (.getfield 522, 3) := by decide +kernel
theorem d_Mo_begin_78 : decode b_Mo_begin 78 = .ok (.getfield 423, 3) := by decide +kernel
theorem d_Mo_begin_81 : decode b_Mo_begin 81 = .ok (.iload_n 1, 1) := by decide +kernel
theorem d_Mo_begin_82 : decode b_Mo_begin 82 = .ok (.iaload, 1) := by decide +kernel
theorem d_Mo_begin_83 : decode b_Mo_begin 83 = .ok (.iadd, 1) := by decide +kernel
theorem d_Mo_begin_84 : decode b_Mo_begin 84 = .ok (.iastore, 1) := by decide +kernel
theorem d_Mo_begin_85 : decode b_Mo_begin 85 = .ok (.iconst 1, 1) := by decide +kernel
theorem d_Mo_begin_86 : decode b_Mo_begin 86 = .ok (.istore 4, 2) := by decide +kernel
theorem d_Mo_begin_88 : decode b_Mo_begin 88 = .ok (.aload_n 0, 1) := by decide +kernel
theorem d_Mo_begin_89 : decode b_Mo_begin 89 = .ok (.getfield 522, 3) := by decide +kernel
theorem d_Mo_begin_92 : decode b_Mo_begin 92 = .ok (.getfield 450, 3) := by decide +kernel
theorem d_Mo_begin_95 : decode b_Mo_begin 95 = .ok (.iload_n 2, 1) := by decide +kernel
theorem d_Mo_begin_96 : decode b_Mo_begin 96 = .ok (.iaload, 1) := by decide +kernel
theorem d_Mo_begin_97 : decode b_Mo_begin 97 = .ok (.istore 5, 2) := by decide +kernel
theorem d_Mo_begin_99 : decode b_Mo_begin 99 = .ok (.iconst 0, 1) := by decide +kernel
theorem d_Mo_begin_100 : decode b_Mo_begin 100 = .ok (.istore 6, 2) := by decide +kernel
theorem d_Mo_begin_102 : decode b_Mo_begin 102 = .ok (.iload 6, 2) := by decide +kernel
theorem d_Mo_begin_104 : decode b_Mo_begin 104 = .ok (.aload_n 0, 1) := by decide +kernel
theorem d_Mo_begin_105 : decode b_Mo_begin 105 = .ok (.getfield 80, 3) := by decide +kernel
theorem d_Mo_begin_108 : decode b_Mo_begin 108 = .ok (.iload 5, 2) := by decide +kernel
theorem d_Mo_begin_110 : decode b_Mo_begin 110 = .ok (.iaload, 1) := by decide +kernel
theorem d_Mo_begin_111 : decode b_Mo_begin 111 = .ok (.if_icmp .ge 34, 3) := by decide +kernel
theorem d_Mo_begin_114 : decode b_Mo_begin 114 = .ok (.aload_n 0, 1) := by decide +kernel
theorem d_Mo_begin_115 : decode b_Mo_begin 115 = .ok (.getfield 305, 3) := by decide +kernel
theorem d_Mo_begin_118 : decode b_Mo_begin 118 = .ok (.iload 4, 2) := by decide +kernel
theorem d_Mo_begin_120 : decode b_Mo_begin 120 = .ok (.aload_n 0, 1) := by decide +kernel
theorem d_Mo_begin_121 : decode b_Mo_begin 121 = .ok (.getfield 86, 3) := by decide +kernel
theorem d_Mo_begin_124 : decode b_Mo_begin 124 = .ok (.aload_n 0, 1) := by decide +kernel
theorem d_Mo_begin_125 : decode b_Mo_begin 125 = .ok (.getfield 74, 3) := by decide +kernel
theorem d_Mo_begin_128 : decode b_Mo_begin 128 = .ok (.iload 5, 2) := by decide +kernel
theorem d_Mo_begin_130 : decode b_Mo_begin 130 = .ok (.iaload, 1) := by decide +kernel
theorem d_Mo_begin_131 : decode b_Mo_begin 131 = .ok (.iload 6, 2) := by decide +kernel
theorem d_Mo_begin_133 : decode b_Mo_begin 133 = .ok (.iadd, 1) := by decide +kernel
theorem d_Mo_begin_134 : decode b_Mo_begin 134 = .ok (.iaload, 1) := by decide +kernel
theorem d_Mo_begin_135 : decode b_Mo_begin 135 = .ok (.iastore, 1) := by decide +kernel
theorem d_Mo_begin_136 : decode b_Mo_begin 136 = .ok (.iinc 4 1, 3) := by decide +kernel
theorem d_Mo_begin_139 : decode b_Mo_begin 139 = .ok (.iinc 6 1, 3) := by decide +kernel
theorem d_Mo_begin_142 : decode b_Mo_begin 142 = .ok (.goto (-40), 3) := by decide +kernel
theorem d_Mo_begin_145 : decode b_Mo_begin 145 = .ok (.iload 4, 2) := by decide +kernel
theorem d_Mo_begin_147 : decode b_Mo_begin 147 = .ok (.istore 6, 2) := by decide +kernel
theorem d_Mo_begin_149 : decode b_Mo_begin 149 = .ok (.iload 6, 2) := by decide +kernel
theorem d_Mo_begin_151 : decode b_Mo_begin 151 = .ok (.iload_n 3, 1) := by decide +kernel
theorem d_Mo_begin_152 : decode b_Mo_begin 152 = .ok (.if_icmp .ge 17, 3) := by decide +kernel
theorem d_Mo_begin_155 : decode b_Mo_begin 155 = .ok (.aload_n 0, 1) := by decide +kernel
theorem d_Mo_begin_156 : decode b_Mo_begin 156 = .ok (.getfield 305, 3) := by decide +kernel
theorem d_Mo_begin_159 : decode b_Mo_begin 159 = .ok (.iload 6, 2) := by decide +kernel
theorem d_Mo_begin_161 : decode b_Mo_begin 161 = .ok (.iconst 4, 1) := by decide +kernel
theorem d_Mo_begin_162 : decode b_Mo_begin 162 = .ok (.iastore, 1) := by decide +kernel
theorem d_Mo_begin_163 : decode b_Mo_begin 163 = .ok (.iinc 6 1, 3) := by decide +kernel
theorem d_Mo_begin_166 : decode b_Mo_begin 166 = .ok (.goto (-17), 3) := by decide +kernel
theorem d_Mo_begin_169 : decode b_Mo_begin 169 = .ok (.return_, 1) := by decide +kernel
abbrev ru_Mo_begin : Room := { frames := 0, cells := 0, slots := 0, locals := 0 }
def wb_Mo_begin_149 (y : Ly) (Post : St → Prop) (K_149 : St → Int32 → Int32 → Prop) (a0 : Nat) (s_h149 : St) (x3h149 : Int32) (x6h149 : Int32) : Prop := ((x3h149 ≤ x6h149 → Post s_h149) ∧ (¬ (x3h149 ≤ x6h149) → xS y s_h149 a0 70 x6h149 4 (fun s_19 : St => K_149 s_19 x3h149 (x6h149 + 1))))
def wl_Mo_begin_149 (y : Ly) (Post : St → Prop) (a0 : Nat) (s_h149 : St) (x3h149 : Int32) (x6h149 : Int32) : Prop := ∃ (I : St → Int32 → Int32 → Prop) (μ : St → Int32 → Int32 → Nat), I s_h149 x3h149 x6h149 ∧ ∀ (u : St) (t0 : Int32) (t1 : Int32), I u t0 t1 → wb_Mo_begin_149 y Post (fun z t0q t1q => I z t0q t1q ∧ μ z t0q t1q < μ u t0 t1) a0 u t0 t1
def wb_Mo_begin_102 (y : Ly) (Post : St → Prop) (K_102 : St → Int32 → Int32 → Int32 → Int32 → Prop) (a0 : Nat) (s_h102 : St) (x3h102 : Int32) (x4h102 : Int32) (x5h102 : Int32) (x6h102 : Int32) : Prop := xA y s_h102 a0 31 x5h102 (fun x_18 : Int32 => ((x_18 ≤ x6h102 → wl_Mo_begin_149 y Post a0 s_h102 x3h102 x4h102) ∧ (¬ (x_18 ≤ x6h102) → xA y s_h102 a0 30 x5h102 (fun x_20 : Int32 => xA y s_h102 a0 35 (x_20 + x6h102) (fun x_21 : Int32 => xS y s_h102 a0 70 x4h102 x_21 (fun s_22 : St => K_102 s_22 x3h102 (x4h102 + 1) x5h102 (x6h102 + 1)))))))
def wl_Mo_begin_102 (y : Ly) (Post : St → Prop) (a0 : Nat) (s_h102 : St) (x3h102 : Int32) (x4h102 : Int32) (x5h102 : Int32) (x6h102 : Int32) : Prop := ∃ (I : St → Int32 → Int32 → Int32 → Int32 → Prop) (μ : St → Int32 → Int32 → Int32 → Int32 → Nat), I s_h102 x3h102 x4h102 x5h102 x6h102 ∧ ∀ (u : St) (t0 : Int32) (t1 : Int32) (t2 : Int32) (t3 : Int32), I u t0 t1 t2 t3 → wb_Mo_begin_102 y Post (fun z t0q t1q t2q t3q => I z t0q t1q t2q t3q ∧ μ z t0q t1q t2q t3q < μ u t0 t1 t2 t3) a0 u t0 t1 t2 t3
def wj_Mo_begin_88 (y : Ly) (Post : St → Prop) (a0 : Nat) (s_j88 : St) (x2j88 : Int32) (x3j88 : Int32) (x4j88 : Int32) : Prop := ∃ b_14 : Nat, sO s_j88 a0 45 = some b_14 ∧ cl b_14 = 13 ∧ xA y s_j88 b_14 19 x2j88 (fun x_17 : Int32 => wl_Mo_begin_102 y Post a0 s_j88 x3j88 x4j88 x_17 0)
def wj_Mo_begin_84 (y : Ly) (Post : St → Prop) (a0 : Nat) (s_j84 : St) (x2j84 : Int32) (x3j84 : Int32) (z1j84 : Int32) (z2j84 : Int32) : Prop := xS y s_j84 a0 70 z1j84 z2j84 (fun s_27 : St => wj_Mo_begin_88 y Post a0 s_27 x2j84 x3j84 1)
def wu_Mo_begin (y : Ly) (Post : St → Prop) (σ : St) (a0 : Nat) (v1 : Int32) (v2 : Int32) : Prop := xP (uV σ a0 76 v1) (fun s_1 : St => xP (uV s_1 a0 75 v2) (fun s_2 : St => xP (uV s_2 a0 72 0) (fun s_3 : St => nb 1 ∧ xP (uV s_3 a0 73 1) (fun s_5 : St => ∃ b_6 : Nat, sO s_5 a0 45 = some b_6 ∧ cl b_6 = 13 ∧ xA y s_5 b_6 22 v2 (fun x_9 : Int32 => ∃ b_10 : Nat, sO s_5 a0 45 = some b_10 ∧ cl b_10 = 13 ∧ xA y s_5 b_10 20 v2 (fun x_13 : Int32 => ((¬ (x_13 &&& 1) = 0 → wj_Mo_begin_88 y Post a0 s_5 v2 x_9 0) ∧ ((x_13 &&& 1) = 0 → ∃ b_23 : Nat, sO s_5 a0 45 = some b_23 ∧ cl b_23 = 13 ∧ xA y s_5 b_23 18 v2 (fun x_26 : Int32 => ((¬ x_26 = (sV s_5 a0 6) → ∃ b_28 : Nat, sO s_5 a0 45 = some b_28 ∧ cl b_28 = 13 ∧ xA y s_5 b_28 3 v1 (fun x_31 : Int32 => wj_Mo_begin_84 y Post a0 s_5 v2 x_9 0 (16 + x_31))) ∧ (x_26 = (sV s_5 a0 6) → wj_Mo_begin_84 y Post a0 s_5 v2 x_9 0 5)))))))))))
set_option maxHeartbeats 4000000 in
set_option maxRecDepth 100000 in
theorem cu_Mo_begin (l : Launch) (D : va_G) (g : Nat → ClassId) (ad : Nat → Nat) (y : Ly) (Post : St → Prop) (σ : St) (a0 : Nat) (v1 : Int32) (v2 : Int32) (sz : Nat) (h_a0 : cl a0 = 14) (h : wu_Mo_begin y Post σ a0 v1 v2) : Met l y_Mo_begin (mw y_Mo_begin b_Mo_begin 7 (none)) ru_Mo_begin (PC g D [] [.ref (ad a0), .int v1, .int v2] sz (ws g ad y σ)) (va_Qv (fun u : St => Post u) (QW D (va_A (ws g ad y σ) sz) (fun u => ws g ad y u)) (va_A (ws g ad y σ) sz)) 0 0 (va_A (ws g ad y σ) sz) := by
  refine ofV (by decide +kernel) (Nat.le_of_ble_eq_true rfl) ?_
  intro p e s m args below meth c A Q ls H locs G hsz hP hD hS hl hret
  subst hsz
  have hl : lv_has ls 7 [(0, .ref (ad a0)), (1, .int v1), (2, .int v2)] := hl
  unfold wu_Mo_begin at h
  refine lv_aload_n G.1 G.2.1 d_Mo_begin_0 rfl (lv_at hl 0 rfl) ?_
  refine lv_iload_n G.1 G.2.1 d_Mo_begin_1 rfl (lv_at hl 1 rfl) ?_
  refine upf G hP hD hS h 76 putV h_a0 iMo tMo tMo_ok nMo rfl (by decide) rfl q3140 rfl rfl fV rfl rfl d_Mo_begin_2 (fun s_1 H locs h hP hD hS => ?_)
  refine lv_aload_n G.1 G.2.1 d_Mo_begin_5 rfl (lv_at hl 0 rfl) ?_
  refine lv_iload_n G.1 G.2.1 d_Mo_begin_6 rfl (lv_at hl 2 rfl) ?_
  refine upf G hP hD hS h 75 putV h_a0 iMo tMo tMo_ok nMo rfl (by decide) rfl q3139 rfl rfl fV rfl rfl d_Mo_begin_7 (fun s_2 H locs h hP hD hS => ?_)
  refine lv_aload_n G.1 G.2.1 d_Mo_begin_10 rfl (lv_at hl 0 rfl) ?_
  refine lv_iconst (v := 0) G.1 G.2.1 d_Mo_begin_11 (by decide) ?_
  refine upf G hP hD hS h 72 putV h_a0 iMo tMo tMo_ok nMo rfl (by decide) rfl q3136 rfl rfl fV rfl rfl d_Mo_begin_12 (fun s_3 H locs h hP hD hS => ?_)
  refine lv_aload_n G.1 G.2.1 d_Mo_begin_15 rfl (lv_at hl 0 rfl) ?_
  refine lv_iconst (v := 1) G.1 G.2.1 d_Mo_begin_16 (by decide) ?_
  refine W.eq (g2 := F0 m 17 ls [.int 1, .ref (ad a0)]) rfl ?_
  obtain ⟨n_4, h⟩ := h
  refine upf G hP hD hS h 73 putV h_a0 iMo tMo tMo_ok nMo rfl (by decide) rfl q3137 rfl rfl fV (nb_n n_4) (nb_f n_4) d_Mo_begin_17 (fun s_5 H locs h hP hD hS => ?_)
  refine lv_aload_n G.1 G.2.1 d_Mo_begin_20 rfl (lv_at hl 0 rfl) ?_
  obtain ⟨b_6, e_7, c_8, h⟩ := h
  refine ugf (v := .ref (ad b_6)) G hP h_a0 iMo rfl 45 (by decide) rfl q3109 rfl (by show va_rf ((sO s_5 a0 45).map ad) = _; rw [e_7]; rfl) d_Mo_begin_21 ?_
  refine ugfN (v := .ref (yP y b_6 22)) G hP c_8 iMw rfl 22 (by decide) rfl q2748 rfl rfl d_Mo_begin_24 ?_
  refine lv_iload_n G.1 G.2.1 d_Mo_begin_27 rfl (lv_at hl 2 rfl) ?_
  refine uiald G hP (kdp c_8 rfl) (typ c_8 rfl) h d_Mo_begin_28 (fun x_9 h => ?_)
  refine lv_istore_n (lv' := [(3, .int x_9), (0, .ref (ad a0)), (1, .int v1), (2, .int v2)]) G.1 G.2.1 d_Mo_begin_29 rfl hl (by decide) rfl (fun ls hl => ?_)
  refine lv_iconst (v := 0) G.1 G.2.1 d_Mo_begin_30 (by decide) ?_
  refine lv_istore (lv' := [(4, .int 0), (3, .int x_9), (0, .ref (ad a0)), (1, .int v1), (2, .int v2)]) G.1 G.2.1 d_Mo_begin_31 hl (by decide) rfl (fun ls hl => ?_)
  refine lv_aload_n G.1 G.2.1 d_Mo_begin_33 rfl (lv_at hl 2 rfl) ?_
  obtain ⟨b_10, e_11, c_12, h⟩ := h
  refine ugf (v := .ref (ad b_10)) G hP h_a0 iMo rfl 45 (by decide) rfl q3109 rfl (by show va_rf ((sO s_5 a0 45).map ad) = _; rw [e_11]; rfl) d_Mo_begin_34 ?_
  refine ugfN (v := .ref (yP y b_10 20)) G hP c_12 iMw rfl 20 (by decide) rfl q2744 rfl rfl d_Mo_begin_37 ?_
  refine W.eq (g2 := F0 m 40 ls [.ref (yP y b_10 20)]) rfl ?_
  refine lv_iload_n G.1 G.2.1 d_Mo_begin_40 rfl (lv_at hl 4 rfl) ?_
  refine uiald G hP (kdp c_12 rfl) (typ c_12 rfl) h d_Mo_begin_41 (fun x_13 h => ?_)
  refine lv_iconst (v := 1) G.1 G.2.1 d_Mo_begin_42 (by decide) ?_
  refine lv_iand G.1 G.2.1 d_Mo_begin_43 ?_
  have J_88 : ∀ (s_j88 : St) (x2j88 : Int32) (x3j88 : Int32) (x4j88 : Int32) (H : Heap) (locs : List Loc), wj_Mo_begin_88 y Post a0 s_j88 x2j88 x3j88 x4j88 → va_P D CL (ws g ad y s_j88) H → va_D A (ws g ad y s_j88) → va_S A s.heap H locs → ∀ ls, lv_has ls 7 [(0, .ref (ad a0)), (2, .int x2j88), (3, .int x3j88), (4, .int x4j88)] → W p l e ru_Mo_begin s m args below meth c H locs 0 0 Q (F0 m 88 ls []) := by
    intro s_j88 x2j88 x3j88 x4j88 H locs h hP hD hS ls hl
    unfold wj_Mo_begin_88 at h
    refine lv_aload_n G.1 G.2.1 d_Mo_begin_88 rfl (lv_at hl 0 rfl) ?_
    obtain ⟨b_14, e_15, c_16, h⟩ := h
    refine ugf (v := .ref (ad b_14)) G hP h_a0 iMo rfl 45 (by decide) rfl q3109 rfl (by show va_rf ((sO s_j88 a0 45).map ad) = _; rw [e_15]; rfl) d_Mo_begin_89 ?_
    refine ugfN (v := .ref (yP y b_14 19)) G hP c_16 iMw rfl 19 (by decide) rfl q2742 rfl rfl d_Mo_begin_92 ?_
    refine lv_iload_n G.1 G.2.1 d_Mo_begin_95 rfl (lv_at hl 1 rfl) ?_
    refine uiald G hP (kdp c_16 rfl) (typ c_16 rfl) h d_Mo_begin_96 (fun x_17 h => ?_)
    refine lv_istore (lv' := [(5, .int x_17), (0, .ref (ad a0)), (2, .int x2j88), (3, .int x3j88), (4, .int x4j88)]) G.1 G.2.1 d_Mo_begin_97 hl (by decide) rfl (fun ls hl => ?_)
    refine lv_iconst (v := 0) G.1 G.2.1 d_Mo_begin_99 (by decide) ?_
    refine lv_istore (lv' := [(6, .int 0), (5, .int x_17), (0, .ref (ad a0)), (2, .int x2j88), (3, .int x3j88), (4, .int x4j88)]) G.1 G.2.1 d_Mo_begin_100 hl (by decide) rfl (fun ls hl => ?_)
    unfold wl_Mo_begin_102 at h
    obtain ⟨I_102, μ_102, hI_102, hB_102⟩ := h
    have L_102 : ∀ (n_102 : Nat) (s_h102 : St) (x3h102 : Int32) (x4h102 : Int32) (x5h102 : Int32) (x6h102 : Int32), μ_102 s_h102 x3h102 x4h102 x5h102 x6h102 < n_102 → I_102 s_h102 x3h102 x4h102 x5h102 x6h102 → ∀ (H : Heap) (locs : List Loc), va_P D CL (ws g ad y s_h102) H → va_D A (ws g ad y s_h102) → va_S A s.heap H locs → ∀ ls, lv_has ls 7 [(0, .ref (ad a0)), (3, .int x3h102), (4, .int x4h102), (5, .int x5h102), (6, .int x6h102)] → W p l e ru_Mo_begin s m args below meth c H locs 0 0 Q (F0 m 102 ls []) := by
      intro n_102
      induction n_102 with
      | zero => intro s_h102 x3h102 x4h102 x5h102 x6h102 hμ; exact absurd hμ (Nat.not_lt_zero _)
      | succ n_102 ih_102 =>
        intro s_h102 x3h102 x4h102 x5h102 x6h102 hμ_102 hJ H locs hP hD hS ls hl
        obtain ⟨K_102, hK_102, h⟩ : ∃ K : St → Int32 → Int32 → Int32 → Int32 → Prop, (∀ z (t0 : Int32) (t1 : Int32) (t2 : Int32) (t3 : Int32), K z t0 t1 t2 t3 → I_102 z t0 t1 t2 t3 ∧ μ_102 z t0 t1 t2 t3 < μ_102 s_h102 x3h102 x4h102 x5h102 x6h102) ∧ wb_Mo_begin_102 y Post K a0 s_h102 x3h102 x4h102 x5h102 x6h102 := ⟨_, fun _ _ _ _ _ h => h, hB_102 s_h102 x3h102 x4h102 x5h102 x6h102 hJ⟩
        unfold wb_Mo_begin_102 at h
        refine lv_iload G.1 G.2.1 d_Mo_begin_102 (lv_at hl 4 rfl) ?_
        refine lv_aload_n G.1 G.2.1 d_Mo_begin_104 rfl (lv_at hl 0 rfl) ?_
        refine ugf (v := .ref (yP y a0 31)) G hP h_a0 iMo rfl 31 (by decide) rfl q3095 rfl rfl d_Mo_begin_105 ?_
        refine lv_iload G.1 G.2.1 d_Mo_begin_108 (lv_at hl 3 rfl) ?_
        refine uiald G hP (kdp h_a0 rfl) (typ h_a0 rfl) h d_Mo_begin_110 (fun x_18 h => ?_)
        refine lv_icmp_ge (tgt := 145) G.1 G.2.1 d_Mo_begin_111 (by decide) (fun c111 => ?_) (fun c111 => ?_)
        · skip
          have h := h.1 c111
          refine lv_iload G.1 G.2.1 d_Mo_begin_145 (lv_at hl 2 rfl) ?_
          refine lv_istore (lv' := [(6, .int x4h102), (0, .ref (ad a0)), (3, .int x3h102), (4, .int x4h102), (5, .int x5h102)]) G.1 G.2.1 d_Mo_begin_147 hl (by decide) rfl (fun ls hl => ?_)
          unfold wl_Mo_begin_149 at h
          obtain ⟨I_149, μ_149, hI_149, hB_149⟩ := h
          have L_149 : ∀ (n_149 : Nat) (s_h149 : St) (x3h149 : Int32) (x6h149 : Int32), μ_149 s_h149 x3h149 x6h149 < n_149 → I_149 s_h149 x3h149 x6h149 → ∀ (H : Heap) (locs : List Loc), va_P D CL (ws g ad y s_h149) H → va_D A (ws g ad y s_h149) → va_S A s.heap H locs → ∀ ls, lv_has ls 7 [(0, .ref (ad a0)), (3, .int x3h149), (6, .int x6h149)] → W p l e ru_Mo_begin s m args below meth c H locs 0 0 Q (F0 m 149 ls []) := by
            intro n_149
            induction n_149 with
            | zero => intro s_h149 x3h149 x6h149 hμ; exact absurd hμ (Nat.not_lt_zero _)
            | succ n_149 ih_149 =>
              intro s_h149 x3h149 x6h149 hμ_149 hJ H locs hP hD hS ls hl
              obtain ⟨K_149, hK_149, h⟩ : ∃ K : St → Int32 → Int32 → Prop, (∀ z (t0 : Int32) (t1 : Int32), K z t0 t1 → I_149 z t0 t1 ∧ μ_149 z t0 t1 < μ_149 s_h149 x3h149 x6h149) ∧ wb_Mo_begin_149 y Post K a0 s_h149 x3h149 x6h149 := ⟨_, fun _ _ _ h => h, hB_149 s_h149 x3h149 x6h149 hJ⟩
              unfold wb_Mo_begin_149 at h
              refine lv_iload G.1 G.2.1 d_Mo_begin_149 (lv_at hl 2 rfl) ?_
              refine lv_iload_n G.1 G.2.1 d_Mo_begin_151 rfl (lv_at hl 1 rfl) ?_
              refine lv_icmp_ge (tgt := 169) G.1 G.2.1 d_Mo_begin_152 (by decide) (fun c152 => ?_) (fun c152 => ?_)
              · skip
                have h := h.1 c152
                exact hret _ _ _ _ _ _ ls h hP hD hS (Nat.le_refl _) (Nat.le_refl _) d_Mo_begin_169
              · skip
                have h := h.2 c152
                refine lv_aload_n G.1 G.2.1 d_Mo_begin_155 rfl (lv_at hl 0 rfl) ?_
                refine ugf (v := .ref (yP y a0 70)) G hP h_a0 iMo rfl 70 (by decide) rfl q3134 rfl rfl d_Mo_begin_156 ?_
                refine lv_iload G.1 G.2.1 d_Mo_begin_159 (lv_at hl 2 rfl) ?_
                refine lv_iconst (v := 4) G.1 G.2.1 d_Mo_begin_161 (by decide) ?_
                refine uiast G hP hD hS (kdp h_a0 rfl) (typ h_a0 rfl) h d_Mo_begin_162 (fun s_19 H locs h hP hD hS => ?_)
                refine lv_iinc (v := x6h149 + 1) (lv' := [(6, .int (x6h149 + 1)), (0, .ref (ad a0)), (3, .int x3h149)]) G.1 G.2.1 d_Mo_begin_163 hl (k := 2) rfl rfl (by decide) rfl (fun ls hl => ?_)
                refine lv_goto (tgt := 149) G.1 G.2.1 d_Mo_begin_166 (by decide) ?_
                have h := hK_149 s_19 x3h149 (x6h149 + 1) h
                exact ih_149 s_19 x3h149 (x6h149 + 1) (Nat.lt_of_lt_of_le h.2 (Nat.le_of_lt_succ hμ_149)) h.1 H locs hP hD hS ls (lv_sub hl [1, 2, 0] rfl)
          exact L_149 _ s_h102 x3h102 x4h102 (Nat.lt_succ_self _) hI_149 H locs hP hD hS ls (lv_sub hl [1, 2, 0] rfl)
        · skip
          have h := h.2 c111
          refine lv_aload_n G.1 G.2.1 d_Mo_begin_114 rfl (lv_at hl 0 rfl) ?_
          refine ugf (v := .ref (yP y a0 70)) G hP h_a0 iMo rfl 70 (by decide) rfl q3134 rfl rfl d_Mo_begin_115 ?_
          refine lv_iload G.1 G.2.1 d_Mo_begin_118 (lv_at hl 2 rfl) ?_
          refine lv_aload_n G.1 G.2.1 d_Mo_begin_120 rfl (lv_at hl 0 rfl) ?_
          refine ugf (v := .ref (yP y a0 35)) G hP h_a0 iMo rfl 35 (by decide) rfl q3099 rfl rfl d_Mo_begin_121 ?_
          refine W.eq (g2 := F0 m 124 ls [.ref (yP y a0 35), .int x4h102, .ref (yP y a0 70)]) rfl ?_
          refine lv_aload_n G.1 G.2.1 d_Mo_begin_124 rfl (lv_at hl 0 rfl) ?_
          refine ugf (v := .ref (yP y a0 30)) G hP h_a0 iMo rfl 30 (by decide) rfl q3094 rfl rfl d_Mo_begin_125 ?_
          refine lv_iload G.1 G.2.1 d_Mo_begin_128 (lv_at hl 3 rfl) ?_
          refine uiald G hP (kdp h_a0 rfl) (typ h_a0 rfl) h d_Mo_begin_130 (fun x_20 h => ?_)
          refine lv_iload G.1 G.2.1 d_Mo_begin_131 (lv_at hl 4 rfl) ?_
          refine lv_iadd G.1 G.2.1 d_Mo_begin_133 ?_
          refine uiald G hP (kdp h_a0 rfl) (typ h_a0 rfl) h d_Mo_begin_134 (fun x_21 h => ?_)
          refine uiast G hP hD hS (kdp h_a0 rfl) (typ h_a0 rfl) h d_Mo_begin_135 (fun s_22 H locs h hP hD hS => ?_)
          refine lv_iinc (v := x4h102 + 1) (lv' := [(4, .int (x4h102 + 1)), (0, .ref (ad a0)), (3, .int x3h102), (5, .int x5h102), (6, .int x6h102)]) G.1 G.2.1 d_Mo_begin_136 hl (k := 2) rfl rfl (by decide) rfl (fun ls hl => ?_)
          refine lv_iinc (v := x6h102 + 1) (lv' := [(6, .int (x6h102 + 1)), (4, .int (x4h102 + 1)), (0, .ref (ad a0)), (3, .int x3h102), (5, .int x5h102)]) G.1 G.2.1 d_Mo_begin_139 hl (k := 4) rfl rfl (by decide) rfl (fun ls hl => ?_)
          refine lv_goto (tgt := 102) G.1 G.2.1 d_Mo_begin_142 (by decide) ?_
          have h := hK_102 s_22 x3h102 (x4h102 + 1) x5h102 (x6h102 + 1) h
          exact ih_102 s_22 x3h102 (x4h102 + 1) x5h102 (x6h102 + 1) (Nat.lt_of_lt_of_le h.2 (Nat.le_of_lt_succ hμ_102)) h.1 H locs hP hD hS ls (lv_sub hl [2, 3, 1, 4, 0] rfl)
    exact L_102 _ s_j88 x3j88 x4j88 x_17 0 (Nat.lt_succ_self _) hI_102 H locs hP hD hS ls (lv_sub hl [2, 4, 5, 1, 0] rfl)
  refine lv_if_ne (tgt := 88) G.1 G.2.1 d_Mo_begin_44 (by decide) (fun c44 => ?_) (fun c44 => ?_)
  · skip
    have h := h.1 c44
    exact J_88 s_5 v2 x_9 0 H locs h hP hD hS ls (lv_sub hl [2, 4, 1, 0] rfl)
  · skip
    have h := h.2 c44
    refine lv_aload_n G.1 G.2.1 d_Mo_begin_47 rfl (lv_at hl 2 rfl) ?_
    refine ugf (v := .ref (yP y a0 70)) G hP h_a0 iMo rfl 70 (by decide) rfl q3134 rfl rfl d_Mo_begin_48 ?_
    refine lv_iconst (v := 0) G.1 G.2.1 d_Mo_begin_51 (by decide) ?_
    refine lv_aload_n G.1 G.2.1 d_Mo_begin_52 rfl (lv_at hl 2 rfl) ?_
    obtain ⟨b_23, e_24, c_25, h⟩ := h
    refine ugf (v := .ref (ad b_23)) G hP h_a0 iMo rfl 45 (by decide) rfl q3109 rfl (by show va_rf ((sO s_5 a0 45).map ad) = _; rw [e_24]; rfl) d_Mo_begin_53 ?_
    refine ugfN (v := .ref (yP y b_23 18)) G hP c_25 iMw rfl 18 (by decide) rfl q2740 rfl rfl d_Mo_begin_56 ?_
    refine lv_iload_n G.1 G.2.1 d_Mo_begin_59 rfl (lv_at hl 4 rfl) ?_
    refine W.eq (g2 := F0 m 60 ls [.int v2, .ref (yP y b_23 18), .int 0, .ref (yP y a0 70)]) rfl ?_
    refine uiald G hP (kdp c_25 rfl) (typ c_25 rfl) h d_Mo_begin_60 (fun x_26 h => ?_)
    refine lv_aload_n G.1 G.2.1 d_Mo_begin_61 rfl (lv_at hl 2 rfl) ?_
    refine ugf (v := .int (sV s_5 a0 6)) G hP h_a0 iMo rfl 6 (by decide) rfl q3070 rfl rfl d_Mo_begin_62 ?_
    have J_84 : ∀ (s_j84 : St) (x2j84 : Int32) (x3j84 : Int32) (z1j84 : Int32) (z2j84 : Int32) (H : Heap) (locs : List Loc), wj_Mo_begin_84 y Post a0 s_j84 x2j84 x3j84 z1j84 z2j84 → va_P D CL (ws g ad y s_j84) H → va_D A (ws g ad y s_j84) → va_S A s.heap H locs → ∀ ls, lv_has ls 7 [(0, .ref (ad a0)), (2, .int x2j84), (3, .int x3j84)] → W p l e ru_Mo_begin s m args below meth c H locs 0 0 Q (F0 m 84 ls [.int z2j84, .int z1j84, .ref (yP y a0 70)]) := by
      intro s_j84 x2j84 x3j84 z1j84 z2j84 H locs h hP hD hS ls hl
      unfold wj_Mo_begin_84 at h
      refine uiast G hP hD hS (kdp h_a0 rfl) (typ h_a0 rfl) h d_Mo_begin_84 (fun s_27 H locs h hP hD hS => ?_)
      refine lv_iconst (v := 1) G.1 G.2.1 d_Mo_begin_85 (by decide) ?_
      refine lv_istore (lv' := [(4, .int 1), (0, .ref (ad a0)), (2, .int x2j84), (3, .int x3j84)]) G.1 G.2.1 d_Mo_begin_86 hl (by decide) rfl (fun ls hl => ?_)
      exact J_88 s_27 x2j84 x3j84 1 H locs h hP hD hS ls (lv_sub hl [1, 2, 3, 0] rfl)
    refine lv_icmp_ne (tgt := 72) G.1 G.2.1 d_Mo_begin_65 (by decide) (fun c65 => ?_) (fun c65 => ?_)
    · skip
      have h := h.1 c65
      refine lv_bipush (v := 16) G.1 G.2.1 d_Mo_begin_72 (by decide) ?_
      refine lv_aload_n G.1 G.2.1 d_Mo_begin_74 rfl (lv_at hl 2 rfl) ?_
      obtain ⟨b_28, e_29, c_30, h⟩ := h
      refine ugf (v := .ref (ad b_28)) G hP h_a0 iMo rfl 45 (by decide) rfl q3109 rfl (by show va_rf ((sO s_5 a0 45).map ad) = _; rw [e_29]; rfl) d_Mo_begin_75 ?_
      refine ugfN (v := .ref (yP y b_28 3)) G hP c_30 iMw rfl 3 (by decide) rfl q2710 rfl rfl d_Mo_begin_78 ?_
      refine lv_iload_n G.1 G.2.1 d_Mo_begin_81 rfl (lv_at hl 3 rfl) ?_
      refine uiald G hP (kdp c_30 rfl) (typ c_30 rfl) h d_Mo_begin_82 (fun x_31 h => ?_)
      refine lv_iadd G.1 G.2.1 d_Mo_begin_83 ?_
      exact J_84 s_5 v2 x_9 0 (16 + x_31) H locs h hP hD hS ls (lv_sub hl [2, 4, 1] rfl)
    · skip
      have h := h.2 c65
      refine lv_iconst (v := 5) G.1 G.2.1 d_Mo_begin_68 (by decide) ?_
      refine lv_goto (tgt := 84) G.1 G.2.1 d_Mo_begin_69 (by decide) ?_
      exact J_84 s_5 v2 x_9 0 5 H locs h hP hD hS ls (lv_sub hl [2, 4, 1] rfl)
def y_Mo_frameKind : MethodName := ⟨"ClassWorksModel", "frameKind", "(II)I"⟩
abbrev b_Mo_frameKind : ByteArray := prog_14_method_64_code
theorem q2785 : Cond.fieldLinkNest "ClassWorksModel" 692 "ClassWorksModel$World" "frameKinds" "[I" "ClassWorksModel" ∈ lw_nest := lw_nestmem (List.mem_of_getElem? (i := 2785) (by decide +kernel)) rfl
theorem q2782 : Cond.fieldLinkNest "ClassWorksModel" 698 "ClassWorksModel$World" "frameFroms" "[I" "ClassWorksModel" ∈ lw_nest := lw_nestmem (List.mem_of_getElem? (i := 2782) (by decide +kernel)) rfl
theorem d_Mo_frameKind_0 : decode b_Mo_frameKind 0 = .ok (.aload_n 0, 1) := by decide +kernel
theorem d_Mo_frameKind_1 : decode b_Mo_frameKind 1 = .ok (.getfield 522, 3) := by decide +kernel
theorem d_Mo_frameKind_4 : decode b_Mo_frameKind 4 = .ok (.getfield 692, 3) := by decide +kernel
theorem d_Mo_frameKind_7 : decode b_Mo_frameKind 7 = .ok (.aload_n 0, 1) := by decide +kernel
theorem d_Mo_frameKind_8 : decode b_Mo_frameKind 8 = .ok (.getfield 522, 3) := by decide +kernel
theorem d_Mo_frameKind_11 : decode b_Mo_frameKind 11 = .ok (.getfield 698, 3) := by decide +kernel
theorem d_Mo_frameKind_14 : decode b_Mo_frameKind 14 = .ok (.iload_n 1, 1) := by decide +kernel
theorem d_Mo_frameKind_15 : decode b_Mo_frameKind 15 = .ok (.iaload, 1) := by decide +kernel
theorem d_Mo_frameKind_16 : decode b_Mo_frameKind 16 = .ok (.iload_n 2, 1) := by decide +kernel
theorem d_Mo_frameKind_17 : decode b_Mo_frameKind 17 = .ok (.iadd, 1) := by decide +kernel
theorem d_Mo_frameKind_18 : decode b_Mo_frameKind 18 = .ok (.iaload, 1) := by decide +kernel
theorem d_Mo_frameKind_19 : decode b_Mo_frameKind 19 = .ok (.ireturn, 1) := by decide +kernel
abbrev ru_Mo_frameKind : Room := { frames := 0, cells := 0, slots := 0, locals := 0 }
def wu_Mo_frameKind (y : Ly) (Post : St → Int32 → Prop) (σ : St) (a0 : Nat) (v1 : Int32) (v2 : Int32) : Prop := ∃ b_1 : Nat, sO σ a0 45 = some b_1 ∧ cl b_1 = 13 ∧ ∃ b_4 : Nat, sO σ a0 45 = some b_4 ∧ cl b_4 = 13 ∧ xA y σ b_4 40 v1 (fun x_7 : Int32 => xA y σ b_1 42 (x_7 + v2) (fun x_8 : Int32 => Post σ x_8))
set_option maxHeartbeats 4000000 in
set_option maxRecDepth 100000 in
theorem cu_Mo_frameKind (l : Launch) (D : va_G) (g : Nat → ClassId) (ad : Nat → Nat) (y : Ly) (Post : St → Int32 → Prop) (σ : St) (a0 : Nat) (v1 : Int32) (v2 : Int32) (sz : Nat) (h_a0 : cl a0 = 14) (h : wu_Mo_frameKind y Post σ a0 v1 v2) : Met l y_Mo_frameKind (mw y_Mo_frameKind b_Mo_frameKind 3 (some .int)) ru_Mo_frameKind (PC g D [] [.ref (ad a0), .int v1, .int v2] sz (ws g ad y σ)) (va_Qi (fun (r : Int32) (u : St) => Post u r) (QW D (va_A (ws g ad y σ) sz) (fun u => ws g ad y u)) (va_A (ws g ad y σ) sz)) 0 0 (va_A (ws g ad y σ) sz) := by
  refine ofI (by decide +kernel) (Nat.le_of_ble_eq_true rfl) ?_
  intro p e s m args below meth c A Q ls H locs G hsz hP hD hS hl hret
  subst hsz
  have hl : lv_has ls 3 [(0, .ref (ad a0)), (1, .int v1), (2, .int v2)] := hl
  unfold wu_Mo_frameKind at h
  refine lv_aload_n G.1 G.2.1 d_Mo_frameKind_0 rfl (lv_at hl 0 rfl) ?_
  obtain ⟨b_1, e_2, c_3, h⟩ := h
  refine ugf (v := .ref (ad b_1)) G hP h_a0 iMo rfl 45 (by decide) rfl q3109 rfl (by show va_rf ((sO σ a0 45).map ad) = _; rw [e_2]; rfl) d_Mo_frameKind_1 ?_
  refine ugfN (v := .ref (yP y b_1 42)) G hP c_3 iMw rfl 42 (by decide) rfl q2785 rfl rfl d_Mo_frameKind_4 ?_
  refine lv_aload_n G.1 G.2.1 d_Mo_frameKind_7 rfl (lv_at hl 0 rfl) ?_
  obtain ⟨b_4, e_5, c_6, h⟩ := h
  refine ugf (v := .ref (ad b_4)) G hP h_a0 iMo rfl 45 (by decide) rfl q3109 rfl (by show va_rf ((sO σ a0 45).map ad) = _; rw [e_5]; rfl) d_Mo_frameKind_8 ?_
  refine ugfN (v := .ref (yP y b_4 40)) G hP c_6 iMw rfl 40 (by decide) rfl q2782 rfl rfl d_Mo_frameKind_11 ?_
  refine lv_iload_n G.1 G.2.1 d_Mo_frameKind_14 rfl (lv_at hl 1 rfl) ?_
  refine uiald G hP (kdp c_6 rfl) (typ c_6 rfl) h d_Mo_frameKind_15 (fun x_7 h => ?_)
  refine lv_iload_n G.1 G.2.1 d_Mo_frameKind_16 rfl (lv_at hl 2 rfl) ?_
  refine lv_iadd G.1 G.2.1 d_Mo_frameKind_17 ?_
  refine uiald G hP (kdp c_3 rfl) (typ c_3 rfl) h d_Mo_frameKind_18 (fun x_8 h => ?_)
  refine W.eq (g2 := F0 m 19 ls [.int x_8]) rfl ?_
  exact hret _ _ _ _ _ _ _ ls h hP hD hS (Nat.le_refl _) (Nat.le_refl _) d_Mo_frameKind_19
theorem q2778 : Cond.fieldLinkNest "ClassWorksModel" 701 "ClassWorksModel$World" "frameLocals" "[I" "ClassWorksModel" ∈ lw_nest := lw_nestmem (List.mem_of_getElem? (i := 2778) (by decide +kernel)) rfl
theorem q2780 : Cond.fieldLinkNest "ClassWorksModel" 704 "ClassWorksModel$World" "frameStacks" "[I" "ClassWorksModel" ∈ lw_nest := lw_nestmem (List.mem_of_getElem? (i := 2780) (by decide +kernel)) rfl
theorem q3717 : Cond.methodLink "ClassWorksModel" 771 y_Mo_frameKind ∈ lw_ok := lw_okmem (List.mem_of_getElem? (i := 3717) (by decide +kernel)) rfl
theorem q3720 : Cond.code y_Mo_frameKind b_Mo_frameKind 3 (some .int) ∈ lw_ok := lw_okmem (List.mem_of_getElem? (i := 3720) (by decide +kernel)) rfl
theorem q3719 : Cond.instanceMethod y_Mo_frameKind ∈ lw_ok := lw_okmem (List.mem_of_getElem? (i := 3719) (by decide +kernel)) rfl
theorem q226 : Cond.selects y_Mo_frameKind.cls y_Mo_frameKind y_Mo_frameKind ∈ lw_ok := lw_okmem (List.mem_of_getElem? (i := 226) (by decide +kernel)) rfl
theorem w9_Mo_frameKind : CWv y_Mo_frameKind b_Mo_frameKind 3 (some .int) 2 ∧ Cond.instanceMethod y_Mo_frameKind ∈ lw_ok ∧ Cond.selects y_Mo_frameKind.cls y_Mo_frameKind y_Mo_frameKind ∈ lw_ok := ⟨⟨q3720, q348, by decide +kernel, by decide +kernel, by decide +kernel⟩, q3719, q226⟩
def y_Mo_isWrongFrame : MethodName := ⟨"ClassWorksModel", "isWrongFrame", "(I)Z"⟩
abbrev b_Mo_isWrongFrame : ByteArray := prog_14_method_65_code
theorem d_Mo_isWrongFrame_0 : decode b_Mo_isWrongFrame 0 = .ok (.aload_n 0, 1) := by decide +kernel
theorem d_Mo_isWrongFrame_1 : decode b_Mo_isWrongFrame 1 = .ok (.getfield 522, 3) := by decide +kernel
theorem d_Mo_isWrongFrame_4 : decode b_Mo_isWrongFrame 4 = .ok (.getfield 701, 3) := by decide +kernel
theorem d_Mo_isWrongFrame_7 : decode b_Mo_isWrongFrame 7 = .ok (.iload_n 1, 1) := by decide +kernel
theorem d_Mo_isWrongFrame_8 : decode b_Mo_isWrongFrame 8 = .ok (.iaload, 1) := by decide +kernel
theorem d_Mo_isWrongFrame_9 : decode b_Mo_isWrongFrame 9 = .ok (.istore_n 2, 1) := by decide +kernel
theorem d_Mo_isWrongFrame_10 : decode b_Mo_isWrongFrame 10 = .ok (.iload_n 2, 1) := by decide +kernel
theorem d_Mo_isWrongFrame_11 : decode b_Mo_isWrongFrame 11 = .ok (.aload_n 0, 1) := by decide +kernel
theorem d_Mo_isWrongFrame_12 : decode b_Mo_isWrongFrame 12 = .ok (.getfield 522, 3) := by decide +kernel
theorem d_Mo_isWrongFrame_15 : decode b_Mo_isWrongFrame 15 = .ok (.getfield 704, 3) := by decide +kernel
theorem d_Mo_isWrongFrame_18 : decode b_Mo_isWrongFrame 18 = .ok (.iload_n 1, 1) := by decide +kernel
theorem d_Mo_isWrongFrame_19 : decode b_Mo_isWrongFrame 19 = .ok (.iaload, 1) := by decide +kernel
theorem d_Mo_isWrongFrame_20 : decode b_Mo_isWrongFrame 20 = .ok (.iadd, 1) := by decide +kernel
theorem d_Mo_isWrongFrame_21 : decode b_Mo_isWrongFrame 21 = .ok (.istore_n 3, 1) := by decide +kernel
theorem d_Mo_isWrongFrame_22 : decode b_Mo_isWrongFrame 22 = .ok (.iload_n 2, 1) := by decide +kernel
theorem d_Mo_isWrongFrame_23 : decode b_Mo_isWrongFrame 23 = .ok (.aload_n 0, 1) := by decide +kernel
theorem d_Mo_isWrongFrame_24 : decode b_Mo_isWrongFrame 24 = .ok (.getfield 522, 3) := by decide +kernel
theorem d_Mo_isWrongFrame_27 : decode b_Mo_isWrongFrame 27 = .ok (.getfield 459, 3) := by decide +kernel
theorem d_Mo_isWrongFrame_30 : decode b_Mo_isWrongFrame 30 = .ok (.aload_n 0, 1) := by decide +kernel
theorem d_Mo_isWrongFrame_31 : decode b_Mo_isWrongFrame 31 = .ok (.getfield 768, 3) := by decide +kernel
theorem d_Mo_isWrongFrame_34 : decode b_Mo_isWrongFrame 34 = .ok (.iaload, 1) := by decide +kernel
theorem d_Mo_isWrongFrame_35 : decode b_Mo_isWrongFrame 35 = .ok (.if_icmp .gt 27, 3) := by decide +kernel
theorem d_Mo_isWrongFrame_38 : decode b_Mo_isWrongFrame 38 = .ok (.aload_n 0, 1) := by decide +kernel
theorem d_Mo_isWrongFrame_39 : decode b_Mo_isWrongFrame 39 = .ok (.getfield 522, 3) := by decide +kernel
theorem d_Mo_isWrongFrame_42 : decode b_Mo_isWrongFrame 42 = .ok (.getfield 704, 3) := by decide +kernel
theorem d_Mo_isWrongFrame_45 : decode b_Mo_isWrongFrame 45 = .ok (.iload_n 1, 1) := by decide +kernel
theorem d_Mo_isWrongFrame_46 : decode b_Mo_isWrongFrame 46 = .ok (.iaload, 1) := by decide +kernel
theorem d_Mo_isWrongFrame_47 : decode b_Mo_isWrongFrame 47 = .ok (.aload_n 0, 1) := by decide +kernel
theorem d_Mo_isWrongFrame_48 : decode b_Mo_isWrongFrame 48 = .ok (.getfield 522, 3) := by decide +kernel
theorem d_Mo_isWrongFrame_51 : decode b_Mo_isWrongFrame 51 = .ok (.getfield 456, 3) := by decide +kernel
theorem d_Mo_isWrongFrame_54 : decode b_Mo_isWrongFrame 54 = .ok (.aload_n 0, 1) := by decide +kernel
theorem d_Mo_isWrongFrame_55 : decode b_Mo_isWrongFrame 55 = .ok (.getfield 768, 3) := by decide +kernel
theorem d_Mo_isWrongFrame_58 : decode b_Mo_isWrongFrame 58 = .ok (.iaload, 1) := by decide +kernel
theorem d_Mo_isWrongFrame_59 : decode b_Mo_isWrongFrame 59 = .ok (.if_icmp .le 7, 3) := by decide +kernel
theorem d_Mo_isWrongFrame_62 : decode b_Mo_isWrongFrame 62 = .ok (.iconst 1, 1) := by decide +kernel
theorem d_Mo_isWrongFrame_63 : decode b_Mo_isWrongFrame 63 = .ok (.goto 4, 3) := by decide +kernel
theorem d_Mo_isWrongFrame_66 : decode b_Mo_isWrongFrame 66 = .ok (.iconst 0, 1) := by decide +kernel
theorem d_Mo_isWrongFrame_67 : decode b_Mo_isWrongFrame 67 = .ok (.istore 4, 2) := by decide +kernel
theorem d_Mo_isWrongFrame_69 : decode b_Mo_isWrongFrame 69 = .ok (.iconst 0, 1) := by decide +kernel
theorem d_Mo_isWrongFrame_70 : decode b_Mo_isWrongFrame 70 = .ok (.istore 5, 2) := by decide +kernel
theorem d_Mo_isWrongFrame_72 : decode b_Mo_isWrongFrame 72 = .ok (.iload 5, 2) := by decide +kernel
theorem d_Mo_isWrongFrame_74 : decode b_Mo_isWrongFrame 74 = .ok (.iload_n 3, 1) := by decide +kernel
theorem d_Mo_isWrongFrame_75 : decode b_Mo_isWrongFrame 75 = .ok (.if_icmp .ge 67, 3) := by decide +kernel
theorem d_Mo_isWrongFrame_78 : decode b_Mo_isWrongFrame 78 = .ok (.iload 4, 2) := by decide +kernel
theorem d_Mo_isWrongFrame_80 : decode b_Mo_isWrongFrame 80 = .ok (.ifCond .ne 62, 3) := by decide +kernel
theorem d_Mo_isWrongFrame_83 : decode b_Mo_isWrongFrame 83 = .ok (.aload_n 0, 1) := by decide +kernel
theorem d_Mo_isWrongFrame_84 : decode b_Mo_isWrongFrame 84 = .ok (.iload_n 1, 1) := by decide +kernel
theorem d_Mo_isWrongFrame_85 : decode b_Mo_isWrongFrame 85 = .ok (.iload 5, 2) := by decide +kernel
theorem d_Mo_isWrongFrame_87 : decode b_Mo_isWrongFrame 87 = .ok (.invokevirtual 771, 3) := by decide +kernel
theorem d_Mo_isWrongFrame_90 : decode b_Mo_isWrongFrame 90 = .ok (.istore 6, 2) := by decide +kernel
theorem d_Mo_isWrongFrame_92 : decode b_Mo_isWrongFrame 92 = .ok (.iload 6, 2) := by decide +kernel
theorem d_Mo_isWrongFrame_94 : decode b_Mo_isWrongFrame 94 = .ok (.iconst 4, 1) := by decide +kernel
theorem d_Mo_isWrongFrame_95 : decode b_Mo_isWrongFrame 95 = .ok (.if_icmp .ne 9, 3) := by decide +kernel
theorem d_Mo_isWrongFrame_98 : decode b_Mo_isWrongFrame 98 = .ok (.iload 5, 2) := by decide +kernel
theorem d_Mo_isWrongFrame_100 : decode b_Mo_isWrongFrame 100 = .ok (.iload_n 2, 1) := by decide +kernel
theorem d_Mo_isWrongFrame_101 : decode b_Mo_isWrongFrame 101 = .ok (.if_icmp .ge 28, 3) := by decide +kernel
theorem d_Mo_isWrongFrame_104 : decode b_Mo_isWrongFrame 104 = .ok (.iload 6, 2) := by decide +kernel
theorem d_Mo_isWrongFrame_106 : decode b_Mo_isWrongFrame 106 = .ok (.iconst 5, 1) := by decide +kernel
theorem d_Mo_isWrongFrame_107 : decode b_Mo_isWrongFrame 107 = .ok (.if_icmp .ne 26, 3) := by decide +kernel
theorem d_Mo_isWrongFrame_110 : decode b_Mo_isWrongFrame 110 = .ok (.aload_n 0, 1) := by decide +kernel
theorem d_Mo_isWrongFrame_111 : decode b_Mo_isWrongFrame 111 = .ok (.getfield 522, 3) := by decide +kernel
theorem d_Mo_isWrongFrame_114 : decode b_Mo_isWrongFrame 114 = .ok (.getfield 447, 3) := by decide +kernel
theorem d_Mo_isWrongFrame_117 : decode b_Mo_isWrongFrame 117 = .ok (.aload_n 0, 1) := by decide +kernel
theorem d_Mo_isWrongFrame_118 : decode b_Mo_isWrongFrame 118 = .ok (.getfield 768, 3) := by decide +kernel
theorem d_Mo_isWrongFrame_121 : decode b_Mo_isWrongFrame 121 = .ok (.iaload, 1) := by decide +kernel
theorem d_Mo_isWrongFrame_122 : decode b_Mo_isWrongFrame 122 = .ok (.aload_n 0, 1) := by decide +kernel
theorem d_Mo_isWrongFrame_123 : decode b_Mo_isWrongFrame 123 = .ok (.getfield 121, 3) := by decide +kernel
theorem d_Mo_isWrongFrame_126 : decode b_Mo_isWrongFrame 126 = .ok (.if_icmp .eq 7, 3) := by decide +kernel
theorem d_Mo_isWrongFrame_129 : decode b_Mo_isWrongFrame 129 = .ok (.iconst 1, 1) := by decide +kernel
theorem d_Mo_isWrongFrame_130 : decode b_Mo_isWrongFrame 130 = .ok (.goto 4, 3) := by decide +kernel
theorem d_Mo_isWrongFrame_133 : decode b_Mo_isWrongFrame 133 = .ok (.iconst 0, 1) := by decide +kernel
theorem d_Mo_isWrongFrame_134 : decode b_Mo_isWrongFrame 134 = .ok (.istore 4, 2) := by decide +kernel
theorem d_Mo_isWrongFrame_136 : decode b_Mo_isWrongFrame 136 = .ok (.iinc 5 1, 3) := by decide +kernel
theorem d_Mo_isWrongFrame_139 : decode b_Mo_isWrongFrame 139 = .ok (.goto (-67), 3) := by decide +kernel
theorem d_Mo_isWrongFrame_142 : decode b_Mo_isWrongFrame 142 = .ok (.iload 4, 2) := by decide +kernel
theorem d_Mo_isWrongFrame_144 : decode b_Mo_isWrongFrame 144 = .ok (.ireturn, 1) := by decide +kernel
abbrev ru_Mo_isWrongFrame : Room := { frames := 1, cells := 0, slots := 0, locals := 22 }
def wj_Mo_isWrongFrame_142 (y : Ly) (Post : St → Int32 → Prop) (a0 : Nat) (s_j142 : St) (x4j142 : Int32) : Prop := (nb x4j142 ∧ Post s_j142 x4j142)
def wj_Mo_isWrongFrame_134 (y : Ly) (Post : St → Int32 → Prop) (K_72 : St → Int32 → Int32 → Int32 → Int32 → Int32 → Prop) (a0 : Nat) (s_j134 : St) (x1j134 : Int32) (x2j134 : Int32) (x3j134 : Int32) (x5j134 : Int32) (z0j134 : Int32) : Prop := K_72 s_j134 x1j134 x2j134 x3j134 z0j134 (x5j134 + 1)
def wj_Mo_isWrongFrame_129 (y : Ly) (Post : St → Int32 → Prop) (K_72 : St → Int32 → Int32 → Int32 → Int32 → Int32 → Prop) (a0 : Nat) (s_j129 : St) (x1j129 : Int32) (x2j129 : Int32) (x3j129 : Int32) (x5j129 : Int32) : Prop := wj_Mo_isWrongFrame_134 y Post K_72 a0 s_j129 x1j129 x2j129 x3j129 x5j129 1
def wj_Mo_isWrongFrame_133 (y : Ly) (Post : St → Int32 → Prop) (K_72 : St → Int32 → Int32 → Int32 → Int32 → Int32 → Prop) (a0 : Nat) (s_j133 : St) (x1j133 : Int32) (x2j133 : Int32) (x3j133 : Int32) (x5j133 : Int32) : Prop := wj_Mo_isWrongFrame_134 y Post K_72 a0 s_j133 x1j133 x2j133 x3j133 x5j133 0
def wj_Mo_isWrongFrame_104 (y : Ly) (Post : St → Int32 → Prop) (K_72 : St → Int32 → Int32 → Int32 → Int32 → Int32 → Prop) (a0 : Nat) (s_j104 : St) (x1j104 : Int32) (x2j104 : Int32) (x3j104 : Int32) (x5j104 : Int32) (x6j104 : Int32) : Prop := ((¬ x6j104 = 5 → wj_Mo_isWrongFrame_133 y Post K_72 a0 s_j104 x1j104 x2j104 x3j104 x5j104) ∧ (x6j104 = 5 → ∃ b_15 : Nat, sO s_j104 a0 45 = some b_15 ∧ cl b_15 = 13 ∧ xA y s_j104 b_15 18 (sV s_j104 a0 75) (fun x_18 : Int32 => ((x_18 = (sV s_j104 a0 6) → wj_Mo_isWrongFrame_133 y Post K_72 a0 s_j104 x1j104 x2j104 x3j104 x5j104) ∧ (¬ (x_18 = (sV s_j104 a0 6)) → wj_Mo_isWrongFrame_129 y Post K_72 a0 s_j104 x1j104 x2j104 x3j104 x5j104)))))
def wb_Mo_isWrongFrame_72 (y : Ly) (Post : St → Int32 → Prop) (K_72 : St → Int32 → Int32 → Int32 → Int32 → Int32 → Prop) (a0 : Nat) (s_h72 : St) (x1h72 : Int32) (x2h72 : Int32) (x3h72 : Int32) (x4h72 : Int32) (x5h72 : Int32) : Prop := ((x3h72 ≤ x5h72 → wj_Mo_isWrongFrame_142 y Post a0 s_h72 x4h72) ∧ (¬ (x3h72 ≤ x5h72) → ((¬ x4h72 = 0 → wj_Mo_isWrongFrame_142 y Post a0 s_h72 x4h72) ∧ (x4h72 = 0 → wu_Mo_frameKind y (fun (s_14 : St) (r_13 : Int32) => ((¬ r_13 = 4 → wj_Mo_isWrongFrame_104 y Post K_72 a0 s_14 x1h72 x2h72 x3h72 x5h72 r_13) ∧ (r_13 = 4 → ((x2h72 ≤ x5h72 → wj_Mo_isWrongFrame_129 y Post K_72 a0 s_14 x1h72 x2h72 x3h72 x5h72) ∧ (¬ (x2h72 ≤ x5h72) → wj_Mo_isWrongFrame_104 y Post K_72 a0 s_14 x1h72 x2h72 x3h72 x5h72 r_13))))) s_h72 a0 x1h72 x5h72))))
def wl_Mo_isWrongFrame_72 (y : Ly) (Post : St → Int32 → Prop) (a0 : Nat) (s_h72 : St) (x1h72 : Int32) (x2h72 : Int32) (x3h72 : Int32) (x4h72 : Int32) (x5h72 : Int32) : Prop := ∃ (I : St → Int32 → Int32 → Int32 → Int32 → Int32 → Prop) (μ : St → Int32 → Int32 → Int32 → Int32 → Int32 → Nat), I s_h72 x1h72 x2h72 x3h72 x4h72 x5h72 ∧ ∀ (u : St) (t0 : Int32) (t1 : Int32) (t2 : Int32) (t3 : Int32) (t4 : Int32), I u t0 t1 t2 t3 t4 → wb_Mo_isWrongFrame_72 y Post (fun z t0q t1q t2q t3q t4q => I z t0q t1q t2q t3q t4q ∧ μ z t0q t1q t2q t3q t4q < μ u t0 t1 t2 t3 t4) a0 u t0 t1 t2 t3 t4
def wj_Mo_isWrongFrame_67 (y : Ly) (Post : St → Int32 → Prop) (a0 : Nat) (s_j67 : St) (x1j67 : Int32) (x2j67 : Int32) (x3j67 : Int32) (z0j67 : Int32) : Prop := wl_Mo_isWrongFrame_72 y Post a0 s_j67 x1j67 x2j67 x3j67 z0j67 0
def wj_Mo_isWrongFrame_62 (y : Ly) (Post : St → Int32 → Prop) (a0 : Nat) (s_j62 : St) (x1j62 : Int32) (x2j62 : Int32) (x3j62 : Int32) : Prop := wj_Mo_isWrongFrame_67 y Post a0 s_j62 x1j62 x2j62 x3j62 1
def wu_Mo_isWrongFrame (y : Ly) (Post : St → Int32 → Prop) (σ : St) (a0 : Nat) (v1 : Int32) : Prop := ∃ b_1 : Nat, sO σ a0 45 = some b_1 ∧ cl b_1 = 13 ∧ xA y σ b_1 38 v1 (fun x_4 : Int32 => ∃ b_5 : Nat, sO σ a0 45 = some b_5 ∧ cl b_5 = 13 ∧ xA y σ b_5 39 v1 (fun x_8 : Int32 => ∃ b_9 : Nat, sO σ a0 45 = some b_9 ∧ cl b_9 = 13 ∧ xA y σ b_9 22 (sV σ a0 75) (fun x_12 : Int32 => ((x_12 < x_4 → wj_Mo_isWrongFrame_62 y Post a0 σ v1 x_4 (x_4 + x_8)) ∧ (¬ (x_12 < x_4) → ∃ b_19 : Nat, sO σ a0 45 = some b_19 ∧ cl b_19 = 13 ∧ xA y σ b_19 39 v1 (fun x_22 : Int32 => ∃ b_23 : Nat, sO σ a0 45 = some b_23 ∧ cl b_23 = 13 ∧ xA y σ b_23 21 (sV σ a0 75) (fun x_26 : Int32 => ((x_22 ≤ x_26 → wj_Mo_isWrongFrame_67 y Post a0 σ v1 x_4 (x_4 + x_8) 0) ∧ (¬ (x_22 ≤ x_26) → wj_Mo_isWrongFrame_62 y Post a0 σ v1 x_4 (x_4 + x_8))))))))))
set_option maxHeartbeats 4000000 in
set_option maxRecDepth 100000 in
theorem cu_Mo_isWrongFrame (l : Launch) (D : va_G) (g : Nat → ClassId) (ad : Nat → Nat) (y : Ly) (Post : St → Int32 → Prop) (σ : St) (a0 : Nat) (v1 : Int32) (sz : Nat) (h_a0 : cl a0 = 14) (h : wu_Mo_isWrongFrame y Post σ a0 v1) : Met l y_Mo_isWrongFrame (mw y_Mo_isWrongFrame b_Mo_isWrongFrame 7 (some (.boolean))) ru_Mo_isWrongFrame (PC g D [] [.ref (ad a0), .int v1] sz (ws g ad y σ)) (va_Qi (fun (r : Int32) (u : St) => Post u r) (QW D (va_A (ws g ad y σ) sz) (fun u => ws g ad y u)) (va_A (ws g ad y σ) sz)) 0 0 (va_A (ws g ad y σ) sz) := by
  refine ofZ (by decide +kernel) (Nat.le_of_ble_eq_true rfl) ?_
  intro p e s m args below meth c A Q ls H locs G hsz hP hD hS hl hret
  subst hsz
  have hl : lv_has ls 7 [(0, .ref (ad a0)), (1, .int v1)] := hl
  unfold wu_Mo_isWrongFrame at h
  refine lv_aload_n G.1 G.2.1 d_Mo_isWrongFrame_0 rfl (lv_at hl 0 rfl) ?_
  obtain ⟨b_1, e_2, c_3, h⟩ := h
  refine ugf (v := .ref (ad b_1)) G hP h_a0 iMo rfl 45 (by decide) rfl q3109 rfl (by show va_rf ((sO σ a0 45).map ad) = _; rw [e_2]; rfl) d_Mo_isWrongFrame_1 ?_
  refine ugfN (v := .ref (yP y b_1 38)) G hP c_3 iMw rfl 38 (by decide) rfl q2778 rfl rfl d_Mo_isWrongFrame_4 ?_
  refine lv_iload_n G.1 G.2.1 d_Mo_isWrongFrame_7 rfl (lv_at hl 1 rfl) ?_
  refine uiald G hP (kdp c_3 rfl) (typ c_3 rfl) h d_Mo_isWrongFrame_8 (fun x_4 h => ?_)
  refine lv_istore_n (lv' := [(2, .int x_4), (0, .ref (ad a0)), (1, .int v1)]) G.1 G.2.1 d_Mo_isWrongFrame_9 rfl hl (by decide) rfl (fun ls hl => ?_)
  refine lv_iload_n G.1 G.2.1 d_Mo_isWrongFrame_10 rfl (lv_at hl 0 rfl) ?_
  refine lv_aload_n G.1 G.2.1 d_Mo_isWrongFrame_11 rfl (lv_at hl 1 rfl) ?_
  obtain ⟨b_5, e_6, c_7, h⟩ := h
  refine ugf (v := .ref (ad b_5)) G hP h_a0 iMo rfl 45 (by decide) rfl q3109 rfl (by show va_rf ((sO σ a0 45).map ad) = _; rw [e_6]; rfl) d_Mo_isWrongFrame_12 ?_
  refine ugfN (v := .ref (yP y b_5 39)) G hP c_7 iMw rfl 39 (by decide) rfl q2780 rfl rfl d_Mo_isWrongFrame_15 ?_
  refine lv_iload_n G.1 G.2.1 d_Mo_isWrongFrame_18 rfl (lv_at hl 2 rfl) ?_
  refine W.eq (g2 := F0 m 19 ls [.int v1, .ref (yP y b_5 39), .int x_4]) rfl ?_
  refine uiald G hP (kdp c_7 rfl) (typ c_7 rfl) h d_Mo_isWrongFrame_19 (fun x_8 h => ?_)
  refine lv_iadd G.1 G.2.1 d_Mo_isWrongFrame_20 ?_
  refine lv_istore_n (lv' := [(3, .int (x_4 + x_8)), (2, .int x_4), (0, .ref (ad a0)), (1, .int v1)]) G.1 G.2.1 d_Mo_isWrongFrame_21 rfl hl (by decide) rfl (fun ls hl => ?_)
  refine lv_iload_n G.1 G.2.1 d_Mo_isWrongFrame_22 rfl (lv_at hl 1 rfl) ?_
  refine lv_aload_n G.1 G.2.1 d_Mo_isWrongFrame_23 rfl (lv_at hl 2 rfl) ?_
  obtain ⟨b_9, e_10, c_11, h⟩ := h
  refine ugf (v := .ref (ad b_9)) G hP h_a0 iMo rfl 45 (by decide) rfl q3109 rfl (by show va_rf ((sO σ a0 45).map ad) = _; rw [e_10]; rfl) d_Mo_isWrongFrame_24 ?_
  refine ugfN (v := .ref (yP y b_9 22)) G hP c_11 iMw rfl 22 (by decide) rfl q2748 rfl rfl d_Mo_isWrongFrame_27 ?_
  refine lv_aload_n G.1 G.2.1 d_Mo_isWrongFrame_30 rfl (lv_at hl 2 rfl) ?_
  refine ugf (v := .int (sV σ a0 75)) G hP h_a0 iMo rfl 75 (by decide) rfl q3139 rfl rfl d_Mo_isWrongFrame_31 ?_
  refine uiald G hP (kdp c_11 rfl) (typ c_11 rfl) h d_Mo_isWrongFrame_34 (fun x_12 h => ?_)
  have J_67 : ∀ (s_j67 : St) (x1j67 : Int32) (x2j67 : Int32) (x3j67 : Int32) (z0j67 : Int32) (H : Heap) (locs : List Loc), wj_Mo_isWrongFrame_67 y Post a0 s_j67 x1j67 x2j67 x3j67 z0j67 → va_P D CL (ws g ad y s_j67) H → va_D A (ws g ad y s_j67) → va_S A s.heap H locs → ∀ ls, lv_has ls 7 [(0, .ref (ad a0)), (1, .int x1j67), (2, .int x2j67), (3, .int x3j67)] → W p l e ru_Mo_isWrongFrame s m args below meth c H locs 0 0 Q (F0 m 67 ls [.int z0j67]) := by
    intro s_j67 x1j67 x2j67 x3j67 z0j67 H locs h hP hD hS ls hl
    unfold wj_Mo_isWrongFrame_67 at h
    refine lv_istore (lv' := [(4, .int z0j67), (0, .ref (ad a0)), (1, .int x1j67), (2, .int x2j67), (3, .int x3j67)]) G.1 G.2.1 d_Mo_isWrongFrame_67 hl (by decide) rfl (fun ls hl => ?_)
    refine lv_iconst (v := 0) G.1 G.2.1 d_Mo_isWrongFrame_69 (by decide) ?_
    refine lv_istore (lv' := [(5, .int 0), (4, .int z0j67), (0, .ref (ad a0)), (1, .int x1j67), (2, .int x2j67), (3, .int x3j67)]) G.1 G.2.1 d_Mo_isWrongFrame_70 hl (by decide) rfl (fun ls hl => ?_)
    unfold wl_Mo_isWrongFrame_72 at h
    obtain ⟨I_72, μ_72, hI_72, hB_72⟩ := h
    have L_72 : ∀ (n_72 : Nat) (s_h72 : St) (x1h72 : Int32) (x2h72 : Int32) (x3h72 : Int32) (x4h72 : Int32) (x5h72 : Int32), μ_72 s_h72 x1h72 x2h72 x3h72 x4h72 x5h72 < n_72 → I_72 s_h72 x1h72 x2h72 x3h72 x4h72 x5h72 → ∀ (H : Heap) (locs : List Loc), va_P D CL (ws g ad y s_h72) H → va_D A (ws g ad y s_h72) → va_S A s.heap H locs → ∀ ls, lv_has ls 7 [(0, .ref (ad a0)), (1, .int x1h72), (2, .int x2h72), (3, .int x3h72), (4, .int x4h72), (5, .int x5h72)] → W p l e ru_Mo_isWrongFrame s m args below meth c H locs 0 0 Q (F0 m 72 ls []) := by
      intro n_72
      induction n_72 with
      | zero => intro s_h72 x1h72 x2h72 x3h72 x4h72 x5h72 hμ; exact absurd hμ (Nat.not_lt_zero _)
      | succ n_72 ih_72 =>
        intro s_h72 x1h72 x2h72 x3h72 x4h72 x5h72 hμ_72 hJ H locs hP hD hS ls hl
        obtain ⟨K_72, hK_72, h⟩ : ∃ K : St → Int32 → Int32 → Int32 → Int32 → Int32 → Prop, (∀ z (t0 : Int32) (t1 : Int32) (t2 : Int32) (t3 : Int32) (t4 : Int32), K z t0 t1 t2 t3 t4 → I_72 z t0 t1 t2 t3 t4 ∧ μ_72 z t0 t1 t2 t3 t4 < μ_72 s_h72 x1h72 x2h72 x3h72 x4h72 x5h72) ∧ wb_Mo_isWrongFrame_72 y Post K a0 s_h72 x1h72 x2h72 x3h72 x4h72 x5h72 := ⟨_, fun _ _ _ _ _ _ h => h, hB_72 s_h72 x1h72 x2h72 x3h72 x4h72 x5h72 hJ⟩
        unfold wb_Mo_isWrongFrame_72 at h
        refine lv_iload G.1 G.2.1 d_Mo_isWrongFrame_72 (lv_at hl 5 rfl) ?_
        refine lv_iload_n G.1 G.2.1 d_Mo_isWrongFrame_74 rfl (lv_at hl 3 rfl) ?_
        have J_142 : ∀ (s_j142 : St) (x4j142 : Int32) (H : Heap) (locs : List Loc), wj_Mo_isWrongFrame_142 y Post a0 s_j142 x4j142 → va_P D CL (ws g ad y s_j142) H → va_D A (ws g ad y s_j142) → va_S A s.heap H locs → ∀ ls, lv_has ls 7 [(4, .int x4j142)] → W p l e ru_Mo_isWrongFrame s m args below meth c H locs 0 0 Q (F0 m 142 ls []) := by
          intro s_j142 x4j142 H locs h hP hD hS ls hl
          unfold wj_Mo_isWrongFrame_142 at h
          refine lv_iload G.1 G.2.1 d_Mo_isWrongFrame_142 (lv_at hl 0 rfl) ?_
          exact hret _ _ _ _ _ _ _ ls (nb_n h.1) h.2 hP hD hS (Nat.le_refl _) (Nat.le_refl _) d_Mo_isWrongFrame_144
        refine lv_icmp_ge (tgt := 142) G.1 G.2.1 d_Mo_isWrongFrame_75 (by decide) (fun c75 => ?_) (fun c75 => ?_)
        · skip
          have h := h.1 c75
          exact J_142 s_h72 x4h72 H locs h hP hD hS ls (lv_sub hl [4] rfl)
        · skip
          have h := h.2 c75
          refine lv_iload G.1 G.2.1 d_Mo_isWrongFrame_78 (lv_at hl 4 rfl) ?_
          refine lv_if_ne (tgt := 142) G.1 G.2.1 d_Mo_isWrongFrame_80 (by decide) (fun c80 => ?_) (fun c80 => ?_)
          · skip
            have h := h.1 c80
            exact J_142 s_h72 x4h72 H locs h hP hD hS ls (lv_sub hl [4] rfl)
          · skip
            have h := h.2 c80
            refine lv_aload_n G.1 G.2.1 d_Mo_isWrongFrame_83 rfl (lv_at hl 0 rfl) ?_
            refine lv_iload_n G.1 G.2.1 d_Mo_isWrongFrame_84 rfl (lv_at hl 1 rfl) ?_
            refine lv_iload G.1 G.2.1 d_Mo_isWrongFrame_85 (lv_at hl 5 rfl) ?_
            refine ucVi (As := [.int x1h72, .int x5h72]) (rest := []) G hP hD hS (cu_Mo_frameKind l D g ad y _ s_h72 a0 x1h72 x5h72 H.size h_a0 h) w9_Mo_frameKind q3717 ⟨Nat.le_of_ble_eq_true rfl, Nat.le_of_ble_eq_true rfl⟩ rfl rfl h_a0 (q := (RMo, TMo, 131)) rfl rfl hl.1 rfl (Nat.le_of_ble_eq_true rfl) rfl ⟨Nat.le_refl _, Nat.le_refl _⟩ d_Mo_isWrongFrame_87 (fun r_13 s_14 H locs h hP hD hS => ?_)
            refine lv_istore (lv' := [(6, .int r_13), (0, .ref (ad a0)), (1, .int x1h72), (2, .int x2h72), (3, .int x3h72), (4, .int x4h72), (5, .int x5h72)]) G.1 G.2.1 d_Mo_isWrongFrame_90 hl (by decide) rfl (fun ls hl => ?_)
            refine lv_iload G.1 G.2.1 d_Mo_isWrongFrame_92 (lv_at hl 0 rfl) ?_
            refine W.eq (g2 := F0 m 94 ls [.int r_13]) rfl ?_
            refine lv_iconst (v := 4) G.1 G.2.1 d_Mo_isWrongFrame_94 (by decide) ?_
            have J_134 : ∀ (s_j134 : St) (x1j134 : Int32) (x2j134 : Int32) (x3j134 : Int32) (x5j134 : Int32) (z0j134 : Int32) (H : Heap) (locs : List Loc), wj_Mo_isWrongFrame_134 y Post K_72 a0 s_j134 x1j134 x2j134 x3j134 x5j134 z0j134 → va_P D CL (ws g ad y s_j134) H → va_D A (ws g ad y s_j134) → va_S A s.heap H locs → ∀ ls, lv_has ls 7 [(0, .ref (ad a0)), (1, .int x1j134), (2, .int x2j134), (3, .int x3j134), (5, .int x5j134)] → W p l e ru_Mo_isWrongFrame s m args below meth c H locs 0 0 Q (F0 m 134 ls [.int z0j134]) := by
              intro s_j134 x1j134 x2j134 x3j134 x5j134 z0j134 H locs h hP hD hS ls hl
              unfold wj_Mo_isWrongFrame_134 at h
              refine lv_istore (lv' := [(4, .int z0j134), (0, .ref (ad a0)), (1, .int x1j134), (2, .int x2j134), (3, .int x3j134), (5, .int x5j134)]) G.1 G.2.1 d_Mo_isWrongFrame_134 hl (by decide) rfl (fun ls hl => ?_)
              refine lv_iinc (v := x5j134 + 1) (lv' := [(5, .int (x5j134 + 1)), (4, .int z0j134), (0, .ref (ad a0)), (1, .int x1j134), (2, .int x2j134), (3, .int x3j134)]) G.1 G.2.1 d_Mo_isWrongFrame_136 hl (k := 5) rfl rfl (by decide) rfl (fun ls hl => ?_)
              refine lv_goto (tgt := 72) G.1 G.2.1 d_Mo_isWrongFrame_139 (by decide) ?_
              have h := hK_72 s_j134 x1j134 x2j134 x3j134 z0j134 (x5j134 + 1) h
              exact ih_72 s_j134 x1j134 x2j134 x3j134 z0j134 (x5j134 + 1) (Nat.lt_of_lt_of_le h.2 (Nat.le_of_lt_succ hμ_72)) h.1 H locs hP hD hS ls (lv_sub hl [2, 3, 4, 5, 1, 0] rfl)
            have J_129 : ∀ (s_j129 : St) (x1j129 : Int32) (x2j129 : Int32) (x3j129 : Int32) (x5j129 : Int32) (H : Heap) (locs : List Loc), wj_Mo_isWrongFrame_129 y Post K_72 a0 s_j129 x1j129 x2j129 x3j129 x5j129 → va_P D CL (ws g ad y s_j129) H → va_D A (ws g ad y s_j129) → va_S A s.heap H locs → ∀ ls, lv_has ls 7 [(0, .ref (ad a0)), (1, .int x1j129), (2, .int x2j129), (3, .int x3j129), (5, .int x5j129)] → W p l e ru_Mo_isWrongFrame s m args below meth c H locs 0 0 Q (F0 m 129 ls []) := by
              intro s_j129 x1j129 x2j129 x3j129 x5j129 H locs h hP hD hS ls hl
              unfold wj_Mo_isWrongFrame_129 at h
              refine lv_iconst (v := 1) G.1 G.2.1 d_Mo_isWrongFrame_129 (by decide) ?_
              refine lv_goto (tgt := 134) G.1 G.2.1 d_Mo_isWrongFrame_130 (by decide) ?_
              exact J_134 s_j129 x1j129 x2j129 x3j129 x5j129 1 H locs h hP hD hS ls (lv_sub hl [0, 1, 2, 3, 4] rfl)
            have J_104 : ∀ (s_j104 : St) (x1j104 : Int32) (x2j104 : Int32) (x3j104 : Int32) (x5j104 : Int32) (x6j104 : Int32) (H : Heap) (locs : List Loc), wj_Mo_isWrongFrame_104 y Post K_72 a0 s_j104 x1j104 x2j104 x3j104 x5j104 x6j104 → va_P D CL (ws g ad y s_j104) H → va_D A (ws g ad y s_j104) → va_S A s.heap H locs → ∀ ls, lv_has ls 7 [(0, .ref (ad a0)), (1, .int x1j104), (2, .int x2j104), (3, .int x3j104), (5, .int x5j104), (6, .int x6j104)] → W p l e ru_Mo_isWrongFrame s m args below meth c H locs 0 0 Q (F0 m 104 ls []) := by
              intro s_j104 x1j104 x2j104 x3j104 x5j104 x6j104 H locs h hP hD hS ls hl
              unfold wj_Mo_isWrongFrame_104 at h
              refine lv_iload G.1 G.2.1 d_Mo_isWrongFrame_104 (lv_at hl 5 rfl) ?_
              refine lv_iconst (v := 5) G.1 G.2.1 d_Mo_isWrongFrame_106 (by decide) ?_
              have J_133 : ∀ (s_j133 : St) (x1j133 : Int32) (x2j133 : Int32) (x3j133 : Int32) (x5j133 : Int32) (H : Heap) (locs : List Loc), wj_Mo_isWrongFrame_133 y Post K_72 a0 s_j133 x1j133 x2j133 x3j133 x5j133 → va_P D CL (ws g ad y s_j133) H → va_D A (ws g ad y s_j133) → va_S A s.heap H locs → ∀ ls, lv_has ls 7 [(0, .ref (ad a0)), (1, .int x1j133), (2, .int x2j133), (3, .int x3j133), (5, .int x5j133)] → W p l e ru_Mo_isWrongFrame s m args below meth c H locs 0 0 Q (F0 m 133 ls []) := by
                intro s_j133 x1j133 x2j133 x3j133 x5j133 H locs h hP hD hS ls hl
                unfold wj_Mo_isWrongFrame_133 at h
                refine lv_iconst (v := 0) G.1 G.2.1 d_Mo_isWrongFrame_133 (by decide) ?_
                exact J_134 s_j133 x1j133 x2j133 x3j133 x5j133 0 H locs h hP hD hS ls (lv_sub hl [0, 1, 2, 3, 4] rfl)
              refine lv_icmp_ne (tgt := 133) G.1 G.2.1 d_Mo_isWrongFrame_107 (by decide) (fun c107 => ?_) (fun c107 => ?_)
              · skip
                have h := h.1 c107
                exact J_133 s_j104 x1j104 x2j104 x3j104 x5j104 H locs h hP hD hS ls (lv_sub hl [0, 1, 2, 3, 4] rfl)
              · skip
                have h := h.2 c107
                refine lv_aload_n G.1 G.2.1 d_Mo_isWrongFrame_110 rfl (lv_at hl 0 rfl) ?_
                obtain ⟨b_15, e_16, c_17, h⟩ := h
                refine ugf (v := .ref (ad b_15)) G hP h_a0 iMo rfl 45 (by decide) rfl q3109 rfl (by show va_rf ((sO s_j104 a0 45).map ad) = _; rw [e_16]; rfl) d_Mo_isWrongFrame_111 ?_
                refine ugfN (v := .ref (yP y b_15 18)) G hP c_17 iMw rfl 18 (by decide) rfl q2740 rfl rfl d_Mo_isWrongFrame_114 ?_
                refine lv_aload_n G.1 G.2.1 d_Mo_isWrongFrame_117 rfl (lv_at hl 0 rfl) ?_
                refine ugf (v := .int (sV s_j104 a0 75)) G hP h_a0 iMo rfl 75 (by decide) rfl q3139 rfl rfl d_Mo_isWrongFrame_118 ?_
                refine uiald G hP (kdp c_17 rfl) (typ c_17 rfl) h d_Mo_isWrongFrame_121 (fun x_18 h => ?_)
                refine lv_aload_n G.1 G.2.1 d_Mo_isWrongFrame_122 rfl (lv_at hl 0 rfl) ?_
                refine ugf (v := .int (sV s_j104 a0 6)) G hP h_a0 iMo rfl 6 (by decide) rfl q3070 rfl rfl d_Mo_isWrongFrame_123 ?_
                refine W.eq (g2 := F0 m 126 ls [.int (sV s_j104 a0 6), .int x_18]) rfl ?_
                refine lv_icmp_eq (tgt := 133) G.1 G.2.1 d_Mo_isWrongFrame_126 (by decide) (fun c126 => ?_) (fun c126 => ?_)
                · skip
                  have h := h.1 c126
                  exact J_133 s_j104 x1j104 x2j104 x3j104 x5j104 H locs h hP hD hS ls (lv_sub hl [0, 1, 2, 3, 4] rfl)
                · skip
                  have h := h.2 c126
                  exact J_129 s_j104 x1j104 x2j104 x3j104 x5j104 H locs h hP hD hS ls (lv_sub hl [0, 1, 2, 3, 4] rfl)
            refine lv_icmp_ne (tgt := 104) G.1 G.2.1 d_Mo_isWrongFrame_95 (by decide) (fun c95 => ?_) (fun c95 => ?_)
            · skip
              have h := h.1 c95
              exact J_104 s_14 x1h72 x2h72 x3h72 x5h72 r_13 H locs h hP hD hS ls (lv_sub hl [1, 2, 3, 4, 6, 0] rfl)
            · skip
              have h := h.2 c95
              refine lv_iload G.1 G.2.1 d_Mo_isWrongFrame_98 (lv_at hl 6 rfl) ?_
              refine lv_iload_n G.1 G.2.1 d_Mo_isWrongFrame_100 rfl (lv_at hl 3 rfl) ?_
              refine lv_icmp_ge (tgt := 129) G.1 G.2.1 d_Mo_isWrongFrame_101 (by decide) (fun c101 => ?_) (fun c101 => ?_)
              · skip
                have h := h.1 c101
                exact J_129 s_14 x1h72 x2h72 x3h72 x5h72 H locs h hP hD hS ls (lv_sub hl [1, 2, 3, 4, 6] rfl)
              · skip
                have h := h.2 c101
                exact J_104 s_14 x1h72 x2h72 x3h72 x5h72 r_13 H locs h hP hD hS ls (lv_sub hl [1, 2, 3, 4, 6, 0] rfl)
    exact L_72 _ s_j67 x1j67 x2j67 x3j67 z0j67 0 (Nat.lt_succ_self _) hI_72 H locs hP hD hS ls (lv_sub hl [2, 3, 4, 5, 1, 0] rfl)
  have J_62 : ∀ (s_j62 : St) (x1j62 : Int32) (x2j62 : Int32) (x3j62 : Int32) (H : Heap) (locs : List Loc), wj_Mo_isWrongFrame_62 y Post a0 s_j62 x1j62 x2j62 x3j62 → va_P D CL (ws g ad y s_j62) H → va_D A (ws g ad y s_j62) → va_S A s.heap H locs → ∀ ls, lv_has ls 7 [(0, .ref (ad a0)), (1, .int x1j62), (2, .int x2j62), (3, .int x3j62)] → W p l e ru_Mo_isWrongFrame s m args below meth c H locs 0 0 Q (F0 m 62 ls []) := by
    intro s_j62 x1j62 x2j62 x3j62 H locs h hP hD hS ls hl
    unfold wj_Mo_isWrongFrame_62 at h
    refine lv_iconst (v := 1) G.1 G.2.1 d_Mo_isWrongFrame_62 (by decide) ?_
    refine lv_goto (tgt := 67) G.1 G.2.1 d_Mo_isWrongFrame_63 (by decide) ?_
    exact J_67 s_j62 x1j62 x2j62 x3j62 1 H locs h hP hD hS ls (lv_sub hl [0, 1, 2, 3] rfl)
  refine lv_icmp_gt (tgt := 62) G.1 G.2.1 d_Mo_isWrongFrame_35 (by decide) (fun c35 => ?_) (fun c35 => ?_)
  · skip
    have h := h.1 c35
    exact J_62 σ v1 x_4 (x_4 + x_8) H locs h hP hD hS ls (lv_sub hl [2, 3, 1, 0] rfl)
  · skip
    have h := h.2 c35
    refine lv_aload_n G.1 G.2.1 d_Mo_isWrongFrame_38 rfl (lv_at hl 2 rfl) ?_
    refine W.eq (g2 := F0 m 39 ls [.ref (ad a0)]) rfl ?_
    obtain ⟨b_19, e_20, c_21, h⟩ := h
    refine ugf (v := .ref (ad b_19)) G hP h_a0 iMo rfl 45 (by decide) rfl q3109 rfl (by show va_rf ((sO σ a0 45).map ad) = _; rw [e_20]; rfl) d_Mo_isWrongFrame_39 ?_
    refine ugfN (v := .ref (yP y b_19 39)) G hP c_21 iMw rfl 39 (by decide) rfl q2780 rfl rfl d_Mo_isWrongFrame_42 ?_
    refine lv_iload_n G.1 G.2.1 d_Mo_isWrongFrame_45 rfl (lv_at hl 3 rfl) ?_
    refine uiald G hP (kdp c_21 rfl) (typ c_21 rfl) h d_Mo_isWrongFrame_46 (fun x_22 h => ?_)
    refine lv_aload_n G.1 G.2.1 d_Mo_isWrongFrame_47 rfl (lv_at hl 2 rfl) ?_
    obtain ⟨b_23, e_24, c_25, h⟩ := h
    refine ugf (v := .ref (ad b_23)) G hP h_a0 iMo rfl 45 (by decide) rfl q3109 rfl (by show va_rf ((sO σ a0 45).map ad) = _; rw [e_24]; rfl) d_Mo_isWrongFrame_48 ?_
    refine ugfN (v := .ref (yP y b_23 21)) G hP c_25 iMw rfl 21 (by decide) rfl q2746 rfl rfl d_Mo_isWrongFrame_51 ?_
    refine lv_aload_n G.1 G.2.1 d_Mo_isWrongFrame_54 rfl (lv_at hl 2 rfl) ?_
    refine ugf (v := .int (sV σ a0 75)) G hP h_a0 iMo rfl 75 (by decide) rfl q3139 rfl rfl d_Mo_isWrongFrame_55 ?_
    refine uiald G hP (kdp c_25 rfl) (typ c_25 rfl) h d_Mo_isWrongFrame_58 (fun x_26 h => ?_)
    refine lv_icmp_le (tgt := 66) G.1 G.2.1 d_Mo_isWrongFrame_59 (by decide) (fun c59 => ?_) (fun c59 => ?_)
    · skip
      have h := h.1 c59
      refine lv_iconst (v := 0) G.1 G.2.1 d_Mo_isWrongFrame_66 (by decide) ?_
      exact J_67 σ v1 x_4 (x_4 + x_8) 0 H locs h hP hD hS ls (lv_sub hl [2, 3, 1, 0] rfl)
    · skip
      have h := h.2 c59
      exact J_62 σ v1 x_4 (x_4 + x_8) H locs h hP hD hS ls (lv_sub hl [2, 3, 1, 0] rfl)
def y_Mo_parentName : MethodName := ⟨"ClassWorksModel", "parentName", "(I)I"⟩
abbrev b_Mo_parentName : ByteArray := prog_14_method_54_code
theorem d_Mo_parentName_0 : decode b_Mo_parentName 0 = .ok (.aload_n 0, 1) := by decide +kernel
theorem d_Mo_parentName_1 : decode b_Mo_parentName 1 = .ok (.getfield 522, 3) := by decide +kernel
theorem d_Mo_parentName_4 : decode b_Mo_parentName 4 = .ok (.getfield 429, 3) := by decide +kernel
theorem d_Mo_parentName_7 : decode b_Mo_parentName 7 = .ok (.iload_n 1, 1) := by decide +kernel
theorem d_Mo_parentName_8 : decode b_Mo_parentName 8 = .ok (.iaload, 1) := by decide +kernel
theorem d_Mo_parentName_9 : decode b_Mo_parentName 9 = .ok (.iconst 4, 1) := by decide +kernel
theorem d_Mo_parentName_10 : decode b_Mo_parentName 10 = .ok (.iand, 1) := by decide +kernel
theorem d_Mo_parentName_11 : decode b_Mo_parentName 11 = .ok (.ifCond .eq 10, 3) := by decide +kernel
theorem d_Mo_parentName_14 : decode b_Mo_parentName 14 = .ok (.aload_n 0, 1) := by decide +kernel
theorem d_Mo_parentName_15 : decode b_Mo_parentName 15 = .ok (.getfield 153, 3) := by decide +kernel
theorem d_Mo_parentName_18 : decode b_Mo_parentName 18 = .ok (.goto 12, 3) := by decide +kernel
theorem d_Mo_parentName_21 : decode b_Mo_parentName 21 = .ok (.aload_n 0, 1) := by decide +kernel
theorem d_Mo_parentName_22 : decode b_Mo_parentName 22 = .ok (.getfield 522, 3) := by decide +kernel
theorem d_Mo_parentName_25 : decode b_Mo_parentName 25 = .ok (.getfield 426, 3) := by decide +kernel
theorem d_Mo_parentName_28 : decode b_Mo_parentName 28 = .ok (.iload_n 1, 1) := by decide +kernel
theorem d_Mo_parentName_29 : decode b_Mo_parentName 29 = .ok (.iaload, 1) := by decide +kernel
theorem d_Mo_parentName_30 : decode b_Mo_parentName 30 = .ok (.ireturn, 1) := by decide +kernel
abbrev ru_Mo_parentName : Room := { frames := 0, cells := 0, slots := 0, locals := 0 }
def wj_Mo_parentName_30 (y : Ly) (Post : St → Int32 → Prop) (a0 : Nat) (s_j30 : St) (z0j30 : Int32) : Prop := Post s_j30 z0j30
def wu_Mo_parentName (y : Ly) (Post : St → Int32 → Prop) (σ : St) (a0 : Nat) (v1 : Int32) : Prop := ∃ b_1 : Nat, sO σ a0 45 = some b_1 ∧ cl b_1 = 13 ∧ xA y σ b_1 5 v1 (fun x_4 : Int32 => (((x_4 &&& 4) = 0 → ∃ b_5 : Nat, sO σ a0 45 = some b_5 ∧ cl b_5 = 13 ∧ xA y σ b_5 4 v1 (fun x_8 : Int32 => wj_Mo_parentName_30 y Post a0 σ x_8)) ∧ (¬ ((x_4 &&& 4) = 0) → wj_Mo_parentName_30 y Post a0 σ (sV σ a0 8))))
set_option maxHeartbeats 4000000 in
set_option maxRecDepth 100000 in
theorem cu_Mo_parentName (l : Launch) (D : va_G) (g : Nat → ClassId) (ad : Nat → Nat) (y : Ly) (Post : St → Int32 → Prop) (σ : St) (a0 : Nat) (v1 : Int32) (sz : Nat) (h_a0 : cl a0 = 14) (h : wu_Mo_parentName y Post σ a0 v1) : Met l y_Mo_parentName (mw y_Mo_parentName b_Mo_parentName 2 (some .int)) ru_Mo_parentName (PC g D [] [.ref (ad a0), .int v1] sz (ws g ad y σ)) (va_Qi (fun (r : Int32) (u : St) => Post u r) (QW D (va_A (ws g ad y σ) sz) (fun u => ws g ad y u)) (va_A (ws g ad y σ) sz)) 0 0 (va_A (ws g ad y σ) sz) := by
  refine ofI (by decide +kernel) (Nat.le_of_ble_eq_true rfl) ?_
  intro p e s m args below meth c A Q ls H locs G hsz hP hD hS hl hret
  subst hsz
  have hl : lv_has ls 2 [(0, .ref (ad a0)), (1, .int v1)] := hl
  unfold wu_Mo_parentName at h
  refine lv_aload_n G.1 G.2.1 d_Mo_parentName_0 rfl (lv_at hl 0 rfl) ?_
  obtain ⟨b_1, e_2, c_3, h⟩ := h
  refine ugf (v := .ref (ad b_1)) G hP h_a0 iMo rfl 45 (by decide) rfl q3109 rfl (by show va_rf ((sO σ a0 45).map ad) = _; rw [e_2]; rfl) d_Mo_parentName_1 ?_
  refine ugfN (v := .ref (yP y b_1 5)) G hP c_3 iMw rfl 5 (by decide) rfl q2714 rfl rfl d_Mo_parentName_4 ?_
  refine lv_iload_n G.1 G.2.1 d_Mo_parentName_7 rfl (lv_at hl 1 rfl) ?_
  refine uiald G hP (kdp c_3 rfl) (typ c_3 rfl) h d_Mo_parentName_8 (fun x_4 h => ?_)
  refine lv_iconst (v := 4) G.1 G.2.1 d_Mo_parentName_9 (by decide) ?_
  refine lv_iand G.1 G.2.1 d_Mo_parentName_10 ?_
  have J_30 : ∀ (s_j30 : St) (z0j30 : Int32) (H : Heap) (locs : List Loc), wj_Mo_parentName_30 y Post a0 s_j30 z0j30 → va_P D CL (ws g ad y s_j30) H → va_D A (ws g ad y s_j30) → va_S A s.heap H locs → ∀ ls, lv_has ls 2 [] → W p l e ru_Mo_parentName s m args below meth c H locs 0 0 Q (F0 m 30 ls [.int z0j30]) := by
    intro s_j30 z0j30 H locs h hP hD hS ls hl
    unfold wj_Mo_parentName_30 at h
    exact hret _ _ _ _ _ _ _ ls h hP hD hS (Nat.le_refl _) (Nat.le_refl _) d_Mo_parentName_30
  refine lv_if_eq (tgt := 21) G.1 G.2.1 d_Mo_parentName_11 (by decide) (fun c11 => ?_) (fun c11 => ?_)
  · skip
    have h := h.1 c11
    refine lv_aload_n G.1 G.2.1 d_Mo_parentName_21 rfl (lv_at hl 0 rfl) ?_
    obtain ⟨b_5, e_6, c_7, h⟩ := h
    refine ugf (v := .ref (ad b_5)) G hP h_a0 iMo rfl 45 (by decide) rfl q3109 rfl (by show va_rf ((sO σ a0 45).map ad) = _; rw [e_6]; rfl) d_Mo_parentName_22 ?_
    refine ugfN (v := .ref (yP y b_5 4)) G hP c_7 iMw rfl 4 (by decide) rfl q2712 rfl rfl d_Mo_parentName_25 ?_
    refine W.eq (g2 := F0 m 28 ls [.ref (yP y b_5 4)]) rfl ?_
    refine lv_iload_n G.1 G.2.1 d_Mo_parentName_28 rfl (lv_at hl 1 rfl) ?_
    refine uiald G hP (kdp c_7 rfl) (typ c_7 rfl) h d_Mo_parentName_29 (fun x_8 h => ?_)
    exact J_30 σ x_8 H locs h hP hD hS ls (lv_sub hl [] rfl)
  · skip
    have h := h.2 c11
    refine lv_aload_n G.1 G.2.1 d_Mo_parentName_14 rfl (lv_at hl 0 rfl) ?_
    refine ugf (v := .int (sV σ a0 8)) G hP h_a0 iMo rfl 8 (by decide) rfl q3072 rfl rfl d_Mo_parentName_15 ?_
    refine lv_goto (tgt := 30) G.1 G.2.1 d_Mo_parentName_18 (by decide) ?_
    exact J_30 σ (sV σ a0 8) H locs h hP hD hS ls (lv_sub hl [] rfl)
theorem q3737 : Cond.methodLink "ClassWorksModel" 765 y_Mo_parentName ∈ lw_ok := lw_okmem (List.mem_of_getElem? (i := 3737) (by decide +kernel)) rfl
theorem q3740 : Cond.code y_Mo_parentName b_Mo_parentName 2 (some .int) ∈ lw_ok := lw_okmem (List.mem_of_getElem? (i := 3740) (by decide +kernel)) rfl
theorem q3739 : Cond.instanceMethod y_Mo_parentName ∈ lw_ok := lw_okmem (List.mem_of_getElem? (i := 3739) (by decide +kernel)) rfl
theorem q231 : Cond.selects y_Mo_parentName.cls y_Mo_parentName y_Mo_parentName ∈ lw_ok := lw_okmem (List.mem_of_getElem? (i := 231) (by decide +kernel)) rfl
theorem w9_Mo_parentName : CWv y_Mo_parentName b_Mo_parentName 2 (some .int) 1 ∧ Cond.instanceMethod y_Mo_parentName ∈ lw_ok ∧ Cond.selects y_Mo_parentName.cls y_Mo_parentName y_Mo_parentName ∈ lw_ok := ⟨⟨q3740, q348, by decide +kernel, by decide +kernel, by decide +kernel⟩, q3739, q231⟩
def y_Mo_fitClass : MethodName := ⟨"ClassWorksModel", "fitClass", "(II)I"⟩
abbrev b_Mo_fitClass : ByteArray := prog_14_method_63_code
theorem d_Mo_fitClass_0 : decode b_Mo_fitClass 0 = .ok (.iload_n 2, 1) := by decide +kernel
theorem d_Mo_fitClass_1 : decode b_Mo_fitClass 1 = .ok (.aload_n 0, 1) := by decide +kernel
theorem d_Mo_fitClass_2 : decode b_Mo_fitClass 2 = .ok (.getfield 153, 3) := by decide +kernel
theorem d_Mo_fitClass_5 : decode b_Mo_fitClass 5 = .ok (.if_icmp .ne 5, 3) := by decide +kernel
theorem d_Mo_fitClass_8 : decode b_Mo_fitClass 8 = .ok (.iconst 0, 1) := by decide +kernel
theorem d_Mo_fitClass_9 : decode b_Mo_fitClass 9 = .ok (.ireturn, 1) := by decide +kernel
theorem d_Mo_fitClass_10 : decode b_Mo_fitClass 10 = .ok (.aload_n 0, 1) := by decide +kernel
theorem d_Mo_fitClass_11 : decode b_Mo_fitClass 11 = .ok (.iload_n 2, 1) := by decide +kernel
theorem d_Mo_fitClass_12 : decode b_Mo_fitClass 12 = .ok (.invokevirtual 601, 3) := by decide +kernel
theorem d_Mo_fitClass_15 : decode b_Mo_fitClass 15 = .ok (.istore_n 3, 1) := by decide +kernel
theorem d_Mo_fitClass_16 : decode b_Mo_fitClass 16 = .ok (.iload_n 3, 1) := by decide +kernel
theorem d_Mo_fitClass_17 : decode b_Mo_fitClass 17 = .ok (.ifCond .ge 6, 3) := by decide +kernel
theorem d_Mo_fitClass_20 : decode b_Mo_fitClass 20 = .ok (.bipush 43, 2) := by decide +kernel
theorem d_Mo_fitClass_22 : decode b_Mo_fitClass 22 = .ok (.ireturn, 1) := by decide +kernel
theorem d_Mo_fitClass_23 : decode b_Mo_fitClass 23 = .ok (.aload_n 0, 1) := by decide +kernel
theorem d_Mo_fitClass_24 : decode b_Mo_fitClass 24 = .ok (.getfield 522, 3) := by decide +kernel
theorem d_Mo_fitClass_27 : decode b_Mo_fitClass 27 = .ok (.getfield 429, 3) := by decide +kernel
theorem d_Mo_fitClass_30 : decode b_Mo_fitClass 30 = .ok (.iload_n 3, 1) := by decide +kernel
theorem d_Mo_fitClass_31 : decode b_Mo_fitClass 31 = .ok (.iaload, 1) := by decide +kernel
theorem d_Mo_fitClass_32 : decode b_Mo_fitClass 32 = .ok (.iconst 4, 1) := by decide +kernel
theorem d_Mo_fitClass_33 : decode b_Mo_fitClass 33 = .ok (.iand, 1) := by decide +kernel
theorem d_Mo_fitClass_34 : decode b_Mo_fitClass 34 = .ok (.ifCond .eq 5, 3) := by decide +kernel
theorem d_Mo_fitClass_37 : decode b_Mo_fitClass 37 = .ok (.iconst 0, 1) := by decide +kernel
theorem d_Mo_fitClass_38 : decode b_Mo_fitClass 38 = .ok (.ireturn, 1) := by decide +kernel
theorem d_Mo_fitClass_39 : decode b_Mo_fitClass 39 = .ok (.iload_n 1, 1) := by decide +kernel
theorem d_Mo_fitClass_40 : decode b_Mo_fitClass 40 = .ok (.istore 4, 2) := by decide +kernel
theorem d_Mo_fitClass_42 : decode b_Mo_fitClass 42 = .ok (.iconst 0, 1) := by decide +kernel
theorem d_Mo_fitClass_43 : decode b_Mo_fitClass 43 = .ok (.istore 5, 2) := by decide +kernel
theorem d_Mo_fitClass_45 : decode b_Mo_fitClass 45 = .ok (.iload 5, 2) := by decide +kernel
theorem d_Mo_fitClass_47 : decode b_Mo_fitClass 47 = .ok (.bipush 51, 2) := by decide +kernel
theorem d_Mo_fitClass_49 : decode b_Mo_fitClass 49 = .ok (.if_icmp .gt 51, 3) := by decide +kernel
theorem d_Mo_fitClass_52 : decode b_Mo_fitClass 52 = .ok (.iload 4, 2) := by decide +kernel
theorem d_Mo_fitClass_54 : decode b_Mo_fitClass 54 = .ok (.iload_n 2, 1) := by decide +kernel
theorem d_Mo_fitClass_55 : decode b_Mo_fitClass 55 = .ok (.if_icmp .ne 5, 3) := by decide +kernel
theorem d_Mo_fitClass_58 : decode b_Mo_fitClass 58 = .ok (.iconst 0, 1) := by decide +kernel
theorem d_Mo_fitClass_59 : decode b_Mo_fitClass 59 = .ok (.ireturn, 1) := by decide +kernel
theorem d_Mo_fitClass_60 : decode b_Mo_fitClass 60 = .ok (.aload_n 0, 1) := by decide +kernel
theorem d_Mo_fitClass_61 : decode b_Mo_fitClass 61 = .ok (.iload 4, 2) := by decide +kernel
theorem d_Mo_fitClass_63 : decode b_Mo_fitClass 63 = .ok (.invokevirtual 601, 3) := by decide +kernel
theorem d_Mo_fitClass_66 : decode b_Mo_fitClass 66 = .ok (.istore 6, 2) := by decide +kernel
theorem d_Mo_fitClass_68 : decode b_Mo_fitClass 68 = .ok (.iload 6, 2) := by decide +kernel
theorem d_Mo_fitClass_70 : decode b_Mo_fitClass 70 = .ok (.ifCond .gt 16, 3) := by decide +kernel
theorem d_Mo_fitClass_73 : decode b_Mo_fitClass 73 = .ok (.iload 6, 2) := by decide +kernel
theorem d_Mo_fitClass_75 : decode b_Mo_fitClass 75 = .ok (.ifCond .ge 8, 3) := by decide +kernel
theorem d_Mo_fitClass_78 : decode b_Mo_fitClass 78 = .ok (.bipush 43, 2) := by decide +kernel
theorem d_Mo_fitClass_80 : decode b_Mo_fitClass 80 = .ok (.goto 5, 3) := by decide +kernel
theorem d_Mo_fitClass_83 : decode b_Mo_fitClass 83 = .ok (.bipush 37, 2) := by decide +kernel
theorem d_Mo_fitClass_85 : decode b_Mo_fitClass 85 = .ok (.ireturn, 1) := by decide +kernel
theorem d_Mo_fitClass_86 : decode b_Mo_fitClass 86 = .ok (.aload_n 0, 1) := by decide +kernel
theorem d_Mo_fitClass_87 : decode b_Mo_fitClass 87 = .ok (.iload 6, 2) := by decide +kernel
theorem d_Mo_fitClass_89 : decode b_Mo_fitClass 89 = .ok (.invokevirtual 765, 3) := by decide +kernel
theorem d_Mo_fitClass_92 : decode b_Mo_fitClass 92 = .ok (.istore 4, 2) := by decide +kernel
theorem d_Mo_fitClass_94 : decode b_Mo_fitClass 94 = .ok (.iinc 5 1, 3) := by decide +kernel
theorem d_Mo_fitClass_97 : decode b_Mo_fitClass 97 = .ok (.goto (-52), 3) := by decide +kernel
theorem d_Mo_fitClass_100 : decode b_Mo_fitClass 100 = .ok (.bipush 37, 2) := by decide +kernel
theorem d_Mo_fitClass_102 : decode b_Mo_fitClass 102 = .ok (.ireturn, 1) := by decide +kernel
abbrev ru_Mo_fitClass : Room := { frames := 1, cells := 0, slots := 0, locals := 22 }
def wj_Mo_fitClass_85 (y : Ly) (Post : St → Int32 → Prop) (a0 : Nat) (s_j85 : St) (z0j85 : Int32) : Prop := Post s_j85 z0j85
def wb_Mo_fitClass_45 (y : Ly) (Post : St → Int32 → Prop) (K_45 : St → Int32 → Int32 → Int32 → Prop) (a0 : Nat) (s_h45 : St) (x2h45 : Int32) (x4h45 : Int32) (x5h45 : Int32) : Prop := ((51 < x5h45 → Post s_h45 37) ∧ (¬ (51 < x5h45) → ((¬ x4h45 = x2h45 → wu_Mo_classOf y (fun (s_8 : St) (r_7 : Int32) => ((0 < r_7 → wu_Mo_parentName y (fun (s_10 : St) (r_9 : Int32) => K_45 s_10 x2h45 r_9 (x5h45 + 1)) s_8 a0 r_7) ∧ (¬ (0 < r_7) → ((0 ≤ r_7 → wj_Mo_fitClass_85 y Post a0 s_8 37) ∧ (¬ (0 ≤ r_7) → wj_Mo_fitClass_85 y Post a0 s_8 43))))) s_h45 a0 x4h45) ∧ (x4h45 = x2h45 → Post s_h45 0))))
def wl_Mo_fitClass_45 (y : Ly) (Post : St → Int32 → Prop) (a0 : Nat) (s_h45 : St) (x2h45 : Int32) (x4h45 : Int32) (x5h45 : Int32) : Prop := ∃ (I : St → Int32 → Int32 → Int32 → Prop) (μ : St → Int32 → Int32 → Int32 → Nat), I s_h45 x2h45 x4h45 x5h45 ∧ ∀ (u : St) (t0 : Int32) (t1 : Int32) (t2 : Int32), I u t0 t1 t2 → wb_Mo_fitClass_45 y Post (fun z t0q t1q t2q => I z t0q t1q t2q ∧ μ z t0q t1q t2q < μ u t0 t1 t2) a0 u t0 t1 t2
def wu_Mo_fitClass (y : Ly) (Post : St → Int32 → Prop) (σ : St) (a0 : Nat) (v1 : Int32) (v2 : Int32) : Prop := ((¬ v2 = (sV σ a0 8) → wu_Mo_classOf y (fun (s_2 : St) (r_1 : Int32) => ((0 ≤ r_1 → ∃ b_3 : Nat, sO s_2 a0 45 = some b_3 ∧ cl b_3 = 13 ∧ xA y s_2 b_3 5 r_1 (fun x_6 : Int32 => (((x_6 &&& 4) = 0 → wl_Mo_fitClass_45 y Post a0 s_2 v2 v1 0) ∧ (¬ ((x_6 &&& 4) = 0) → Post s_2 0)))) ∧ (¬ (0 ≤ r_1) → Post s_2 43))) σ a0 v2) ∧ (v2 = (sV σ a0 8) → Post σ 0))
set_option maxHeartbeats 4000000 in
set_option maxRecDepth 100000 in
theorem cu_Mo_fitClass (l : Launch) (D : va_G) (g : Nat → ClassId) (ad : Nat → Nat) (y : Ly) (Post : St → Int32 → Prop) (σ : St) (a0 : Nat) (v1 : Int32) (v2 : Int32) (sz : Nat) (h_a0 : cl a0 = 14) (h : wu_Mo_fitClass y Post σ a0 v1 v2) : Met l y_Mo_fitClass (mw y_Mo_fitClass b_Mo_fitClass 7 (some .int)) ru_Mo_fitClass (PC g D [] [.ref (ad a0), .int v1, .int v2] sz (ws g ad y σ)) (va_Qi (fun (r : Int32) (u : St) => Post u r) (QW D (va_A (ws g ad y σ) sz) (fun u => ws g ad y u)) (va_A (ws g ad y σ) sz)) 0 0 (va_A (ws g ad y σ) sz) := by
  refine ofI (by decide +kernel) (Nat.le_of_ble_eq_true rfl) ?_
  intro p e s m args below meth c A Q ls H locs G hsz hP hD hS hl hret
  subst hsz
  have hl : lv_has ls 7 [(0, .ref (ad a0)), (1, .int v1), (2, .int v2)] := hl
  unfold wu_Mo_fitClass at h
  refine lv_iload_n G.1 G.2.1 d_Mo_fitClass_0 rfl (lv_at hl 2 rfl) ?_
  refine lv_aload_n G.1 G.2.1 d_Mo_fitClass_1 rfl (lv_at hl 0 rfl) ?_
  refine ugf (v := .int (sV σ a0 8)) G hP h_a0 iMo rfl 8 (by decide) rfl q3072 rfl rfl d_Mo_fitClass_2 ?_
  refine lv_icmp_ne (tgt := 10) G.1 G.2.1 d_Mo_fitClass_5 (by decide) (fun c5 => ?_) (fun c5 => ?_)
  · skip
    have h := h.1 c5
    refine lv_aload_n G.1 G.2.1 d_Mo_fitClass_10 rfl (lv_at hl 0 rfl) ?_
    refine lv_iload_n G.1 G.2.1 d_Mo_fitClass_11 rfl (lv_at hl 2 rfl) ?_
    refine ucVi (As := [.int v2]) (rest := []) G hP hD hS (cu_Mo_classOf l D g ad y _ σ a0 v2 H.size h_a0 h) w9_Mo_classOf q3571 ⟨Nat.le_of_ble_eq_true rfl, Nat.le_of_ble_eq_true rfl⟩ rfl rfl h_a0 (q := (RMo, TMo, 131)) rfl rfl hl.1 rfl (Nat.le_of_ble_eq_true rfl) rfl ⟨Nat.le_refl _, Nat.le_refl _⟩ d_Mo_fitClass_12 (fun r_1 s_2 H locs h hP hD hS => ?_)
    refine lv_istore_n (lv' := [(3, .int r_1), (0, .ref (ad a0)), (1, .int v1), (2, .int v2)]) G.1 G.2.1 d_Mo_fitClass_15 rfl hl (by decide) rfl (fun ls hl => ?_)
    refine lv_iload_n G.1 G.2.1 d_Mo_fitClass_16 rfl (lv_at hl 0 rfl) ?_
    refine lv_if_ge (tgt := 23) G.1 G.2.1 d_Mo_fitClass_17 (by decide) (fun c17 => ?_) (fun c17 => ?_)
    · skip
      have h := h.1 c17
      refine lv_aload_n G.1 G.2.1 d_Mo_fitClass_23 rfl (lv_at hl 1 rfl) ?_
      refine W.eq (g2 := F0 m 24 ls [.ref (ad a0)]) rfl ?_
      obtain ⟨b_3, e_4, c_5, h⟩ := h
      refine ugf (v := .ref (ad b_3)) G hP h_a0 iMo rfl 45 (by decide) rfl q3109 rfl (by show va_rf ((sO s_2 a0 45).map ad) = _; rw [e_4]; rfl) d_Mo_fitClass_24 ?_
      refine ugfN (v := .ref (yP y b_3 5)) G hP c_5 iMw rfl 5 (by decide) rfl q2714 rfl rfl d_Mo_fitClass_27 ?_
      refine lv_iload_n G.1 G.2.1 d_Mo_fitClass_30 rfl (lv_at hl 0 rfl) ?_
      refine uiald G hP (kdp c_5 rfl) (typ c_5 rfl) h d_Mo_fitClass_31 (fun x_6 h => ?_)
      refine lv_iconst (v := 4) G.1 G.2.1 d_Mo_fitClass_32 (by decide) ?_
      refine lv_iand G.1 G.2.1 d_Mo_fitClass_33 ?_
      refine lv_if_eq (tgt := 39) G.1 G.2.1 d_Mo_fitClass_34 (by decide) (fun c34 => ?_) (fun c34 => ?_)
      · skip
        have h := h.1 c34
        refine lv_iload_n G.1 G.2.1 d_Mo_fitClass_39 rfl (lv_at hl 2 rfl) ?_
        refine lv_istore (lv' := [(4, .int v1), (3, .int r_1), (0, .ref (ad a0)), (1, .int v1), (2, .int v2)]) G.1 G.2.1 d_Mo_fitClass_40 hl (by decide) rfl (fun ls hl => ?_)
        refine lv_iconst (v := 0) G.1 G.2.1 d_Mo_fitClass_42 (by decide) ?_
        refine lv_istore (lv' := [(5, .int 0), (4, .int v1), (3, .int r_1), (0, .ref (ad a0)), (1, .int v1), (2, .int v2)]) G.1 G.2.1 d_Mo_fitClass_43 hl (by decide) rfl (fun ls hl => ?_)
        unfold wl_Mo_fitClass_45 at h
        obtain ⟨I_45, μ_45, hI_45, hB_45⟩ := h
        have L_45 : ∀ (n_45 : Nat) (s_h45 : St) (x2h45 : Int32) (x4h45 : Int32) (x5h45 : Int32), μ_45 s_h45 x2h45 x4h45 x5h45 < n_45 → I_45 s_h45 x2h45 x4h45 x5h45 → ∀ (H : Heap) (locs : List Loc), va_P D CL (ws g ad y s_h45) H → va_D A (ws g ad y s_h45) → va_S A s.heap H locs → ∀ ls, lv_has ls 7 [(0, .ref (ad a0)), (2, .int x2h45), (4, .int x4h45), (5, .int x5h45)] → W p l e ru_Mo_fitClass s m args below meth c H locs 0 0 Q (F0 m 45 ls []) := by
          intro n_45
          induction n_45 with
          | zero => intro s_h45 x2h45 x4h45 x5h45 hμ; exact absurd hμ (Nat.not_lt_zero _)
          | succ n_45 ih_45 =>
            intro s_h45 x2h45 x4h45 x5h45 hμ_45 hJ H locs hP hD hS ls hl
            obtain ⟨K_45, hK_45, h⟩ : ∃ K : St → Int32 → Int32 → Int32 → Prop, (∀ z (t0 : Int32) (t1 : Int32) (t2 : Int32), K z t0 t1 t2 → I_45 z t0 t1 t2 ∧ μ_45 z t0 t1 t2 < μ_45 s_h45 x2h45 x4h45 x5h45) ∧ wb_Mo_fitClass_45 y Post K a0 s_h45 x2h45 x4h45 x5h45 := ⟨_, fun _ _ _ _ h => h, hB_45 s_h45 x2h45 x4h45 x5h45 hJ⟩
            unfold wb_Mo_fitClass_45 at h
            refine lv_iload G.1 G.2.1 d_Mo_fitClass_45 (lv_at hl 3 rfl) ?_
            refine lv_bipush (v := 51) G.1 G.2.1 d_Mo_fitClass_47 (by decide) ?_
            refine lv_icmp_gt (tgt := 100) G.1 G.2.1 d_Mo_fitClass_49 (by decide) (fun c49 => ?_) (fun c49 => ?_)
            · skip
              have h := h.1 c49
              refine lv_bipush (v := 37) G.1 G.2.1 d_Mo_fitClass_100 (by decide) ?_
              exact hret _ _ _ _ _ _ _ ls h hP hD hS (Nat.le_refl _) (Nat.le_refl _) d_Mo_fitClass_102
            · skip
              have h := h.2 c49
              refine lv_iload G.1 G.2.1 d_Mo_fitClass_52 (lv_at hl 2 rfl) ?_
              refine lv_iload_n G.1 G.2.1 d_Mo_fitClass_54 rfl (lv_at hl 1 rfl) ?_
              refine lv_icmp_ne (tgt := 60) G.1 G.2.1 d_Mo_fitClass_55 (by decide) (fun c55 => ?_) (fun c55 => ?_)
              · skip
                have h := h.1 c55
                refine lv_aload_n G.1 G.2.1 d_Mo_fitClass_60 rfl (lv_at hl 0 rfl) ?_
                refine lv_iload G.1 G.2.1 d_Mo_fitClass_61 (lv_at hl 2 rfl) ?_
                refine ucVi (As := [.int x4h45]) (rest := []) G hP hD hS (cu_Mo_classOf l D g ad y _ s_h45 a0 x4h45 H.size h_a0 h) w9_Mo_classOf q3571 ⟨Nat.le_of_ble_eq_true rfl, Nat.le_of_ble_eq_true rfl⟩ rfl rfl h_a0 (q := (RMo, TMo, 131)) rfl rfl hl.1 rfl (Nat.le_of_ble_eq_true rfl) rfl ⟨Nat.le_refl _, Nat.le_refl _⟩ d_Mo_fitClass_63 (fun r_7 s_8 H locs h hP hD hS => ?_)
                refine lv_istore (lv' := [(6, .int r_7), (0, .ref (ad a0)), (2, .int x2h45), (4, .int x4h45), (5, .int x5h45)]) G.1 G.2.1 d_Mo_fitClass_66 hl (by decide) rfl (fun ls hl => ?_)
                refine lv_iload G.1 G.2.1 d_Mo_fitClass_68 (lv_at hl 0 rfl) ?_
                refine W.eq (g2 := F0 m 70 ls [.int r_7]) rfl ?_
                refine lv_if_gt (tgt := 86) G.1 G.2.1 d_Mo_fitClass_70 (by decide) (fun c70 => ?_) (fun c70 => ?_)
                · skip
                  have h := h.1 c70
                  refine lv_aload_n G.1 G.2.1 d_Mo_fitClass_86 rfl (lv_at hl 1 rfl) ?_
                  refine lv_iload G.1 G.2.1 d_Mo_fitClass_87 (lv_at hl 0 rfl) ?_
                  refine ucVi (As := [.int r_7]) (rest := []) G hP hD hS (cu_Mo_parentName l D g ad y _ s_8 a0 r_7 H.size h_a0 h) w9_Mo_parentName q3737 ⟨Nat.le_of_ble_eq_true rfl, Nat.le_of_ble_eq_true rfl⟩ rfl rfl h_a0 (q := (RMo, TMo, 131)) rfl rfl hl.1 rfl (Nat.le_of_ble_eq_true rfl) rfl ⟨Nat.le_refl _, Nat.le_refl _⟩ d_Mo_fitClass_89 (fun r_9 s_10 H locs h hP hD hS => ?_)
                  refine lv_istore (lv' := [(4, .int r_9), (6, .int r_7), (0, .ref (ad a0)), (2, .int x2h45), (5, .int x5h45)]) G.1 G.2.1 d_Mo_fitClass_92 hl (by decide) rfl (fun ls hl => ?_)
                  refine lv_iinc (v := x5h45 + 1) (lv' := [(5, .int (x5h45 + 1)), (4, .int r_9), (6, .int r_7), (0, .ref (ad a0)), (2, .int x2h45)]) G.1 G.2.1 d_Mo_fitClass_94 hl (k := 4) rfl rfl (by decide) rfl (fun ls hl => ?_)
                  refine lv_goto (tgt := 45) G.1 G.2.1 d_Mo_fitClass_97 (by decide) ?_
                  have h := hK_45 s_10 x2h45 r_9 (x5h45 + 1) h
                  exact ih_45 s_10 x2h45 r_9 (x5h45 + 1) (Nat.lt_of_lt_of_le h.2 (Nat.le_of_lt_succ hμ_45)) h.1 H locs hP hD hS ls (lv_sub hl [3, 4, 1, 0] rfl)
                · skip
                  have h := h.2 c70
                  refine lv_iload G.1 G.2.1 d_Mo_fitClass_73 (lv_at hl 0 rfl) ?_
                  have J_85 : ∀ (s_j85 : St) (z0j85 : Int32) (H : Heap) (locs : List Loc), wj_Mo_fitClass_85 y Post a0 s_j85 z0j85 → va_P D CL (ws g ad y s_j85) H → va_D A (ws g ad y s_j85) → va_S A s.heap H locs → ∀ ls, lv_has ls 7 [] → W p l e ru_Mo_fitClass s m args below meth c H locs 0 0 Q (F0 m 85 ls [.int z0j85]) := by
                    intro s_j85 z0j85 H locs h hP hD hS ls hl
                    unfold wj_Mo_fitClass_85 at h
                    exact hret _ _ _ _ _ _ _ ls h hP hD hS (Nat.le_refl _) (Nat.le_refl _) d_Mo_fitClass_85
                  refine lv_if_ge (tgt := 83) G.1 G.2.1 d_Mo_fitClass_75 (by decide) (fun c75 => ?_) (fun c75 => ?_)
                  · skip
                    have h := h.1 c75
                    refine lv_bipush (v := 37) G.1 G.2.1 d_Mo_fitClass_83 (by decide) ?_
                    exact J_85 s_8 37 H locs h hP hD hS ls (lv_sub hl [] rfl)
                  · skip
                    have h := h.2 c75
                    refine lv_bipush (v := 43) G.1 G.2.1 d_Mo_fitClass_78 (by decide) ?_
                    refine lv_goto (tgt := 85) G.1 G.2.1 d_Mo_fitClass_80 (by decide) ?_
                    exact J_85 s_8 43 H locs h hP hD hS ls (lv_sub hl [] rfl)
              · skip
                have h := h.2 c55
                refine lv_iconst (v := 0) G.1 G.2.1 d_Mo_fitClass_58 (by decide) ?_
                exact hret _ _ _ _ _ _ _ ls h hP hD hS (Nat.le_refl _) (Nat.le_refl _) d_Mo_fitClass_59
        exact L_45 _ s_2 v2 v1 0 (Nat.lt_succ_self _) hI_45 H locs hP hD hS ls (lv_sub hl [3, 5, 1, 0] rfl)
      · skip
        have h := h.2 c34
        refine lv_iconst (v := 0) G.1 G.2.1 d_Mo_fitClass_37 (by decide) ?_
        exact hret _ _ _ _ _ _ _ ls h hP hD hS (Nat.le_refl _) (Nat.le_refl _) d_Mo_fitClass_38
    · skip
      have h := h.2 c17
      refine lv_bipush (v := 43) G.1 G.2.1 d_Mo_fitClass_20 (by decide) ?_
      refine W.eq (g2 := F0 m 22 ls [.int 43]) rfl ?_
      exact hret _ _ _ _ _ _ _ ls h hP hD hS (Nat.le_refl _) (Nat.le_refl _) d_Mo_fitClass_22
  · skip
    have h := h.2 c5
    refine lv_iconst (v := 0) G.1 G.2.1 d_Mo_fitClass_8 (by decide) ?_
    exact hret _ _ _ _ _ _ _ ls h hP hD hS (Nat.le_refl _) (Nat.le_refl _) d_Mo_fitClass_9
theorem q3733 : Cond.methodLink "ClassWorksModel" 762 y_Mo_fitClass ∈ lw_ok := lw_okmem (List.mem_of_getElem? (i := 3733) (by decide +kernel)) rfl
theorem q3736 : Cond.code y_Mo_fitClass b_Mo_fitClass 7 (some .int) ∈ lw_ok := lw_okmem (List.mem_of_getElem? (i := 3736) (by decide +kernel)) rfl
theorem q3735 : Cond.instanceMethod y_Mo_fitClass ∈ lw_ok := lw_okmem (List.mem_of_getElem? (i := 3735) (by decide +kernel)) rfl
theorem q230 : Cond.selects y_Mo_fitClass.cls y_Mo_fitClass y_Mo_fitClass ∈ lw_ok := lw_okmem (List.mem_of_getElem? (i := 230) (by decide +kernel)) rfl
theorem w9_Mo_fitClass : CWv y_Mo_fitClass b_Mo_fitClass 7 (some .int) 2 ∧ Cond.instanceMethod y_Mo_fitClass ∈ lw_ok ∧ Cond.selects y_Mo_fitClass.cls y_Mo_fitClass y_Mo_fitClass ∈ lw_ok := ⟨⟨q3736, q348, by decide +kernel, by decide +kernel, by decide +kernel⟩, q3735, q230⟩
def y_Mo_fit : MethodName := ⟨"ClassWorksModel", "fit", "(II)I"⟩
abbrev b_Mo_fit : ByteArray := prog_14_method_62_code
theorem d_Mo_fit_0 : decode b_Mo_fit 0 = .ok (.iload_n 2, 1) := by decide +kernel
theorem d_Mo_fit_1 : decode b_Mo_fit 1 = .ok (.iconst 4, 1) := by decide +kernel
theorem d_Mo_fit_2 : decode b_Mo_fit 2 = .ok (.if_icmp .eq 8, 3) := by decide +kernel
theorem d_Mo_fit_5 : decode b_Mo_fit 5 = .ok (.iload_n 1, 1) := by decide +kernel
theorem d_Mo_fit_6 : decode b_Mo_fit 6 = .ok (.iload_n 2, 1) := by decide +kernel
theorem d_Mo_fit_7 : decode b_Mo_fit 7 = .ok (.if_icmp .ne 5, 3) := by decide +kernel
theorem d_Mo_fit_10 : decode b_Mo_fit 10 = .ok (.iconst 0, 1) := by decide +kernel
theorem d_Mo_fit_11 : decode b_Mo_fit 11 = .ok (.ireturn, 1) := by decide +kernel
theorem d_Mo_fit_12 : decode b_Mo_fit 12 = .ok (.iload_n 1, 1) := by decide +kernel
theorem d_Mo_fit_13 : decode b_Mo_fit 13 = .ok (.iconst 3, 1) := by decide +kernel
theorem d_Mo_fit_14 : decode b_Mo_fit 14 = .ok (.if_icmp .ne 21, 3) := by decide +kernel
theorem d_Mo_fit_17 : decode b_Mo_fit 17 = .ok (.iload_n 2, 1) := by decide +kernel
theorem d_Mo_fit_18 : decode b_Mo_fit 18 = .ok (.iconst 2, 1) := by decide +kernel
theorem d_Mo_fit_19 : decode b_Mo_fit 19 = .ok (.if_icmp .eq 9, 3) := by decide +kernel
theorem d_Mo_fit_22 : decode b_Mo_fit 22 = .ok (.iload_n 2, 1) := by decide +kernel
theorem d_Mo_fit_23 : decode b_Mo_fit 23 = .ok (.bipush 16, 2) := by decide +kernel
theorem d_Mo_fit_25 : decode b_Mo_fit 25 = .ok (.if_icmp .lt 7, 3) := by decide +kernel
theorem d_Mo_fit_28 : decode b_Mo_fit 28 = .ok (.iconst 0, 1) := by decide +kernel
theorem d_Mo_fit_29 : decode b_Mo_fit 29 = .ok (.goto 5, 3) := by decide +kernel
theorem d_Mo_fit_32 : decode b_Mo_fit 32 = .ok (.bipush 37, 2) := by decide +kernel
theorem d_Mo_fit_34 : decode b_Mo_fit 34 = .ok (.ireturn, 1) := by decide +kernel
theorem d_Mo_fit_35 : decode b_Mo_fit 35 = .ok (.iload_n 1, 1) := by decide +kernel
theorem d_Mo_fit_36 : decode b_Mo_fit 36 = .ok (.iconst 2, 1) := by decide +kernel
theorem d_Mo_fit_37 : decode b_Mo_fit 37 = .ok (.if_icmp .ne 21, 3) := by decide +kernel
theorem d_Mo_fit_40 : decode b_Mo_fit 40 = .ok (.iload_n 2, 1) := by decide +kernel
theorem d_Mo_fit_41 : decode b_Mo_fit 41 = .ok (.bipush 16, 2) := by decide +kernel
theorem d_Mo_fit_43 : decode b_Mo_fit 43 = .ok (.aload_n 0, 1) := by decide +kernel
theorem d_Mo_fit_44 : decode b_Mo_fit 44 = .ok (.getfield 153, 3) := by decide +kernel
theorem d_Mo_fit_47 : decode b_Mo_fit 47 = .ok (.iadd, 1) := by decide +kernel
theorem d_Mo_fit_48 : decode b_Mo_fit 48 = .ok (.if_icmp .ne 7, 3) := by decide +kernel
theorem d_Mo_fit_51 : decode b_Mo_fit 51 = .ok (.iconst 0, 1) := by decide +kernel
theorem d_Mo_fit_52 : decode b_Mo_fit 52 = .ok (.goto 5, 3) := by decide +kernel
theorem d_Mo_fit_55 : decode b_Mo_fit 55 = .ok (.bipush 37, 2) := by decide +kernel
theorem d_Mo_fit_57 : decode b_Mo_fit 57 = .ok (.ireturn, 1) := by decide +kernel
theorem d_Mo_fit_58 : decode b_Mo_fit 58 = .ok (.iload_n 1, 1) := by decide +kernel
theorem d_Mo_fit_59 : decode b_Mo_fit 59 = .ok (.bipush 16, 2) := by decide +kernel
theorem d_Mo_fit_61 : decode b_Mo_fit 61 = .ok (.if_icmp .lt 24, 3) := by decide +kernel
theorem d_Mo_fit_64 : decode b_Mo_fit 64 = .ok (.iload_n 2, 1) := by decide +kernel
theorem d_Mo_fit_65 : decode b_Mo_fit 65 = .ok (.bipush 16, 2) := by decide +kernel
theorem d_Mo_fit_67 : decode b_Mo_fit 67 = .ok (.if_icmp .lt 18, 3) := by decide +kernel
theorem d_Mo_fit_70 : decode b_Mo_fit 70 = .ok (.aload_n 0, 1) := by decide +kernel
theorem d_Mo_fit_71 : decode b_Mo_fit 71 = .ok (.iload_n 1, 1) := by decide +kernel
theorem d_Mo_fit_72 : decode b_Mo_fit 72 = .ok (.bipush 16, 2) := by decide +kernel
theorem d_Mo_fit_74 : decode b_Mo_fit 74 = .ok (.isub, 1) := by decide +kernel
theorem d_Mo_fit_75 : decode b_Mo_fit 75 = .ok (.iload_n 2, 1) := by decide +kernel
theorem d_Mo_fit_76 : decode b_Mo_fit 76 = .ok (.bipush 16, 2) := by decide +kernel
theorem d_Mo_fit_78 : decode b_Mo_fit 78 = .ok (.isub, 1) := by decide +kernel
theorem d_Mo_fit_79 : decode b_Mo_fit 79 = .ok (.invokevirtual 762, 3) := by decide +kernel
theorem d_Mo_fit_82 : decode b_Mo_fit 82 = .ok (.goto 5, 3) := by decide +kernel
theorem d_Mo_fit_85 : decode b_Mo_fit 85 = .ok (.bipush 37, 2) := by decide +kernel
theorem d_Mo_fit_87 : decode b_Mo_fit 87 = .ok (.ireturn, 1) := by decide +kernel
abbrev ru_Mo_fit : Room := { frames := 2, cells := 0, slots := 0, locals := 48 }
def wj_Mo_fit_10 (y : Ly) (Post : St → Int32 → Prop) (a0 : Nat) (s_j10 : St) : Prop := Post s_j10 0
def wj_Mo_fit_87 (y : Ly) (Post : St → Int32 → Prop) (a0 : Nat) (s_j87 : St) (z0j87 : Int32) : Prop := Post s_j87 z0j87
def wj_Mo_fit_85 (y : Ly) (Post : St → Int32 → Prop) (a0 : Nat) (s_j85 : St) : Prop := wj_Mo_fit_87 y Post a0 s_j85 37
def wj_Mo_fit_57 (y : Ly) (Post : St → Int32 → Prop) (a0 : Nat) (s_j57 : St) (z0j57 : Int32) : Prop := Post s_j57 z0j57
def wj_Mo_fit_34 (y : Ly) (Post : St → Int32 → Prop) (a0 : Nat) (s_j34 : St) (z0j34 : Int32) : Prop := Post s_j34 z0j34
def wj_Mo_fit_28 (y : Ly) (Post : St → Int32 → Prop) (a0 : Nat) (s_j28 : St) : Prop := wj_Mo_fit_34 y Post a0 s_j28 0
def wu_Mo_fit (y : Ly) (Post : St → Int32 → Prop) (σ : St) (a0 : Nat) (v1 : Int32) (v2 : Int32) : Prop := ((v2 = 4 → wj_Mo_fit_10 y Post a0 σ) ∧ (¬ (v2 = 4) → ((¬ v1 = v2 → ((¬ v1 = 3 → ((¬ v1 = 2 → ((v1 < 16 → wj_Mo_fit_85 y Post a0 σ) ∧ (¬ (v1 < 16) → ((v2 < 16 → wj_Mo_fit_85 y Post a0 σ) ∧ (¬ (v2 < 16) → wu_Mo_fitClass y (fun (s_2 : St) (r_1 : Int32) => wj_Mo_fit_87 y Post a0 s_2 r_1) σ a0 (v1 - 16) (v2 - 16)))))) ∧ (v1 = 2 → ((¬ v2 = (16 + (sV σ a0 8)) → wj_Mo_fit_57 y Post a0 σ 37) ∧ (v2 = (16 + (sV σ a0 8)) → wj_Mo_fit_57 y Post a0 σ 0))))) ∧ (v1 = 3 → ((v2 = 2 → wj_Mo_fit_28 y Post a0 σ) ∧ (¬ (v2 = 2) → ((v2 < 16 → wj_Mo_fit_34 y Post a0 σ 37) ∧ (¬ (v2 < 16) → wj_Mo_fit_28 y Post a0 σ))))))) ∧ (v1 = v2 → wj_Mo_fit_10 y Post a0 σ))))
set_option maxHeartbeats 4000000 in
set_option maxRecDepth 100000 in
theorem cu_Mo_fit (l : Launch) (D : va_G) (g : Nat → ClassId) (ad : Nat → Nat) (y : Ly) (Post : St → Int32 → Prop) (σ : St) (a0 : Nat) (v1 : Int32) (v2 : Int32) (sz : Nat) (h_a0 : cl a0 = 14) (h : wu_Mo_fit y Post σ a0 v1 v2) : Met l y_Mo_fit (mw y_Mo_fit b_Mo_fit 3 (some .int)) ru_Mo_fit (PC g D [] [.ref (ad a0), .int v1, .int v2] sz (ws g ad y σ)) (va_Qi (fun (r : Int32) (u : St) => Post u r) (QW D (va_A (ws g ad y σ) sz) (fun u => ws g ad y u)) (va_A (ws g ad y σ) sz)) 0 0 (va_A (ws g ad y σ) sz) := by
  refine ofI (by decide +kernel) (Nat.le_of_ble_eq_true rfl) ?_
  intro p e s m args below meth c A Q ls H locs G hsz hP hD hS hl hret
  subst hsz
  have hl : lv_has ls 3 [(0, .ref (ad a0)), (1, .int v1), (2, .int v2)] := hl
  unfold wu_Mo_fit at h
  refine lv_iload_n G.1 G.2.1 d_Mo_fit_0 rfl (lv_at hl 2 rfl) ?_
  refine lv_iconst (v := 4) G.1 G.2.1 d_Mo_fit_1 (by decide) ?_
  have J_10 : ∀ (s_j10 : St) (H : Heap) (locs : List Loc), wj_Mo_fit_10 y Post a0 s_j10 → va_P D CL (ws g ad y s_j10) H → va_D A (ws g ad y s_j10) → va_S A s.heap H locs → ∀ ls, lv_has ls 3 [] → W p l e ru_Mo_fit s m args below meth c H locs 0 0 Q (F0 m 10 ls []) := by
    intro s_j10 H locs h hP hD hS ls hl
    unfold wj_Mo_fit_10 at h
    refine lv_iconst (v := 0) G.1 G.2.1 d_Mo_fit_10 (by decide) ?_
    exact hret _ _ _ _ _ _ _ ls h hP hD hS (Nat.le_refl _) (Nat.le_refl _) d_Mo_fit_11
  refine lv_icmp_eq (tgt := 10) G.1 G.2.1 d_Mo_fit_2 (by decide) (fun c2 => ?_) (fun c2 => ?_)
  · skip
    have h := h.1 c2
    exact J_10 σ H locs h hP hD hS ls (lv_sub hl [] rfl)
  · skip
    have h := h.2 c2
    refine lv_iload_n G.1 G.2.1 d_Mo_fit_5 rfl (lv_at hl 1 rfl) ?_
    refine lv_iload_n G.1 G.2.1 d_Mo_fit_6 rfl (lv_at hl 2 rfl) ?_
    refine lv_icmp_ne (tgt := 12) G.1 G.2.1 d_Mo_fit_7 (by decide) (fun c7 => ?_) (fun c7 => ?_)
    · skip
      have h := h.1 c7
      refine lv_iload_n G.1 G.2.1 d_Mo_fit_12 rfl (lv_at hl 1 rfl) ?_
      refine lv_iconst (v := 3) G.1 G.2.1 d_Mo_fit_13 (by decide) ?_
      refine lv_icmp_ne (tgt := 35) G.1 G.2.1 d_Mo_fit_14 (by decide) (fun c14 => ?_) (fun c14 => ?_)
      · skip
        have h := h.1 c14
        refine lv_iload_n G.1 G.2.1 d_Mo_fit_35 rfl (lv_at hl 1 rfl) ?_
        refine lv_iconst (v := 2) G.1 G.2.1 d_Mo_fit_36 (by decide) ?_
        refine W.eq (g2 := F0 m 37 ls [.int 2, .int v1]) rfl ?_
        refine lv_icmp_ne (tgt := 58) G.1 G.2.1 d_Mo_fit_37 (by decide) (fun c37 => ?_) (fun c37 => ?_)
        · skip
          have h := h.1 c37
          refine lv_iload_n G.1 G.2.1 d_Mo_fit_58 rfl (lv_at hl 1 rfl) ?_
          refine lv_bipush (v := 16) G.1 G.2.1 d_Mo_fit_59 (by decide) ?_
          have J_87 : ∀ (s_j87 : St) (z0j87 : Int32) (H : Heap) (locs : List Loc), wj_Mo_fit_87 y Post a0 s_j87 z0j87 → va_P D CL (ws g ad y s_j87) H → va_D A (ws g ad y s_j87) → va_S A s.heap H locs → ∀ ls, lv_has ls 3 [] → W p l e ru_Mo_fit s m args below meth c H locs 0 0 Q (F0 m 87 ls [.int z0j87]) := by
            intro s_j87 z0j87 H locs h hP hD hS ls hl
            unfold wj_Mo_fit_87 at h
            exact hret _ _ _ _ _ _ _ ls h hP hD hS (Nat.le_refl _) (Nat.le_refl _) d_Mo_fit_87
          have J_85 : ∀ (s_j85 : St) (H : Heap) (locs : List Loc), wj_Mo_fit_85 y Post a0 s_j85 → va_P D CL (ws g ad y s_j85) H → va_D A (ws g ad y s_j85) → va_S A s.heap H locs → ∀ ls, lv_has ls 3 [] → W p l e ru_Mo_fit s m args below meth c H locs 0 0 Q (F0 m 85 ls []) := by
            intro s_j85 H locs h hP hD hS ls hl
            unfold wj_Mo_fit_85 at h
            refine lv_bipush (v := 37) G.1 G.2.1 d_Mo_fit_85 (by decide) ?_
            exact J_87 s_j85 37 H locs h hP hD hS ls (lv_sub hl [] rfl)
          refine lv_icmp_lt (tgt := 85) G.1 G.2.1 d_Mo_fit_61 (by decide) (fun c61 => ?_) (fun c61 => ?_)
          · skip
            have h := h.1 c61
            exact J_85 σ H locs h hP hD hS ls (lv_sub hl [] rfl)
          · skip
            have h := h.2 c61
            refine lv_iload_n G.1 G.2.1 d_Mo_fit_64 rfl (lv_at hl 2 rfl) ?_
            refine lv_bipush (v := 16) G.1 G.2.1 d_Mo_fit_65 (by decide) ?_
            refine lv_icmp_lt (tgt := 85) G.1 G.2.1 d_Mo_fit_67 (by decide) (fun c67 => ?_) (fun c67 => ?_)
            · skip
              have h := h.1 c67
              exact J_85 σ H locs h hP hD hS ls (lv_sub hl [] rfl)
            · skip
              have h := h.2 c67
              refine lv_aload_n G.1 G.2.1 d_Mo_fit_70 rfl (lv_at hl 0 rfl) ?_
              refine lv_iload_n G.1 G.2.1 d_Mo_fit_71 rfl (lv_at hl 1 rfl) ?_
              refine lv_bipush (v := 16) G.1 G.2.1 d_Mo_fit_72 (by decide) ?_
              refine lv_isub G.1 G.2.1 d_Mo_fit_74 ?_
              refine lv_iload_n G.1 G.2.1 d_Mo_fit_75 rfl (lv_at hl 2 rfl) ?_
              refine W.eq (g2 := F0 m 76 ls [.int v2, .int (v1 - 16), .ref (ad a0)]) rfl ?_
              refine lv_bipush (v := 16) G.1 G.2.1 d_Mo_fit_76 (by decide) ?_
              refine lv_isub G.1 G.2.1 d_Mo_fit_78 ?_
              refine ucVi (As := [.int (v1 - 16), .int (v2 - 16)]) (rest := []) G hP hD hS (cu_Mo_fitClass l D g ad y _ σ a0 (v1 - 16) (v2 - 16) H.size h_a0 h) w9_Mo_fitClass q3733 ⟨Nat.le_of_ble_eq_true rfl, Nat.le_of_ble_eq_true rfl⟩ rfl rfl h_a0 (q := (RMo, TMo, 131)) rfl rfl hl.1 rfl (Nat.le_of_ble_eq_true rfl) rfl ⟨Nat.le_refl _, Nat.le_refl _⟩ d_Mo_fit_79 (fun r_1 s_2 H locs h hP hD hS => ?_)
              refine lv_goto (tgt := 87) G.1 G.2.1 d_Mo_fit_82 (by decide) ?_
              exact J_87 s_2 r_1 H locs h hP hD hS ls (lv_sub hl [] rfl)
        · skip
          have h := h.2 c37
          refine lv_iload_n G.1 G.2.1 d_Mo_fit_40 rfl (lv_at hl 2 rfl) ?_
          refine lv_bipush (v := 16) G.1 G.2.1 d_Mo_fit_41 (by decide) ?_
          refine lv_aload_n G.1 G.2.1 d_Mo_fit_43 rfl (lv_at hl 0 rfl) ?_
          refine ugf (v := .int (sV σ a0 8)) G hP h_a0 iMo rfl 8 (by decide) rfl q3072 rfl rfl d_Mo_fit_44 ?_
          refine lv_iadd G.1 G.2.1 d_Mo_fit_47 ?_
          have J_57 : ∀ (s_j57 : St) (z0j57 : Int32) (H : Heap) (locs : List Loc), wj_Mo_fit_57 y Post a0 s_j57 z0j57 → va_P D CL (ws g ad y s_j57) H → va_D A (ws g ad y s_j57) → va_S A s.heap H locs → ∀ ls, lv_has ls 3 [] → W p l e ru_Mo_fit s m args below meth c H locs 0 0 Q (F0 m 57 ls [.int z0j57]) := by
            intro s_j57 z0j57 H locs h hP hD hS ls hl
            unfold wj_Mo_fit_57 at h
            exact hret _ _ _ _ _ _ _ ls h hP hD hS (Nat.le_refl _) (Nat.le_refl _) d_Mo_fit_57
          refine lv_icmp_ne (tgt := 55) G.1 G.2.1 d_Mo_fit_48 (by decide) (fun c48 => ?_) (fun c48 => ?_)
          · skip
            have h := h.1 c48
            refine lv_bipush (v := 37) G.1 G.2.1 d_Mo_fit_55 (by decide) ?_
            exact J_57 σ 37 H locs h hP hD hS ls (lv_sub hl [] rfl)
          · skip
            have h := h.2 c48
            refine lv_iconst (v := 0) G.1 G.2.1 d_Mo_fit_51 (by decide) ?_
            refine lv_goto (tgt := 57) G.1 G.2.1 d_Mo_fit_52 (by decide) ?_
            exact J_57 σ 0 H locs h hP hD hS ls (lv_sub hl [] rfl)
      · skip
        have h := h.2 c14
        refine lv_iload_n G.1 G.2.1 d_Mo_fit_17 rfl (lv_at hl 2 rfl) ?_
        refine lv_iconst (v := 2) G.1 G.2.1 d_Mo_fit_18 (by decide) ?_
        have J_34 : ∀ (s_j34 : St) (z0j34 : Int32) (H : Heap) (locs : List Loc), wj_Mo_fit_34 y Post a0 s_j34 z0j34 → va_P D CL (ws g ad y s_j34) H → va_D A (ws g ad y s_j34) → va_S A s.heap H locs → ∀ ls, lv_has ls 3 [] → W p l e ru_Mo_fit s m args below meth c H locs 0 0 Q (F0 m 34 ls [.int z0j34]) := by
          intro s_j34 z0j34 H locs h hP hD hS ls hl
          unfold wj_Mo_fit_34 at h
          exact hret _ _ _ _ _ _ _ ls h hP hD hS (Nat.le_refl _) (Nat.le_refl _) d_Mo_fit_34
        have J_28 : ∀ (s_j28 : St) (H : Heap) (locs : List Loc), wj_Mo_fit_28 y Post a0 s_j28 → va_P D CL (ws g ad y s_j28) H → va_D A (ws g ad y s_j28) → va_S A s.heap H locs → ∀ ls, lv_has ls 3 [] → W p l e ru_Mo_fit s m args below meth c H locs 0 0 Q (F0 m 28 ls []) := by
          intro s_j28 H locs h hP hD hS ls hl
          unfold wj_Mo_fit_28 at h
          refine lv_iconst (v := 0) G.1 G.2.1 d_Mo_fit_28 (by decide) ?_
          refine lv_goto (tgt := 34) G.1 G.2.1 d_Mo_fit_29 (by decide) ?_
          exact J_34 s_j28 0 H locs h hP hD hS ls (lv_sub hl [] rfl)
        refine W.eq (g2 := F0 m 19 ls [.int 2, .int v2]) rfl ?_
        refine lv_icmp_eq (tgt := 28) G.1 G.2.1 d_Mo_fit_19 (by decide) (fun c19 => ?_) (fun c19 => ?_)
        · skip
          have h := h.1 c19
          exact J_28 σ H locs h hP hD hS ls (lv_sub hl [] rfl)
        · skip
          have h := h.2 c19
          refine lv_iload_n G.1 G.2.1 d_Mo_fit_22 rfl (lv_at hl 2 rfl) ?_
          refine lv_bipush (v := 16) G.1 G.2.1 d_Mo_fit_23 (by decide) ?_
          refine lv_icmp_lt (tgt := 32) G.1 G.2.1 d_Mo_fit_25 (by decide) (fun c25 => ?_) (fun c25 => ?_)
          · skip
            have h := h.1 c25
            refine lv_bipush (v := 37) G.1 G.2.1 d_Mo_fit_32 (by decide) ?_
            exact J_34 σ 37 H locs h hP hD hS ls (lv_sub hl [] rfl)
          · skip
            have h := h.2 c25
            exact J_28 σ H locs h hP hD hS ls (lv_sub hl [] rfl)
    · skip
      have h := h.2 c7
      exact J_10 σ H locs h hP hD hS ls (lv_sub hl [] rfl)
theorem q3729 : Cond.methodLink "ClassWorksModel" 774 y_Mo_fit ∈ lw_ok := lw_okmem (List.mem_of_getElem? (i := 3729) (by decide +kernel)) rfl
theorem q3732 : Cond.code y_Mo_fit b_Mo_fit 3 (some .int) ∈ lw_ok := lw_okmem (List.mem_of_getElem? (i := 3732) (by decide +kernel)) rfl
theorem q3731 : Cond.instanceMethod y_Mo_fit ∈ lw_ok := lw_okmem (List.mem_of_getElem? (i := 3731) (by decide +kernel)) rfl
theorem q229 : Cond.selects y_Mo_fit.cls y_Mo_fit y_Mo_fit ∈ lw_ok := lw_okmem (List.mem_of_getElem? (i := 229) (by decide +kernel)) rfl
theorem w9_Mo_fit : CWv y_Mo_fit b_Mo_fit 3 (some .int) 2 ∧ Cond.instanceMethod y_Mo_fit ∈ lw_ok ∧ Cond.selects y_Mo_fit.cls y_Mo_fit y_Mo_fit ∈ lw_ok := ⟨⟨q3732, q348, by decide +kernel, by decide +kernel, by decide +kernel⟩, q3731, q229⟩
def y_Mo_fitLocals : MethodName := ⟨"ClassWorksModel", "fitLocals", "(I)I"⟩
abbrev b_Mo_fitLocals : ByteArray := prog_14_method_66_code
theorem d_Mo_fitLocals_0 : decode b_Mo_fitLocals 0 = .ok (.iconst 0, 1) := by decide +kernel
theorem d_Mo_fitLocals_1 : decode b_Mo_fitLocals 1 = .ok (.istore_n 2, 1) := by decide +kernel
theorem d_Mo_fitLocals_2 : decode b_Mo_fitLocals 2 = .ok (.iload_n 2, 1) := by decide +kernel
theorem d_Mo_fitLocals_3 : decode b_Mo_fitLocals 3 = .ok (.aload_n 0, 1) := by decide +kernel
theorem d_Mo_fitLocals_4 : decode b_Mo_fitLocals 4 = .ok (.getfield 522, 3) := by decide +kernel
theorem d_Mo_fitLocals_7 : decode b_Mo_fitLocals 7 = .ok (.getfield 459, 3) := by decide +kernel
theorem d_Mo_fitLocals_10 : decode b_Mo_fitLocals 10 = .ok (.aload_n 0, 1) := by decide +kernel
theorem d_Mo_fitLocals_11 : decode b_Mo_fitLocals 11 = .ok (.getfield 768, 3) := by decide +kernel
theorem d_Mo_fitLocals_14 : decode b_Mo_fitLocals 14 = .ok (.iaload, 1) := by decide +kernel
theorem d_Mo_fitLocals_15 : decode b_Mo_fitLocals 15 = .ok (.if_icmp .ge 49, 3) := by decide +kernel
theorem d_Mo_fitLocals_18 : decode b_Mo_fitLocals 18 = .ok (.aload_n 0, 1) := by decide +kernel
theorem d_Mo_fitLocals_19 : decode b_Mo_fitLocals 19 = .ok (.aload_n 0, 1) := by decide +kernel
theorem d_Mo_fitLocals_20 : decode b_Mo_fitLocals 20 = .ok (.getfield 305, 3) := by decide +kernel
theorem d_Mo_fitLocals_23 : decode b_Mo_fitLocals 23 = .ok (.iload_n 2, 1) := by decide +kernel
theorem d_Mo_fitLocals_24 : decode b_Mo_fitLocals 24 = .ok (.iaload, 1) := by decide +kernel
theorem d_Mo_fitLocals_25 : decode b_Mo_fitLocals 25 = .ok (.iload_n 2, 1) := by decide +kernel
theorem d_Mo_fitLocals_26 : decode b_Mo_fitLocals 26 = .ok (.aload_n 0, 1) := by decide +kernel
theorem d_Mo_fitLocals_27 : decode b_Mo_fitLocals 27 = .ok (.getfield 522, 3) := by decide +kernel
theorem d_Mo_fitLocals_30 : decode b_Mo_fitLocals 30 = .ok (.getfield 701, 3) := by decide +kernel
theorem d_Mo_fitLocals_33 : decode b_Mo_fitLocals 33 = .ok (.iload_n 1, 1) := by decide +kernel
theorem d_Mo_fitLocals_34 : decode b_Mo_fitLocals 34 = .ok (.iaload, 1) := by decide +kernel
theorem d_Mo_fitLocals_35 : decode b_Mo_fitLocals 35 = .ok (.if_icmp .ge 12, 3) := by decide +kernel
theorem d_Mo_fitLocals_38 : decode b_Mo_fitLocals 38 = .ok (.aload_n 0, 1) := by decide +kernel
theorem d_Mo_fitLocals_39 : decode b_Mo_fitLocals 39 = .ok (.iload_n 1, 1) := by decide +kernel
theorem d_Mo_fitLocals_40 : decode b_Mo_fitLocals 40 = .ok (.iload_n 2, 1) := by decide +kernel
theorem d_Mo_fitLocals_41 : decode b_Mo_fitLocals 41 = .ok (.invokevirtual 771, 3) := by decide +kernel
theorem d_Mo_fitLocals_44 : decode b_Mo_fitLocals 44 = .ok (.goto 4, 3) := by decide +kernel
theorem d_Mo_fitLocals_47 : decode b_Mo_fitLocals 47 = .ok (.iconst 4, 1) := by decide +kernel
theorem d_Mo_fitLocals_48 : decode b_Mo_fitLocals 48 = .ok (.invokevirtual 774, 3) := by decide +kernel
theorem d_Mo_fitLocals_51 : decode b_Mo_fitLocals 51 = .ok (.istore_n 3, 1) := by decide +kernel
theorem d_Mo_fitLocals_52 : decode b_Mo_fitLocals 52 = .ok (.iload_n 3, 1) := by decide +kernel
theorem d_Mo_fitLocals_53 : decode b_Mo_fitLocals 53 = .ok (.ifCond .le 5, 3) := by decide +kernel
theorem d_Mo_fitLocals_56 : decode b_Mo_fitLocals 56 = .ok (.iload_n 3, 1) := by decide +kernel
theorem d_Mo_fitLocals_57 : decode b_Mo_fitLocals 57 = .ok (.ireturn, 1) := by decide +kernel
theorem d_Mo_fitLocals_58 : decode b_Mo_fitLocals 58 = .ok (.iinc 2 1, 3) := by decide +kernel
theorem d_Mo_fitLocals_61 : decode b_Mo_fitLocals 61 = .ok (.goto (-59), 3) := by decide +kernel
theorem d_Mo_fitLocals_64 : decode b_Mo_fitLocals 64 = .ok (.iconst 0, 1) := by decide +kernel
theorem d_Mo_fitLocals_65 : decode b_Mo_fitLocals 65 = .ok (.ireturn, 1) := by decide +kernel
abbrev ru_Mo_fitLocals : Room := { frames := 3, cells := 0, slots := 0, locals := 70 }
def wj_Mo_fitLocals_48 (y : Ly) (Post : St → Int32 → Prop) (K_2 : St → Int32 → Int32 → Prop) (a0 : Nat) (s_j48 : St) (x1j48 : Int32) (x2j48 : Int32) (z1j48 : Int32) (z2j48 : Int32) : Prop := wu_Mo_fit y (fun (s_11 : St) (r_10 : Int32) => ((r_10 ≤ 0 → K_2 s_11 x1j48 (x2j48 + 1)) ∧ (¬ (r_10 ≤ 0) → Post s_11 r_10))) s_j48 a0 z1j48 z2j48
def wb_Mo_fitLocals_2 (y : Ly) (Post : St → Int32 → Prop) (K_2 : St → Int32 → Int32 → Prop) (a0 : Nat) (s_h2 : St) (x1h2 : Int32) (x2h2 : Int32) : Prop := ∃ b_1 : Nat, sO s_h2 a0 45 = some b_1 ∧ cl b_1 = 13 ∧ xA y s_h2 b_1 22 (sV s_h2 a0 75) (fun x_4 : Int32 => ((x_4 ≤ x2h2 → Post s_h2 0) ∧ (¬ (x_4 ≤ x2h2) → xA y s_h2 a0 70 x2h2 (fun x_5 : Int32 => ∃ b_6 : Nat, sO s_h2 a0 45 = some b_6 ∧ cl b_6 = 13 ∧ xA y s_h2 b_6 38 x1h2 (fun x_9 : Int32 => ((x_9 ≤ x2h2 → wj_Mo_fitLocals_48 y Post K_2 a0 s_h2 x1h2 x2h2 x_5 4) ∧ (¬ (x_9 ≤ x2h2) → wu_Mo_frameKind y (fun (s_13 : St) (r_12 : Int32) => wj_Mo_fitLocals_48 y Post K_2 a0 s_13 x1h2 x2h2 x_5 r_12) s_h2 a0 x1h2 x2h2)))))))
def wl_Mo_fitLocals_2 (y : Ly) (Post : St → Int32 → Prop) (a0 : Nat) (s_h2 : St) (x1h2 : Int32) (x2h2 : Int32) : Prop := ∃ (I : St → Int32 → Int32 → Prop) (μ : St → Int32 → Int32 → Nat), I s_h2 x1h2 x2h2 ∧ ∀ (u : St) (t0 : Int32) (t1 : Int32), I u t0 t1 → wb_Mo_fitLocals_2 y Post (fun z t0q t1q => I z t0q t1q ∧ μ z t0q t1q < μ u t0 t1) a0 u t0 t1
def wu_Mo_fitLocals (y : Ly) (Post : St → Int32 → Prop) (σ : St) (a0 : Nat) (v1 : Int32) : Prop := wl_Mo_fitLocals_2 y Post a0 σ v1 0
set_option maxHeartbeats 4000000 in
set_option maxRecDepth 100000 in
theorem cu_Mo_fitLocals (l : Launch) (D : va_G) (g : Nat → ClassId) (ad : Nat → Nat) (y : Ly) (Post : St → Int32 → Prop) (σ : St) (a0 : Nat) (v1 : Int32) (sz : Nat) (h_a0 : cl a0 = 14) (h : wu_Mo_fitLocals y Post σ a0 v1) : Met l y_Mo_fitLocals (mw y_Mo_fitLocals b_Mo_fitLocals 4 (some .int)) ru_Mo_fitLocals (PC g D [] [.ref (ad a0), .int v1] sz (ws g ad y σ)) (va_Qi (fun (r : Int32) (u : St) => Post u r) (QW D (va_A (ws g ad y σ) sz) (fun u => ws g ad y u)) (va_A (ws g ad y σ) sz)) 0 0 (va_A (ws g ad y σ) sz) := by
  refine ofI (by decide +kernel) (Nat.le_of_ble_eq_true rfl) ?_
  intro p e s m args below meth c A Q ls H locs G hsz hP hD hS hl hret
  subst hsz
  have hl : lv_has ls 4 [(0, .ref (ad a0)), (1, .int v1)] := hl
  unfold wu_Mo_fitLocals at h
  refine lv_iconst (v := 0) G.1 G.2.1 d_Mo_fitLocals_0 (by decide) ?_
  refine lv_istore_n (lv' := [(2, .int 0), (0, .ref (ad a0)), (1, .int v1)]) G.1 G.2.1 d_Mo_fitLocals_1 rfl hl (by decide) rfl (fun ls hl => ?_)
  unfold wl_Mo_fitLocals_2 at h
  obtain ⟨I_2, μ_2, hI_2, hB_2⟩ := h
  have L_2 : ∀ (n_2 : Nat) (s_h2 : St) (x1h2 : Int32) (x2h2 : Int32), μ_2 s_h2 x1h2 x2h2 < n_2 → I_2 s_h2 x1h2 x2h2 → ∀ (H : Heap) (locs : List Loc), va_P D CL (ws g ad y s_h2) H → va_D A (ws g ad y s_h2) → va_S A s.heap H locs → ∀ ls, lv_has ls 4 [(0, .ref (ad a0)), (1, .int x1h2), (2, .int x2h2)] → W p l e ru_Mo_fitLocals s m args below meth c H locs 0 0 Q (F0 m 2 ls []) := by
    intro n_2
    induction n_2 with
    | zero => intro s_h2 x1h2 x2h2 hμ; exact absurd hμ (Nat.not_lt_zero _)
    | succ n_2 ih_2 =>
      intro s_h2 x1h2 x2h2 hμ_2 hJ H locs hP hD hS ls hl
      obtain ⟨K_2, hK_2, h⟩ : ∃ K : St → Int32 → Int32 → Prop, (∀ z (t0 : Int32) (t1 : Int32), K z t0 t1 → I_2 z t0 t1 ∧ μ_2 z t0 t1 < μ_2 s_h2 x1h2 x2h2) ∧ wb_Mo_fitLocals_2 y Post K a0 s_h2 x1h2 x2h2 := ⟨_, fun _ _ _ h => h, hB_2 s_h2 x1h2 x2h2 hJ⟩
      unfold wb_Mo_fitLocals_2 at h
      refine lv_iload_n G.1 G.2.1 d_Mo_fitLocals_2 rfl (lv_at hl 2 rfl) ?_
      refine lv_aload_n G.1 G.2.1 d_Mo_fitLocals_3 rfl (lv_at hl 0 rfl) ?_
      obtain ⟨b_1, e_2, c_3, h⟩ := h
      refine ugf (v := .ref (ad b_1)) G hP h_a0 iMo rfl 45 (by decide) rfl q3109 rfl (by show va_rf ((sO s_h2 a0 45).map ad) = _; rw [e_2]; rfl) d_Mo_fitLocals_4 ?_
      refine ugfN (v := .ref (yP y b_1 22)) G hP c_3 iMw rfl 22 (by decide) rfl q2748 rfl rfl d_Mo_fitLocals_7 ?_
      refine lv_aload_n G.1 G.2.1 d_Mo_fitLocals_10 rfl (lv_at hl 0 rfl) ?_
      refine ugf (v := .int (sV s_h2 a0 75)) G hP h_a0 iMo rfl 75 (by decide) rfl q3139 rfl rfl d_Mo_fitLocals_11 ?_
      refine uiald G hP (kdp c_3 rfl) (typ c_3 rfl) h d_Mo_fitLocals_14 (fun x_4 h => ?_)
      refine lv_icmp_ge (tgt := 64) G.1 G.2.1 d_Mo_fitLocals_15 (by decide) (fun c15 => ?_) (fun c15 => ?_)
      · skip
        have h := h.1 c15
        refine lv_iconst (v := 0) G.1 G.2.1 d_Mo_fitLocals_64 (by decide) ?_
        exact hret _ _ _ _ _ _ _ ls h hP hD hS (Nat.le_refl _) (Nat.le_refl _) d_Mo_fitLocals_65
      · skip
        have h := h.2 c15
        refine lv_aload_n G.1 G.2.1 d_Mo_fitLocals_18 rfl (lv_at hl 0 rfl) ?_
        refine lv_aload_n G.1 G.2.1 d_Mo_fitLocals_19 rfl (lv_at hl 0 rfl) ?_
        refine ugf (v := .ref (yP y a0 70)) G hP h_a0 iMo rfl 70 (by decide) rfl q3134 rfl rfl d_Mo_fitLocals_20 ?_
        refine W.eq (g2 := F0 m 23 ls [.ref (yP y a0 70), .ref (ad a0)]) rfl ?_
        refine lv_iload_n G.1 G.2.1 d_Mo_fitLocals_23 rfl (lv_at hl 2 rfl) ?_
        refine uiald G hP (kdp h_a0 rfl) (typ h_a0 rfl) h d_Mo_fitLocals_24 (fun x_5 h => ?_)
        refine lv_iload_n G.1 G.2.1 d_Mo_fitLocals_25 rfl (lv_at hl 2 rfl) ?_
        refine lv_aload_n G.1 G.2.1 d_Mo_fitLocals_26 rfl (lv_at hl 0 rfl) ?_
        obtain ⟨b_6, e_7, c_8, h⟩ := h
        refine ugf (v := .ref (ad b_6)) G hP h_a0 iMo rfl 45 (by decide) rfl q3109 rfl (by show va_rf ((sO s_h2 a0 45).map ad) = _; rw [e_7]; rfl) d_Mo_fitLocals_27 ?_
        refine ugfN (v := .ref (yP y b_6 38)) G hP c_8 iMw rfl 38 (by decide) rfl q2778 rfl rfl d_Mo_fitLocals_30 ?_
        refine lv_iload_n G.1 G.2.1 d_Mo_fitLocals_33 rfl (lv_at hl 1 rfl) ?_
        refine uiald G hP (kdp c_8 rfl) (typ c_8 rfl) h d_Mo_fitLocals_34 (fun x_9 h => ?_)
        have J_48 : ∀ (s_j48 : St) (x1j48 : Int32) (x2j48 : Int32) (z1j48 : Int32) (z2j48 : Int32) (H : Heap) (locs : List Loc), wj_Mo_fitLocals_48 y Post K_2 a0 s_j48 x1j48 x2j48 z1j48 z2j48 → va_P D CL (ws g ad y s_j48) H → va_D A (ws g ad y s_j48) → va_S A s.heap H locs → ∀ ls, lv_has ls 4 [(0, .ref (ad a0)), (1, .int x1j48), (2, .int x2j48)] → W p l e ru_Mo_fitLocals s m args below meth c H locs 0 0 Q (F0 m 48 ls [.int z2j48, .int z1j48, .ref (ad a0)]) := by
          intro s_j48 x1j48 x2j48 z1j48 z2j48 H locs h hP hD hS ls hl
          unfold wj_Mo_fitLocals_48 at h
          refine ucVi (As := [.int z1j48, .int z2j48]) (rest := []) G hP hD hS (cu_Mo_fit l D g ad y _ s_j48 a0 z1j48 z2j48 H.size h_a0 h) w9_Mo_fit q3729 ⟨Nat.le_of_ble_eq_true rfl, Nat.le_of_ble_eq_true rfl⟩ rfl rfl h_a0 (q := (RMo, TMo, 131)) rfl rfl hl.1 rfl (Nat.le_of_ble_eq_true rfl) rfl ⟨Nat.le_refl _, Nat.le_refl _⟩ d_Mo_fitLocals_48 (fun r_10 s_11 H locs h hP hD hS => ?_)
          refine lv_istore_n (lv' := [(3, .int r_10), (0, .ref (ad a0)), (1, .int x1j48), (2, .int x2j48)]) G.1 G.2.1 d_Mo_fitLocals_51 rfl hl (by decide) rfl (fun ls hl => ?_)
          refine lv_iload_n G.1 G.2.1 d_Mo_fitLocals_52 rfl (lv_at hl 0 rfl) ?_
          refine lv_if_le (tgt := 58) G.1 G.2.1 d_Mo_fitLocals_53 (by decide) (fun c53 => ?_) (fun c53 => ?_)
          · skip
            have h := h.1 c53
            refine lv_iinc (v := x2j48 + 1) (lv' := [(2, .int (x2j48 + 1)), (3, .int r_10), (0, .ref (ad a0)), (1, .int x1j48)]) G.1 G.2.1 d_Mo_fitLocals_58 hl (k := 3) rfl rfl (by decide) rfl (fun ls hl => ?_)
            refine lv_goto (tgt := 2) G.1 G.2.1 d_Mo_fitLocals_61 (by decide) ?_
            have h := hK_2 s_11 x1j48 (x2j48 + 1) h
            exact ih_2 s_11 x1j48 (x2j48 + 1) (Nat.lt_of_lt_of_le h.2 (Nat.le_of_lt_succ hμ_2)) h.1 H locs hP hD hS ls (lv_sub hl [2, 3, 0] rfl)
          · skip
            have h := h.2 c53
            refine lv_iload_n G.1 G.2.1 d_Mo_fitLocals_56 rfl (lv_at hl 0 rfl) ?_
            exact hret _ _ _ _ _ _ _ ls h hP hD hS (Nat.le_refl _) (Nat.le_refl _) d_Mo_fitLocals_57
        refine lv_icmp_ge (tgt := 47) G.1 G.2.1 d_Mo_fitLocals_35 (by decide) (fun c35 => ?_) (fun c35 => ?_)
        · skip
          have h := h.1 c35
          refine lv_iconst (v := 4) G.1 G.2.1 d_Mo_fitLocals_47 (by decide) ?_
          exact J_48 s_h2 x1h2 x2h2 x_5 4 H locs h hP hD hS ls (lv_sub hl [0, 1, 2] rfl)
        · skip
          have h := h.2 c35
          refine lv_aload_n G.1 G.2.1 d_Mo_fitLocals_38 rfl (lv_at hl 0 rfl) ?_
          refine lv_iload_n G.1 G.2.1 d_Mo_fitLocals_39 rfl (lv_at hl 1 rfl) ?_
          refine lv_iload_n G.1 G.2.1 d_Mo_fitLocals_40 rfl (lv_at hl 2 rfl) ?_
          refine W.eq (g2 := F0 m 41 ls [.int x2h2, .int x1h2, .ref (ad a0), .int x_5, .ref (ad a0)]) rfl ?_
          refine ucVi (As := [.int x1h2, .int x2h2]) (rest := [.int x_5, .ref (ad a0)]) G hP hD hS (cu_Mo_frameKind l D g ad y _ s_h2 a0 x1h2 x2h2 H.size h_a0 h) w9_Mo_frameKind q3717 ⟨Nat.le_of_ble_eq_true rfl, Nat.le_of_ble_eq_true rfl⟩ rfl rfl h_a0 (q := (RMo, TMo, 131)) rfl rfl hl.1 rfl (Nat.le_of_ble_eq_true rfl) rfl ⟨Nat.le_refl _, Nat.le_refl _⟩ d_Mo_fitLocals_41 (fun r_12 s_13 H locs h hP hD hS => ?_)
          refine lv_goto (tgt := 48) G.1 G.2.1 d_Mo_fitLocals_44 (by decide) ?_
          exact J_48 s_13 x1h2 x2h2 x_5 r_12 H locs h hP hD hS ls (lv_sub hl [0, 1, 2] rfl)
  exact L_2 _ σ v1 0 (Nat.lt_succ_self _) hI_2 H locs hP hD hS ls (lv_sub hl [1, 2, 0] rfl)
theorem q3725 : Cond.methodLink "ClassWorksModel" 777 y_Mo_fitLocals ∈ lw_ok := lw_okmem (List.mem_of_getElem? (i := 3725) (by decide +kernel)) rfl
theorem q3728 : Cond.code y_Mo_fitLocals b_Mo_fitLocals 4 (some .int) ∈ lw_ok := lw_okmem (List.mem_of_getElem? (i := 3728) (by decide +kernel)) rfl
theorem q3727 : Cond.instanceMethod y_Mo_fitLocals ∈ lw_ok := lw_okmem (List.mem_of_getElem? (i := 3727) (by decide +kernel)) rfl
theorem q228 : Cond.selects y_Mo_fitLocals.cls y_Mo_fitLocals y_Mo_fitLocals ∈ lw_ok := lw_okmem (List.mem_of_getElem? (i := 228) (by decide +kernel)) rfl
theorem w9_Mo_fitLocals : CWv y_Mo_fitLocals b_Mo_fitLocals 4 (some .int) 1 ∧ Cond.instanceMethod y_Mo_fitLocals ∈ lw_ok ∧ Cond.selects y_Mo_fitLocals.cls y_Mo_fitLocals y_Mo_fitLocals ∈ lw_ok := ⟨⟨q3728, q348, by decide +kernel, by decide +kernel, by decide +kernel⟩, q3727, q228⟩
def y_Mo_fitState : MethodName := ⟨"ClassWorksModel", "fitState", "(I)I"⟩
abbrev b_Mo_fitState : ByteArray := prog_14_method_67_code
theorem q3135 : Cond.fieldLink "ClassWorksModel" 308 "ClassWorksModel" "pile" "[I" ∈ lw_ok := lw_okmem (List.mem_of_getElem? (i := 3135) (by decide +kernel)) rfl
theorem d_Mo_fitState_0 : decode b_Mo_fitState 0 = .ok (.aload_n 0, 1) := by decide +kernel
theorem d_Mo_fitState_1 : decode b_Mo_fitState 1 = .ok (.iload_n 1, 1) := by decide +kernel
theorem d_Mo_fitState_2 : decode b_Mo_fitState 2 = .ok (.invokevirtual 777, 3) := by decide +kernel
theorem d_Mo_fitState_5 : decode b_Mo_fitState 5 = .ok (.istore_n 2, 1) := by decide +kernel
theorem d_Mo_fitState_6 : decode b_Mo_fitState 6 = .ok (.iload_n 2, 1) := by decide +kernel
theorem d_Mo_fitState_7 : decode b_Mo_fitState 7 = .ok (.ifCond .le 5, 3) := by decide +kernel
theorem d_Mo_fitState_10 : decode b_Mo_fitState 10 = .ok (.iload_n 2, 1) := by decide +kernel
theorem d_Mo_fitState_11 : decode b_Mo_fitState 11 = .ok (.ireturn, 1) := by decide +kernel
theorem d_Mo_fitState_12 : decode b_Mo_fitState 12 = .ok (.aload_n 0, 1) := by decide +kernel
theorem d_Mo_fitState_13 : decode b_Mo_fitState 13 = .ok (.getfield 780, 3) := by decide +kernel
theorem d_Mo_fitState_16 : decode b_Mo_fitState 16 = .ok (.aload_n 0, 1) := by decide +kernel
theorem d_Mo_fitState_17 : decode b_Mo_fitState 17 = .ok (.getfield 522, 3) := by decide +kernel
theorem d_Mo_fitState_20 : decode b_Mo_fitState 20 = .ok (.getfield 704, 3) := by decide +kernel
theorem d_Mo_fitState_23 : decode b_Mo_fitState 23 = .ok (.iload_n 1, 1) := by decide +kernel
theorem d_Mo_fitState_24 : decode b_Mo_fitState 24 = .ok (.iaload, 1) := by decide +kernel
theorem d_Mo_fitState_25 : decode b_Mo_fitState 25 = .ok (.if_icmp .eq 6, 3) := by decide +kernel
theorem d_Mo_fitState_28 : decode b_Mo_fitState 28 = .ok (.bipush 37, 2) := by decide +kernel
theorem d_Mo_fitState_30 : decode b_Mo_fitState 30 = .ok (.ireturn, 1) := by decide +kernel
theorem d_Mo_fitState_31 : decode b_Mo_fitState 31 = .ok (.iconst 0, 1) := by decide +kernel
theorem d_Mo_fitState_32 : decode b_Mo_fitState 32 = .ok (.istore_n 3, 1) := by decide +kernel
theorem d_Mo_fitState_33 : decode b_Mo_fitState 33 = .ok (.iload_n 3, 1) := by decide +kernel
theorem d_Mo_fitState_34 : decode b_Mo_fitState 34 = .ok (.aload_n 0, 1) := by decide +kernel
theorem d_Mo_fitState_35 : decode b_Mo_fitState 35 = .ok (.getfield 780, 3) := by decide +kernel
theorem d_Mo_fitState_38 : decode b_Mo_fitState 38 = .ok (.if_icmp .ge 40, 3) := by decide +kernel
theorem d_Mo_fitState_41 : decode b_Mo_fitState 41 = .ok (.iload_n 2, 1) := by decide +kernel
theorem d_Mo_fitState_42 : decode b_Mo_fitState 42 = .ok (.ifCond .ne 36, 3) := by decide +kernel
theorem d_Mo_fitState_45 : decode b_Mo_fitState 45 = .ok (.aload_n 0, 1) := by decide +kernel
theorem d_Mo_fitState_46 : decode b_Mo_fitState 46 = .ok (.aload_n 0, 1) := by decide +kernel
theorem d_Mo_fitState_47 : decode b_Mo_fitState 47 = .ok (.getfield 308, 3) := by decide +kernel
theorem d_Mo_fitState_50 : decode b_Mo_fitState 50 = .ok (.iload_n 3, 1) := by decide +kernel
theorem d_Mo_fitState_51 : decode b_Mo_fitState 51 = .ok (.iaload, 1) := by decide +kernel
theorem d_Mo_fitState_52 : decode b_Mo_fitState 52 = .ok (.aload_n 0, 1) := by decide +kernel
theorem d_Mo_fitState_53 : decode b_Mo_fitState 53 = .ok (.iload_n 1, 1) := by decide +kernel
theorem d_Mo_fitState_54 : decode b_Mo_fitState 54 = .ok (.aload_n 0, 1) := by decide +kernel
theorem d_Mo_fitState_55 : decode b_Mo_fitState 55 = .ok (.getfield 522, 3) := by decide +kernel
theorem d_Mo_fitState_58 : decode b_Mo_fitState 58 = .ok (.getfield 701, 3) := by decide +kernel
theorem d_Mo_fitState_61 : decode b_Mo_fitState 61 = .ok (.iload_n 1, 1) := by decide +kernel
theorem d_Mo_fitState_62 : decode b_Mo_fitState 62 = .ok (.iaload, 1) := by decide +kernel
theorem d_Mo_fitState_63 : decode b_Mo_fitState 63 = .ok (.iload_n 3, 1) := by decide +kernel
theorem d_Mo_fitState_64 : decode b_Mo_fitState 64 = .ok (.iadd, 1) := by decide +kernel
theorem d_Mo_fitState_65 : decode b_Mo_fitState 65 = .ok (.invokevirtual 771, 3) := by decide +kernel
theorem d_Mo_fitState_68 : decode b_Mo_fitState 68 = .ok (.invokevirtual 774, 3) := by decide +kernel
theorem d_Mo_fitState_71 : decode b_Mo_fitState 71 = .ok (.istore_n 2, 1) := by decide +kernel
theorem d_Mo_fitState_72 : decode b_Mo_fitState 72 = .ok (.iinc 3 1, 3) := by decide +kernel
theorem d_Mo_fitState_75 : decode b_Mo_fitState 75 = .ok (.goto (-42), 3) := by decide +kernel
theorem d_Mo_fitState_78 : decode b_Mo_fitState 78 = .ok (.iload_n 2, 1) := by decide +kernel
theorem d_Mo_fitState_79 : decode b_Mo_fitState 79 = .ok (.ireturn, 1) := by decide +kernel
abbrev ru_Mo_fitState : Room := { frames := 4, cells := 0, slots := 0, locals := 93 }
def wj_Mo_fitState_78 (y : Ly) (Post : St → Int32 → Prop) (a0 : Nat) (s_j78 : St) (x2j78 : Int32) : Prop := Post s_j78 x2j78
def wb_Mo_fitState_33 (y : Ly) (Post : St → Int32 → Prop) (K_33 : St → Int32 → Int32 → Int32 → Prop) (a0 : Nat) (s_h33 : St) (x1h33 : Int32) (x2h33 : Int32) (x3h33 : Int32) : Prop := (((sV s_h33 a0 72) ≤ x3h33 → wj_Mo_fitState_78 y Post a0 s_h33 x2h33) ∧ (¬ ((sV s_h33 a0 72) ≤ x3h33) → ((¬ x2h33 = 0 → wj_Mo_fitState_78 y Post a0 s_h33 x2h33) ∧ (x2h33 = 0 → xA y s_h33 a0 71 x3h33 (fun x_7 : Int32 => ∃ b_8 : Nat, sO s_h33 a0 45 = some b_8 ∧ cl b_8 = 13 ∧ xA y s_h33 b_8 38 x1h33 (fun x_11 : Int32 => wu_Mo_frameKind y (fun (s_13 : St) (r_12 : Int32) => wu_Mo_fit y (fun (s_15 : St) (r_14 : Int32) => K_33 s_15 x1h33 r_14 (x3h33 + 1)) s_13 a0 x_7 r_12) s_h33 a0 x1h33 (x_11 + x3h33)))))))
def wl_Mo_fitState_33 (y : Ly) (Post : St → Int32 → Prop) (a0 : Nat) (s_h33 : St) (x1h33 : Int32) (x2h33 : Int32) (x3h33 : Int32) : Prop := ∃ (I : St → Int32 → Int32 → Int32 → Prop) (μ : St → Int32 → Int32 → Int32 → Nat), I s_h33 x1h33 x2h33 x3h33 ∧ ∀ (u : St) (t0 : Int32) (t1 : Int32) (t2 : Int32), I u t0 t1 t2 → wb_Mo_fitState_33 y Post (fun z t0q t1q t2q => I z t0q t1q t2q ∧ μ z t0q t1q t2q < μ u t0 t1 t2) a0 u t0 t1 t2
def wu_Mo_fitState (y : Ly) (Post : St → Int32 → Prop) (σ : St) (a0 : Nat) (v1 : Int32) : Prop := wu_Mo_fitLocals y (fun (s_2 : St) (r_1 : Int32) => ((r_1 ≤ 0 → ∃ b_3 : Nat, sO s_2 a0 45 = some b_3 ∧ cl b_3 = 13 ∧ xA y s_2 b_3 39 v1 (fun x_6 : Int32 => (((sV s_2 a0 72) = x_6 → wl_Mo_fitState_33 y Post a0 s_2 v1 r_1 0) ∧ (¬ ((sV s_2 a0 72) = x_6) → Post s_2 37)))) ∧ (¬ (r_1 ≤ 0) → Post s_2 r_1))) σ a0 v1
set_option maxHeartbeats 4000000 in
set_option maxRecDepth 100000 in
theorem cu_Mo_fitState (l : Launch) (D : va_G) (g : Nat → ClassId) (ad : Nat → Nat) (y : Ly) (Post : St → Int32 → Prop) (σ : St) (a0 : Nat) (v1 : Int32) (sz : Nat) (h_a0 : cl a0 = 14) (h : wu_Mo_fitState y Post σ a0 v1) : Met l y_Mo_fitState (mw y_Mo_fitState b_Mo_fitState 4 (some .int)) ru_Mo_fitState (PC g D [] [.ref (ad a0), .int v1] sz (ws g ad y σ)) (va_Qi (fun (r : Int32) (u : St) => Post u r) (QW D (va_A (ws g ad y σ) sz) (fun u => ws g ad y u)) (va_A (ws g ad y σ) sz)) 0 0 (va_A (ws g ad y σ) sz) := by
  refine ofI (by decide +kernel) (Nat.le_of_ble_eq_true rfl) ?_
  intro p e s m args below meth c A Q ls H locs G hsz hP hD hS hl hret
  subst hsz
  have hl : lv_has ls 4 [(0, .ref (ad a0)), (1, .int v1)] := hl
  unfold wu_Mo_fitState at h
  refine lv_aload_n G.1 G.2.1 d_Mo_fitState_0 rfl (lv_at hl 0 rfl) ?_
  refine lv_iload_n G.1 G.2.1 d_Mo_fitState_1 rfl (lv_at hl 1 rfl) ?_
  refine ucVi (As := [.int v1]) (rest := []) G hP hD hS (cu_Mo_fitLocals l D g ad y _ σ a0 v1 H.size h_a0 h) w9_Mo_fitLocals q3725 ⟨Nat.le_of_ble_eq_true rfl, Nat.le_of_ble_eq_true rfl⟩ rfl rfl h_a0 (q := (RMo, TMo, 131)) rfl rfl hl.1 rfl (Nat.le_of_ble_eq_true rfl) rfl ⟨Nat.le_refl _, Nat.le_refl _⟩ d_Mo_fitState_2 (fun r_1 s_2 H locs h hP hD hS => ?_)
  refine lv_istore_n (lv' := [(2, .int r_1), (0, .ref (ad a0)), (1, .int v1)]) G.1 G.2.1 d_Mo_fitState_5 rfl hl (by decide) rfl (fun ls hl => ?_)
  refine lv_iload_n G.1 G.2.1 d_Mo_fitState_6 rfl (lv_at hl 0 rfl) ?_
  refine lv_if_le (tgt := 12) G.1 G.2.1 d_Mo_fitState_7 (by decide) (fun c7 => ?_) (fun c7 => ?_)
  · skip
    have h := h.1 c7
    refine lv_aload_n G.1 G.2.1 d_Mo_fitState_12 rfl (lv_at hl 1 rfl) ?_
    refine ugf (v := .int (sV s_2 a0 72)) G hP h_a0 iMo rfl 72 (by decide) rfl q3136 rfl rfl d_Mo_fitState_13 ?_
    refine lv_aload_n G.1 G.2.1 d_Mo_fitState_16 rfl (lv_at hl 1 rfl) ?_
    obtain ⟨b_3, e_4, c_5, h⟩ := h
    refine ugf (v := .ref (ad b_3)) G hP h_a0 iMo rfl 45 (by decide) rfl q3109 rfl (by show va_rf ((sO s_2 a0 45).map ad) = _; rw [e_4]; rfl) d_Mo_fitState_17 ?_
    refine ugfN (v := .ref (yP y b_3 39)) G hP c_5 iMw rfl 39 (by decide) rfl q2780 rfl rfl d_Mo_fitState_20 ?_
    refine W.eq (g2 := F0 m 23 ls [.ref (yP y b_3 39), .int (sV s_2 a0 72)]) rfl ?_
    refine lv_iload_n G.1 G.2.1 d_Mo_fitState_23 rfl (lv_at hl 2 rfl) ?_
    refine uiald G hP (kdp c_5 rfl) (typ c_5 rfl) h d_Mo_fitState_24 (fun x_6 h => ?_)
    refine lv_icmp_eq (tgt := 31) G.1 G.2.1 d_Mo_fitState_25 (by decide) (fun c25 => ?_) (fun c25 => ?_)
    · skip
      have h := h.1 c25
      refine lv_iconst (v := 0) G.1 G.2.1 d_Mo_fitState_31 (by decide) ?_
      refine lv_istore_n (lv' := [(3, .int 0), (2, .int r_1), (0, .ref (ad a0)), (1, .int v1)]) G.1 G.2.1 d_Mo_fitState_32 rfl hl (by decide) rfl (fun ls hl => ?_)
      unfold wl_Mo_fitState_33 at h
      obtain ⟨I_33, μ_33, hI_33, hB_33⟩ := h
      have L_33 : ∀ (n_33 : Nat) (s_h33 : St) (x1h33 : Int32) (x2h33 : Int32) (x3h33 : Int32), μ_33 s_h33 x1h33 x2h33 x3h33 < n_33 → I_33 s_h33 x1h33 x2h33 x3h33 → ∀ (H : Heap) (locs : List Loc), va_P D CL (ws g ad y s_h33) H → va_D A (ws g ad y s_h33) → va_S A s.heap H locs → ∀ ls, lv_has ls 4 [(0, .ref (ad a0)), (1, .int x1h33), (2, .int x2h33), (3, .int x3h33)] → W p l e ru_Mo_fitState s m args below meth c H locs 0 0 Q (F0 m 33 ls []) := by
        intro n_33
        induction n_33 with
        | zero => intro s_h33 x1h33 x2h33 x3h33 hμ; exact absurd hμ (Nat.not_lt_zero _)
        | succ n_33 ih_33 =>
          intro s_h33 x1h33 x2h33 x3h33 hμ_33 hJ H locs hP hD hS ls hl
          obtain ⟨K_33, hK_33, h⟩ : ∃ K : St → Int32 → Int32 → Int32 → Prop, (∀ z (t0 : Int32) (t1 : Int32) (t2 : Int32), K z t0 t1 t2 → I_33 z t0 t1 t2 ∧ μ_33 z t0 t1 t2 < μ_33 s_h33 x1h33 x2h33 x3h33) ∧ wb_Mo_fitState_33 y Post K a0 s_h33 x1h33 x2h33 x3h33 := ⟨_, fun _ _ _ _ h => h, hB_33 s_h33 x1h33 x2h33 x3h33 hJ⟩
          unfold wb_Mo_fitState_33 at h
          refine lv_iload_n G.1 G.2.1 d_Mo_fitState_33 rfl (lv_at hl 3 rfl) ?_
          refine lv_aload_n G.1 G.2.1 d_Mo_fitState_34 rfl (lv_at hl 0 rfl) ?_
          refine ugf (v := .int (sV s_h33 a0 72)) G hP h_a0 iMo rfl 72 (by decide) rfl q3136 rfl rfl d_Mo_fitState_35 ?_
          have J_78 : ∀ (s_j78 : St) (x2j78 : Int32) (H : Heap) (locs : List Loc), wj_Mo_fitState_78 y Post a0 s_j78 x2j78 → va_P D CL (ws g ad y s_j78) H → va_D A (ws g ad y s_j78) → va_S A s.heap H locs → ∀ ls, lv_has ls 4 [(2, .int x2j78)] → W p l e ru_Mo_fitState s m args below meth c H locs 0 0 Q (F0 m 78 ls []) := by
            intro s_j78 x2j78 H locs h hP hD hS ls hl
            unfold wj_Mo_fitState_78 at h
            refine lv_iload_n G.1 G.2.1 d_Mo_fitState_78 rfl (lv_at hl 0 rfl) ?_
            exact hret _ _ _ _ _ _ _ ls h hP hD hS (Nat.le_refl _) (Nat.le_refl _) d_Mo_fitState_79
          refine lv_icmp_ge (tgt := 78) G.1 G.2.1 d_Mo_fitState_38 (by decide) (fun c38 => ?_) (fun c38 => ?_)
          · skip
            have h := h.1 c38
            exact J_78 s_h33 x2h33 H locs h hP hD hS ls (lv_sub hl [2] rfl)
          · skip
            have h := h.2 c38
            refine lv_iload_n G.1 G.2.1 d_Mo_fitState_41 rfl (lv_at hl 2 rfl) ?_
            refine lv_if_ne (tgt := 78) G.1 G.2.1 d_Mo_fitState_42 (by decide) (fun c42 => ?_) (fun c42 => ?_)
            · skip
              have h := h.1 c42
              exact J_78 s_h33 x2h33 H locs h hP hD hS ls (lv_sub hl [2] rfl)
            · skip
              have h := h.2 c42
              refine lv_aload_n G.1 G.2.1 d_Mo_fitState_45 rfl (lv_at hl 0 rfl) ?_
              refine lv_aload_n G.1 G.2.1 d_Mo_fitState_46 rfl (lv_at hl 0 rfl) ?_
              refine ugf (v := .ref (yP y a0 71)) G hP h_a0 iMo rfl 71 (by decide) rfl q3135 rfl rfl d_Mo_fitState_47 ?_
              refine lv_iload_n G.1 G.2.1 d_Mo_fitState_50 rfl (lv_at hl 3 rfl) ?_
              refine uiald G hP (kdp h_a0 rfl) (typ h_a0 rfl) h d_Mo_fitState_51 (fun x_7 h => ?_)
              refine W.eq (g2 := F0 m 52 ls [.int x_7, .ref (ad a0)]) rfl ?_
              refine lv_aload_n G.1 G.2.1 d_Mo_fitState_52 rfl (lv_at hl 0 rfl) ?_
              refine lv_iload_n G.1 G.2.1 d_Mo_fitState_53 rfl (lv_at hl 1 rfl) ?_
              refine lv_aload_n G.1 G.2.1 d_Mo_fitState_54 rfl (lv_at hl 0 rfl) ?_
              obtain ⟨b_8, e_9, c_10, h⟩ := h
              refine ugf (v := .ref (ad b_8)) G hP h_a0 iMo rfl 45 (by decide) rfl q3109 rfl (by show va_rf ((sO s_h33 a0 45).map ad) = _; rw [e_9]; rfl) d_Mo_fitState_55 ?_
              refine ugfN (v := .ref (yP y b_8 38)) G hP c_10 iMw rfl 38 (by decide) rfl q2778 rfl rfl d_Mo_fitState_58 ?_
              refine lv_iload_n G.1 G.2.1 d_Mo_fitState_61 rfl (lv_at hl 1 rfl) ?_
              refine uiald G hP (kdp c_10 rfl) (typ c_10 rfl) h d_Mo_fitState_62 (fun x_11 h => ?_)
              refine lv_iload_n G.1 G.2.1 d_Mo_fitState_63 rfl (lv_at hl 3 rfl) ?_
              refine lv_iadd G.1 G.2.1 d_Mo_fitState_64 ?_
              refine ucVi (As := [.int x1h33, .int (x_11 + x3h33)]) (rest := [.int x_7, .ref (ad a0)]) G hP hD hS (cu_Mo_frameKind l D g ad y _ s_h33 a0 x1h33 (x_11 + x3h33) H.size h_a0 h) w9_Mo_frameKind q3717 ⟨Nat.le_of_ble_eq_true rfl, Nat.le_of_ble_eq_true rfl⟩ rfl rfl h_a0 (q := (RMo, TMo, 131)) rfl rfl hl.1 rfl (Nat.le_of_ble_eq_true rfl) rfl ⟨Nat.le_refl _, Nat.le_refl _⟩ d_Mo_fitState_65 (fun r_12 s_13 H locs h hP hD hS => ?_)
              refine ucVi (As := [.int x_7, .int r_12]) (rest := []) G hP hD hS (cu_Mo_fit l D g ad y _ s_13 a0 x_7 r_12 H.size h_a0 h) w9_Mo_fit q3729 ⟨Nat.le_of_ble_eq_true rfl, Nat.le_of_ble_eq_true rfl⟩ rfl rfl h_a0 (q := (RMo, TMo, 131)) rfl rfl hl.1 rfl (Nat.le_of_ble_eq_true rfl) rfl ⟨Nat.le_refl _, Nat.le_refl _⟩ d_Mo_fitState_68 (fun r_14 s_15 H locs h hP hD hS => ?_)
              refine lv_istore_n (lv' := [(2, .int r_14), (0, .ref (ad a0)), (1, .int x1h33), (3, .int x3h33)]) G.1 G.2.1 d_Mo_fitState_71 rfl hl (by decide) rfl (fun ls hl => ?_)
              refine W.eq (g2 := F0 m 72 ls []) rfl ?_
              refine lv_iinc (v := x3h33 + 1) (lv' := [(3, .int (x3h33 + 1)), (2, .int r_14), (0, .ref (ad a0)), (1, .int x1h33)]) G.1 G.2.1 d_Mo_fitState_72 hl (k := 3) rfl rfl (by decide) rfl (fun ls hl => ?_)
              refine lv_goto (tgt := 33) G.1 G.2.1 d_Mo_fitState_75 (by decide) ?_
              have h := hK_33 s_15 x1h33 r_14 (x3h33 + 1) h
              exact ih_33 s_15 x1h33 r_14 (x3h33 + 1) (Nat.lt_of_lt_of_le h.2 (Nat.le_of_lt_succ hμ_33)) h.1 H locs hP hD hS ls (lv_sub hl [2, 3, 1, 0] rfl)
      exact L_33 _ s_2 v1 r_1 0 (Nat.lt_succ_self _) hI_33 H locs hP hD hS ls (lv_sub hl [2, 3, 1, 0] rfl)
    · skip
      have h := h.2 c25
      refine lv_bipush (v := 37) G.1 G.2.1 d_Mo_fitState_28 (by decide) ?_
      exact hret _ _ _ _ _ _ _ ls h hP hD hS (Nat.le_refl _) (Nat.le_refl _) d_Mo_fitState_30
  · skip
    have h := h.2 c7
    refine lv_iload_n G.1 G.2.1 d_Mo_fitState_10 rfl (lv_at hl 0 rfl) ?_
    exact hret _ _ _ _ _ _ _ ls h hP hD hS (Nat.le_refl _) (Nat.le_refl _) d_Mo_fitState_11
def y_Mo_record : MethodName := ⟨"ClassWorksModel", "record", "(I)V"⟩
abbrev b_Mo_record : ByteArray := prog_14_method_169_code
theorem q3161 : Cond.fieldLink "ClassWorksModel" 329 "ClassWorksModel" "toldKnown" "[Z" ∈ lw_ok := lw_okmem (List.mem_of_getElem? (i := 3161) (by decide +kernel)) rfl
theorem q3162 : Cond.fieldLink "ClassWorksModel" 332 "ClassWorksModel" "toldHeights" "[I" ∈ lw_ok := lw_okmem (List.mem_of_getElem? (i := 3162) (by decide +kernel)) rfl
theorem q3163 : Cond.fieldLink "ClassWorksModel" 335 "ClassWorksModel" "toldLocals" "[I" ∈ lw_ok := lw_okmem (List.mem_of_getElem? (i := 3163) (by decide +kernel)) rfl
theorem q3166 : Cond.fieldLink "ClassWorksModel" 1254 "ClassWorksModel" "toldCount" "I" ∈ lw_ok := lw_okmem (List.mem_of_getElem? (i := 3166) (by decide +kernel)) rfl
theorem q2595 : Cond.methodLink "ClassWorksModel" 11 arraycopyName ∈ lw_ok := lw_okmem (List.mem_of_getElem? (i := 2595) (by decide +kernel)) rfl
theorem q3164 : Cond.fieldLink "ClassWorksModel" 338 "ClassWorksModel" "toldPiles" "[I" ∈ lw_ok := lw_okmem (List.mem_of_getElem? (i := 3164) (by decide +kernel)) rfl
theorem d_Mo_record_0 : decode b_Mo_record 0 = .ok (.aload_n 0, 1) := by decide +kernel
theorem d_Mo_record_1 : decode b_Mo_record 1 = .ok (.getfield 329, 3) := by decide +kernel
theorem d_Mo_record_4 : decode b_Mo_record 4 = .ok (.iload_n 1, 1) := by decide +kernel
theorem d_Mo_record_5 : decode b_Mo_record 5 = .ok (.iconst 1, 1) := by decide +kernel
theorem d_Mo_record_6 : decode b_Mo_record 6 = .ok (.bastore, 1) := by decide +kernel
theorem d_Mo_record_7 : decode b_Mo_record 7 = .ok (.aload_n 0, 1) := by decide +kernel
theorem d_Mo_record_8 : decode b_Mo_record 8 = .ok (.getfield 332, 3) := by decide +kernel
theorem d_Mo_record_11 : decode b_Mo_record 11 = .ok (.iload_n 1, 1) := by decide +kernel
theorem d_Mo_record_12 : decode b_Mo_record 12 = .ok (.aload_n 0, 1) := by decide +kernel
theorem d_Mo_record_13 : decode b_Mo_record 13 = .ok (.getfield 780, 3) := by decide +kernel
theorem d_Mo_record_16 : decode b_Mo_record 16 = .ok (.iastore, 1) := by decide +kernel
theorem d_Mo_record_17 : decode b_Mo_record 17 = .ok (.aload_n 0, 1) := by decide +kernel
theorem d_Mo_record_18 : decode b_Mo_record 18 = .ok (.getfield 305, 3) := by decide +kernel
theorem d_Mo_record_21 : decode b_Mo_record 21 = .ok (.iconst 0, 1) := by decide +kernel
theorem d_Mo_record_22 : decode b_Mo_record 22 = .ok (.aload_n 0, 1) := by decide +kernel
theorem d_Mo_record_23 : decode b_Mo_record 23 = .ok (.getfield 335, 3) := by decide +kernel
theorem d_Mo_record_26 : decode b_Mo_record 26 = .ok (.bipush 20, 2) := by decide +kernel
theorem d_Mo_record_28 : decode b_Mo_record 28 = .ok (.iload_n 1, 1) := by decide +kernel
theorem d_Mo_record_29 : decode b_Mo_record 29 = .ok (.imul, 1) := by decide +kernel
theorem d_Mo_record_30 : decode b_Mo_record 30 = .ok (.aload_n 0, 1) := by decide +kernel
theorem d_Mo_record_31 : decode b_Mo_record 31 = .ok (.getfield 1254, 3) := by decide +kernel
theorem d_Mo_record_34 : decode b_Mo_record 34 = .ok (.invokestatic 11, 3) := by decide +kernel
theorem d_Mo_record_37 : decode b_Mo_record 37 = .ok (.aload_n 0, 1) := by decide +kernel
theorem d_Mo_record_38 : decode b_Mo_record 38 = .ok (.getfield 308, 3) := by decide +kernel
theorem d_Mo_record_41 : decode b_Mo_record 41 = .ok (.iconst 0, 1) := by decide +kernel
theorem d_Mo_record_42 : decode b_Mo_record 42 = .ok (.aload_n 0, 1) := by decide +kernel
theorem d_Mo_record_43 : decode b_Mo_record 43 = .ok (.getfield 338, 3) := by decide +kernel
theorem d_Mo_record_46 : decode b_Mo_record 46 = .ok (.bipush 28, 2) := by decide +kernel
theorem d_Mo_record_48 : decode b_Mo_record 48 = .ok (.iload_n 1, 1) := by decide +kernel
theorem d_Mo_record_49 : decode b_Mo_record 49 = .ok (.imul, 1) := by decide +kernel
theorem d_Mo_record_50 : decode b_Mo_record 50 = .ok (.aload_n 0, 1) := by decide +kernel
theorem d_Mo_record_51 : decode b_Mo_record 51 = .ok (.getfield 780, 3) := by decide +kernel
theorem d_Mo_record_54 : decode b_Mo_record 54 = .ok (.invokestatic 11, 3) := by decide +kernel
theorem d_Mo_record_57 : decode b_Mo_record 57 = .ok (.return_, 1) := by decide +kernel
abbrev ru_Mo_record : Room := { frames := 1, cells := 0, slots := 0, locals := 120 }
def wu_Mo_record (y : Ly) (Post : St → Prop) (σ : St) (a0 : Nat) (v1 : Int32) : Prop := xS y σ a0 97 v1 (vp_nar .boolean 1) (fun s_1 : St => xS y s_1 a0 98 v1 (sV s_1 a0 72) (fun s_2 : St => xC y s_2 a0 70 a0 99 .int 0 (20 * v1) (sV s_2 a0 102) (fun s_3 : St => xC y s_3 a0 71 a0 100 .int 0 (28 * v1) (sV s_3 a0 72) (fun s_4 : St => Post s_4))))
set_option maxHeartbeats 4000000 in
set_option maxRecDepth 100000 in
theorem cu_Mo_record (l : Launch) (D : va_G) (g : Nat → ClassId) (ad : Nat → Nat) (y : Ly) (Post : St → Prop) (σ : St) (a0 : Nat) (v1 : Int32) (sz : Nat) (h_a0 : cl a0 = 14) (h : wu_Mo_record y Post σ a0 v1) : Met l y_Mo_record (mw y_Mo_record b_Mo_record 2 (none)) ru_Mo_record (PC g D [] [.ref (ad a0), .int v1] sz (ws g ad y σ)) (va_Qv (fun u : St => Post u) (QW D (va_A (ws g ad y σ) sz) (fun u => ws g ad y u)) (va_A (ws g ad y σ) sz)) 0 0 (va_A (ws g ad y σ) sz) := by
  refine ofV (by decide +kernel) (Nat.le_of_ble_eq_true rfl) ?_
  intro p e s m args below meth c A Q ls H locs G hsz hP hD hS hl hret
  subst hsz
  have hl : lv_has ls 2 [(0, .ref (ad a0)), (1, .int v1)] := hl
  unfold wu_Mo_record at h
  refine lv_aload_n G.1 G.2.1 d_Mo_record_0 rfl (lv_at hl 0 rfl) ?_
  refine ugf (v := .ref (yP y a0 97)) G hP h_a0 iMo rfl 97 (by decide) rfl q3161 rfl rfl d_Mo_record_1 ?_
  refine lv_iload_n G.1 G.2.1 d_Mo_record_4 rfl (lv_at hl 1 rfl) ?_
  refine lv_iconst (v := 1) G.1 G.2.1 d_Mo_record_5 (by decide) ?_
  refine uzast G hP hD hS (kdp h_a0 rfl) (typ h_a0 rfl) h d_Mo_record_6 (fun s_1 H locs h hP hD hS => ?_)
  refine lv_aload_n G.1 G.2.1 d_Mo_record_7 rfl (lv_at hl 0 rfl) ?_
  refine ugf (v := .ref (yP y a0 98)) G hP h_a0 iMo rfl 98 (by decide) rfl q3162 rfl rfl d_Mo_record_8 ?_
  refine lv_iload_n G.1 G.2.1 d_Mo_record_11 rfl (lv_at hl 1 rfl) ?_
  refine lv_aload_n G.1 G.2.1 d_Mo_record_12 rfl (lv_at hl 0 rfl) ?_
  refine ugf (v := .int (sV s_1 a0 72)) G hP h_a0 iMo rfl 72 (by decide) rfl q3136 rfl rfl d_Mo_record_13 ?_
  refine uiast G hP hD hS (kdp h_a0 rfl) (typ h_a0 rfl) h d_Mo_record_16 (fun s_2 H locs h hP hD hS => ?_)
  refine W.eq (g2 := F0 m 17 ls []) rfl ?_
  refine lv_aload_n G.1 G.2.1 d_Mo_record_17 rfl (lv_at hl 0 rfl) ?_
  refine ugf (v := .ref (yP y a0 70)) G hP h_a0 iMo rfl 70 (by decide) rfl q3134 rfl rfl d_Mo_record_18 ?_
  refine lv_iconst (v := 0) G.1 G.2.1 d_Mo_record_21 (by decide) ?_
  refine lv_aload_n G.1 G.2.1 d_Mo_record_22 rfl (lv_at hl 0 rfl) ?_
  refine ugf (v := .ref (yP y a0 99)) G hP h_a0 iMo rfl 99 (by decide) rfl q3163 rfl rfl d_Mo_record_23 ?_
  refine lv_bipush (v := 20) G.1 G.2.1 d_Mo_record_26 (by decide) ?_
  refine lv_iload_n G.1 G.2.1 d_Mo_record_28 rfl (lv_at hl 1 rfl) ?_
  refine lv_imul G.1 G.2.1 d_Mo_record_29 ?_
  refine lv_aload_n G.1 G.2.1 d_Mo_record_30 rfl (lv_at hl 0 rfl) ?_
  refine ugf (v := .int (sV s_2 a0 102)) G hP h_a0 iMo rfl 102 (by decide) rfl q3166 rfl rfl d_Mo_record_31 ?_
  refine ucpy G hP hD hS (kdp h_a0 rfl) (typ h_a0 rfl) (kdp h_a0 rfl) (typ h_a0 rfl) rfl rfl h hl.1 q2595 q488 q487 q338 (Nat.le_of_ble_eq_true rfl) (Nat.le_of_ble_eq_true rfl) d_Mo_record_34 (fun s_3 H locs h hP hD hS => ?_)
  refine lv_aload_n G.1 G.2.1 d_Mo_record_37 rfl (lv_at hl 0 rfl) ?_
  refine W.eq (g2 := F0 m 38 ls [.ref (ad a0)]) rfl ?_
  refine ugf (v := .ref (yP y a0 71)) G hP h_a0 iMo rfl 71 (by decide) rfl q3135 rfl rfl d_Mo_record_38 ?_
  refine lv_iconst (v := 0) G.1 G.2.1 d_Mo_record_41 (by decide) ?_
  refine lv_aload_n G.1 G.2.1 d_Mo_record_42 rfl (lv_at hl 0 rfl) ?_
  refine ugf (v := .ref (yP y a0 100)) G hP h_a0 iMo rfl 100 (by decide) rfl q3164 rfl rfl d_Mo_record_43 ?_
  refine lv_bipush (v := 28) G.1 G.2.1 d_Mo_record_46 (by decide) ?_
  refine lv_iload_n G.1 G.2.1 d_Mo_record_48 rfl (lv_at hl 1 rfl) ?_
  refine lv_imul G.1 G.2.1 d_Mo_record_49 ?_
  refine lv_aload_n G.1 G.2.1 d_Mo_record_50 rfl (lv_at hl 0 rfl) ?_
  refine ugf (v := .int (sV s_3 a0 72)) G hP h_a0 iMo rfl 72 (by decide) rfl q3136 rfl rfl d_Mo_record_51 ?_
  refine ucpy G hP hD hS (kdp h_a0 rfl) (typ h_a0 rfl) (kdp h_a0 rfl) (typ h_a0 rfl) rfl rfl h hl.1 q2595 q488 q487 q338 (Nat.le_of_ble_eq_true rfl) (Nat.le_of_ble_eq_true rfl) d_Mo_record_54 (fun s_4 H locs h hP hD hS => ?_)
  exact hret _ _ _ _ _ _ ls h hP hD hS (Nat.le_refl _) (Nat.le_refl _) d_Mo_record_57
theorem q2756 : Cond.fieldLinkNest "ClassWorksModel" 713 "ClassWorksModel$World" "handlerFroms" "[I" "ClassWorksModel" ∈ lw_nest := lw_nestmem (List.mem_of_getElem? (i := 2756) (by decide +kernel)) rfl
theorem q2758 : Cond.fieldLinkNest "ClassWorksModel" 716 "ClassWorksModel$World" "handlerTos" "[I" "ClassWorksModel" ∈ lw_nest := lw_nestmem (List.mem_of_getElem? (i := 2758) (by decide +kernel)) rfl
theorem q2772 : Cond.fieldLinkNest "ClassWorksModel" 686 "ClassWorksModel$World" "codeFrames" "[I" "ClassWorksModel" ∈ lw_nest := lw_nestmem (List.mem_of_getElem? (i := 2772) (by decide +kernel)) rfl
theorem q2760 : Cond.fieldLinkNest "ClassWorksModel" 719 "ClassWorksModel$World" "handlerGoes" "[I" "ClassWorksModel" ∈ lw_nest := lw_nestmem (List.mem_of_getElem? (i := 2760) (by decide +kernel)) rfl
theorem q2762 : Cond.fieldLinkNest "ClassWorksModel" 722 "ClassWorksModel$World" "handlerClasses" "[I" "ClassWorksModel" ∈ lw_nest := lw_nestmem (List.mem_of_getElem? (i := 2762) (by decide +kernel)) rfl
theorem q3713 : Cond.methodLink "ClassWorksModel" 783 y_Mo_isWrongFrame ∈ lw_ok := lw_okmem (List.mem_of_getElem? (i := 3713) (by decide +kernel)) rfl
theorem q3716 : Cond.code y_Mo_isWrongFrame b_Mo_isWrongFrame 7 (some (.boolean)) ∈ lw_ok := lw_okmem (List.mem_of_getElem? (i := 3716) (by decide +kernel)) rfl
theorem q3715 : Cond.instanceMethod y_Mo_isWrongFrame ∈ lw_ok := lw_okmem (List.mem_of_getElem? (i := 3715) (by decide +kernel)) rfl
theorem q225 : Cond.selects y_Mo_isWrongFrame.cls y_Mo_isWrongFrame y_Mo_isWrongFrame ∈ lw_ok := lw_okmem (List.mem_of_getElem? (i := 225) (by decide +kernel)) rfl
theorem w9_Mo_isWrongFrame : CWv y_Mo_isWrongFrame b_Mo_isWrongFrame 7 (some (.boolean)) 1 ∧ Cond.instanceMethod y_Mo_isWrongFrame ∈ lw_ok ∧ Cond.selects y_Mo_isWrongFrame.cls y_Mo_isWrongFrame y_Mo_isWrongFrame ∈ lw_ok := ⟨⟨q3716, q348, by decide +kernel, by decide +kernel, by decide +kernel⟩, q3715, q225⟩
def y_Mo_askHandlers : MethodName := ⟨"ClassWorksModel", "askHandlers", "(I)I"⟩
abbrev b_Mo_askHandlers : ByteArray := prog_14_method_69_code
theorem d_Mo_askHandlers_0 : decode b_Mo_askHandlers 0 = .ok (.bipush 8, 2) := by decide +kernel
theorem d_Mo_askHandlers_2 : decode b_Mo_askHandlers 2 = .ok (.aload_n 0, 1) := by decide +kernel
theorem d_Mo_askHandlers_3 : decode b_Mo_askHandlers 3 = .ok (.getfield 768, 3) := by decide +kernel
theorem d_Mo_askHandlers_6 : decode b_Mo_askHandlers 6 = .ok (.imul, 1) := by decide +kernel
theorem d_Mo_askHandlers_7 : decode b_Mo_askHandlers 7 = .ok (.istore_n 2, 1) := by decide +kernel
theorem d_Mo_askHandlers_8 : decode b_Mo_askHandlers 8 = .ok (.iload_n 2, 1) := by decide +kernel
theorem d_Mo_askHandlers_9 : decode b_Mo_askHandlers 9 = .ok (.bipush 8, 2) := by decide +kernel
theorem d_Mo_askHandlers_11 : decode b_Mo_askHandlers 11 = .ok (.aload_n 0, 1) := by decide +kernel
theorem d_Mo_askHandlers_12 : decode b_Mo_askHandlers 12 = .ok (.getfield 768, 3) := by decide +kernel
theorem d_Mo_askHandlers_15 : decode b_Mo_askHandlers 15 = .ok (.imul, 1) := by decide +kernel
theorem d_Mo_askHandlers_16 : decode b_Mo_askHandlers 16 = .ok (.aload_n 0, 1) := by decide +kernel
theorem d_Mo_askHandlers_17 : decode b_Mo_askHandlers 17 = .ok (.getfield 522, 3) := by decide +kernel
theorem d_Mo_askHandlers_20 : decode b_Mo_askHandlers 20 = .ok (.getfield 468, 3) := by decide +kernel
theorem d_Mo_askHandlers_23 : decode b_Mo_askHandlers 23 = .ok (.aload_n 0, 1) := by decide +kernel
theorem d_Mo_askHandlers_24 : decode b_Mo_askHandlers 24 = .ok (.getfield 768, 3) := by decide +kernel
theorem d_Mo_askHandlers_27 : decode b_Mo_askHandlers 27 = .ok (.iaload, 1) := by decide +kernel
theorem d_Mo_askHandlers_28 : decode b_Mo_askHandlers 28 = .ok (.iadd, 1) := by decide +kernel
theorem d_Mo_askHandlers_29 : decode b_Mo_askHandlers 29 = .ok (.if_icmp .ge 188, 3) := by decide +kernel
theorem d_Mo_askHandlers_32 : decode b_Mo_askHandlers 32 = .ok (.iload_n 1, 1) := by decide +kernel
theorem d_Mo_askHandlers_33 : decode b_Mo_askHandlers 33 = .ok (.aload_n 0, 1) := by decide +kernel
theorem d_Mo_askHandlers_34 : decode b_Mo_askHandlers 34 = .ok (.getfield 522, 3) := by decide +kernel
theorem d_Mo_askHandlers_37 : decode b_Mo_askHandlers 37 = .ok (.getfield 713, 3) := by decide +kernel
theorem d_Mo_askHandlers_40 : decode b_Mo_askHandlers 40 = .ok (.iload_n 2, 1) := by decide +kernel
theorem d_Mo_askHandlers_41 : decode b_Mo_askHandlers 41 = .ok (.iaload, 1) := by decide +kernel
theorem d_Mo_askHandlers_42 : decode b_Mo_askHandlers 42 = .ok (.if_icmp .lt 169, 3) := by decide +kernel
theorem d_Mo_askHandlers_45 : decode b_Mo_askHandlers 45 = .ok (.iload_n 1, 1) := by decide +kernel
theorem d_Mo_askHandlers_46 : decode b_Mo_askHandlers 46 = .ok (.aload_n 0, 1) := by decide +kernel
theorem d_Mo_askHandlers_47 : decode b_Mo_askHandlers 47 = .ok (.getfield 522, 3) := by decide +kernel
theorem d_Mo_askHandlers_50 : decode b_Mo_askHandlers 50 = .ok (.getfield 716, 3) := by decide +kernel
theorem d_Mo_askHandlers_53 : decode b_Mo_askHandlers 53 = .ok (.iload_n 2, 1) := by decide +kernel
theorem d_Mo_askHandlers_54 : decode b_Mo_askHandlers 54 = .ok (.iaload, 1) := by decide +kernel
theorem d_Mo_askHandlers_55 : decode b_Mo_askHandlers 55 = .ok (.if_icmp .lt 6, 3) := by decide +kernel
theorem d_Mo_askHandlers_58 : decode b_Mo_askHandlers 58 = .ok (.goto 153, 3) := by decide +kernel
theorem d_Mo_askHandlers_61 : decode b_Mo_askHandlers 61 = .ok (.aload_n 0, 1) := by decide +kernel
theorem d_Mo_askHandlers_62 : decode b_Mo_askHandlers 62 = .ok (.getfield 522, 3) := by decide +kernel
theorem d_Mo_askHandlers_65 : decode b_Mo_askHandlers 65 = .ok (.getfield 686, 3) := by decide +kernel
theorem d_Mo_askHandlers_68 : decode b_Mo_askHandlers 68 = .ok (.aload_n 0, 1) := by decide +kernel
theorem d_Mo_askHandlers_69 : decode b_Mo_askHandlers 69 = .ok (.getfield 522, 3) := by decide +kernel
theorem d_Mo_askHandlers_72 : decode b_Mo_askHandlers 72 = .ok (.getfield 462, 3) := by decide +kernel
theorem d_Mo_askHandlers_75 : decode b_Mo_askHandlers 75 = .ok (.aload_n 0, 1) := by decide +kernel
theorem d_Mo_askHandlers_76 : decode b_Mo_askHandlers 76 = .ok (.getfield 768, 3) := by decide +kernel
theorem d_Mo_askHandlers_79 : decode b_Mo_askHandlers 79 = .ok (.iaload, 1) := by decide +kernel
theorem d_Mo_askHandlers_80 : decode b_Mo_askHandlers 80 = .ok (.aload_n 0, 1) := by decide +kernel
theorem d_Mo_askHandlers_81 : decode b_Mo_askHandlers 81 = .ok (.getfield 522, 3) := by decide +kernel
theorem d_Mo_askHandlers_84 : decode b_Mo_askHandlers 84 = .ok (.getfield 719, 3) := by decide +kernel
theorem d_Mo_askHandlers_87 : decode b_Mo_askHandlers 87 = .ok (.iload_n 2, 1) := by decide +kernel
theorem d_Mo_askHandlers_88 : decode b_Mo_askHandlers 88 = .ok (.iaload, 1) := by decide +kernel
theorem d_Mo_askHandlers_89 : decode b_Mo_askHandlers 89 = .ok (.iadd, 1) := by decide +kernel
theorem d_Mo_askHandlers_90 : decode b_Mo_askHandlers 90 = .ok (.iaload, 1) := by decide +kernel
theorem d_Mo_askHandlers_91 : decode b_Mo_askHandlers 91 = .ok (.iconst 1, 1) := by decide +kernel
theorem d_Mo_askHandlers_92 : decode b_Mo_askHandlers 92 = .ok (.isub, 1) := by decide +kernel
theorem d_Mo_askHandlers_93 : decode b_Mo_askHandlers 93 = .ok (.istore_n 3, 1) := by decide +kernel
theorem d_Mo_askHandlers_94 : decode b_Mo_askHandlers 94 = .ok (.iload_n 3, 1) := by decide +kernel
theorem d_Mo_askHandlers_95 : decode b_Mo_askHandlers 95 = .ok (.ifCond .ge 8, 3) := by decide +kernel
theorem d_Mo_askHandlers_98 : decode b_Mo_askHandlers 98 = .ok (.bipush 36, 2) := by decide +kernel
theorem d_Mo_askHandlers_100 : decode b_Mo_askHandlers 100 = .ok (.goto 39, 3) := by decide +kernel
theorem d_Mo_askHandlers_103 : decode b_Mo_askHandlers 103 = .ok (.aload_n 0, 1) := by decide +kernel
theorem d_Mo_askHandlers_104 : decode b_Mo_askHandlers 104 = .ok (.iload_n 3, 1) := by decide +kernel
theorem d_Mo_askHandlers_105 : decode b_Mo_askHandlers 105 = .ok (.invokevirtual 783, 3) := by decide +kernel
theorem d_Mo_askHandlers_108 : decode b_Mo_askHandlers 108 = .ok (.ifCond .eq 8, 3) := by decide +kernel
theorem d_Mo_askHandlers_111 : decode b_Mo_askHandlers 111 = .ok (.bipush 38, 2) := by decide +kernel
theorem d_Mo_askHandlers_113 : decode b_Mo_askHandlers 113 = .ok (.goto 26, 3) := by decide +kernel
theorem d_Mo_askHandlers_116 : decode b_Mo_askHandlers 116 = .ok (.aload_n 0, 1) := by decide +kernel
theorem d_Mo_askHandlers_117 : decode b_Mo_askHandlers 117 = .ok (.getfield 522, 3) := by decide +kernel
theorem d_Mo_askHandlers_120 : decode b_Mo_askHandlers 120 = .ok (.getfield 704, 3) := by decide +kernel
theorem d_Mo_askHandlers_123 : decode b_Mo_askHandlers 123 = .ok (.iload_n 3, 1) := by decide +kernel
theorem d_Mo_askHandlers_124 : decode b_Mo_askHandlers 124 = .ok (.iaload, 1) := by decide +kernel
theorem d_Mo_askHandlers_125 : decode b_Mo_askHandlers 125 = .ok (.iconst 1, 1) := by decide +kernel
theorem d_Mo_askHandlers_126 : decode b_Mo_askHandlers 126 = .ok (.if_icmp .eq 8, 3) := by decide +kernel
theorem d_Mo_askHandlers_129 : decode b_Mo_askHandlers 129 = .ok (.bipush 37, 2) := by decide +kernel
theorem d_Mo_askHandlers_131 : decode b_Mo_askHandlers 131 = .ok (.goto 8, 3) := by decide +kernel
theorem d_Mo_askHandlers_134 : decode b_Mo_askHandlers 134 = .ok (.aload_n 0, 1) := by decide +kernel
theorem d_Mo_askHandlers_135 : decode b_Mo_askHandlers 135 = .ok (.iload_n 3, 1) := by decide +kernel
theorem d_Mo_askHandlers_136 : decode b_Mo_askHandlers 136 = .ok (.invokevirtual 777, 3) := by decide +kernel
theorem d_Mo_askHandlers_139 : decode b_Mo_askHandlers 139 = .ok (.istore 4, 2) := by decide +kernel
theorem d_Mo_askHandlers_141 : decode b_Mo_askHandlers 141 = .ok (.iload 4, 2) := by decide +kernel
theorem d_Mo_askHandlers_143 : decode b_Mo_askHandlers 143 = .ok (.ifCond .ne 60, 3) := by decide +kernel
theorem d_Mo_askHandlers_146 : decode b_Mo_askHandlers 146 = .ok (.aload_n 0, 1) := by decide +kernel
theorem d_Mo_askHandlers_147 : decode b_Mo_askHandlers 147 = .ok (.getfield 522, 3) := by decide +kernel
theorem d_Mo_askHandlers_150 : decode b_Mo_askHandlers 150 = .ok (.getfield 722, 3) := by decide +kernel
theorem d_Mo_askHandlers_153 : decode b_Mo_askHandlers 153 = .ok (.iload_n 2, 1) := by decide +kernel
theorem d_Mo_askHandlers_154 : decode b_Mo_askHandlers 154 = .ok (.iaload, 1) := by decide +kernel
theorem d_Mo_askHandlers_155 : decode b_Mo_askHandlers 155 = .ok (.ifCond .ge 12, 3) := by decide +kernel
theorem d_Mo_askHandlers_158 : decode b_Mo_askHandlers 158 = .ok (.aload_n 0, 1) := by decide +kernel
theorem d_Mo_askHandlers_159 : decode b_Mo_askHandlers 159 = .ok (.getfield 153, 3) := by decide +kernel
theorem d_Mo_askHandlers_162 : decode b_Mo_askHandlers 162 = .ok (.iconst 1, 1) := by decide +kernel
theorem d_Mo_askHandlers_163 : decode b_Mo_askHandlers 163 = .ok (.iadd, 1) := by decide +kernel
theorem d_Mo_askHandlers_164 : decode b_Mo_askHandlers 164 = .ok (.goto 12, 3) := by decide +kernel
theorem d_Mo_askHandlers_167 : decode b_Mo_askHandlers 167 = .ok (.aload_n 0, 1) := by decide +kernel
theorem d_Mo_askHandlers_168 : decode b_Mo_askHandlers 168 = .ok (.getfield 522, 3) := by decide +kernel
theorem d_Mo_askHandlers_171 : decode b_Mo_askHandlers 171 = .ok (.getfield 722, 3) := by decide +kernel
theorem d_Mo_askHandlers_174 : decode b_Mo_askHandlers 174 = .ok (.iload_n 2, 1) := by decide +kernel
theorem d_Mo_askHandlers_175 : decode b_Mo_askHandlers 175 = .ok (.iaload, 1) := by decide +kernel
theorem d_Mo_askHandlers_176 : decode b_Mo_askHandlers 176 = .ok (.istore 5, 2) := by decide +kernel
theorem d_Mo_askHandlers_178 : decode b_Mo_askHandlers 178 = .ok (.aload_n 0, 1) := by decide +kernel
theorem d_Mo_askHandlers_179 : decode b_Mo_askHandlers 179 = .ok (.bipush 16, 2) := by decide +kernel
theorem d_Mo_askHandlers_181 : decode b_Mo_askHandlers 181 = .ok (.iload 5, 2) := by decide +kernel
theorem d_Mo_askHandlers_183 : decode b_Mo_askHandlers 183 = .ok (.iadd, 1) := by decide +kernel
theorem d_Mo_askHandlers_184 : decode b_Mo_askHandlers 184 = .ok (.aload_n 0, 1) := by decide +kernel
theorem d_Mo_askHandlers_185 : decode b_Mo_askHandlers 185 = .ok (.iload_n 3, 1) := by decide +kernel
theorem d_Mo_askHandlers_186 : decode b_Mo_askHandlers 186 = .ok (.aload_n 0, 1) := by decide +kernel
theorem d_Mo_askHandlers_187 : decode b_Mo_askHandlers 187 = .ok (.getfield 522, 3) := by decide +kernel
theorem d_Mo_askHandlers_190 : decode b_Mo_askHandlers 190 = .ok (.getfield 701, 3) := by decide +kernel
theorem d_Mo_askHandlers_193 : decode b_Mo_askHandlers 193 = .ok (.iload_n 3, 1) := by decide +kernel
theorem d_Mo_askHandlers_194 : decode b_Mo_askHandlers 194 = .ok (.iaload, 1) := by decide +kernel
theorem d_Mo_askHandlers_195 : decode b_Mo_askHandlers 195 = .ok (.invokevirtual 771, 3) := by decide +kernel
theorem d_Mo_askHandlers_198 : decode b_Mo_askHandlers 198 = .ok (.invokevirtual 774, 3) := by decide +kernel
theorem d_Mo_askHandlers_201 : decode b_Mo_askHandlers 201 = .ok (.istore 4, 2) := by decide +kernel
theorem d_Mo_askHandlers_203 : decode b_Mo_askHandlers 203 = .ok (.iload 4, 2) := by decide +kernel
theorem d_Mo_askHandlers_205 : decode b_Mo_askHandlers 205 = .ok (.ifCond .le 6, 3) := by decide +kernel
theorem d_Mo_askHandlers_208 : decode b_Mo_askHandlers 208 = .ok (.iload 4, 2) := by decide +kernel
theorem d_Mo_askHandlers_210 : decode b_Mo_askHandlers 210 = .ok (.ireturn, 1) := by decide +kernel
theorem d_Mo_askHandlers_211 : decode b_Mo_askHandlers 211 = .ok (.iinc 2 1, 3) := by decide +kernel
theorem d_Mo_askHandlers_214 : decode b_Mo_askHandlers 214 = .ok (.goto (-206), 3) := by decide +kernel
theorem d_Mo_askHandlers_217 : decode b_Mo_askHandlers 217 = .ok (.iconst 0, 1) := by decide +kernel
theorem d_Mo_askHandlers_218 : decode b_Mo_askHandlers 218 = .ok (.ireturn, 1) := by decide +kernel
abbrev ru_Mo_askHandlers : Room := { frames := 4, cells := 0, slots := 0, locals := 93 }
def wj_Mo_askHandlers_211 (y : Ly) (Post : St → Int32 → Prop) (K_8 : St → Int32 → Int32 → Prop) (a0 : Nat) (s_j211 : St) (x1j211 : Int32) (x2j211 : Int32) : Prop := K_8 s_j211 x1j211 (x2j211 + 1)
def wj_Mo_askHandlers_203 (y : Ly) (Post : St → Int32 → Prop) (K_8 : St → Int32 → Int32 → Prop) (a0 : Nat) (s_j203 : St) (x1j203 : Int32) (x2j203 : Int32) (x4j203 : Int32) : Prop := ((x4j203 ≤ 0 → wj_Mo_askHandlers_211 y Post K_8 a0 s_j203 x1j203 x2j203) ∧ (¬ (x4j203 ≤ 0) → Post s_j203 x4j203))
def wj_Mo_askHandlers_176 (y : Ly) (Post : St → Int32 → Prop) (K_8 : St → Int32 → Int32 → Prop) (a0 : Nat) (s_j176 : St) (x1j176 : Int32) (x2j176 : Int32) (x3j176 : Int32) (z0j176 : Int32) : Prop := ∃ b_29 : Nat, sO s_j176 a0 45 = some b_29 ∧ cl b_29 = 13 ∧ xA y s_j176 b_29 38 x3j176 (fun x_32 : Int32 => wu_Mo_frameKind y (fun (s_34 : St) (r_33 : Int32) => wu_Mo_fit y (fun (s_36 : St) (r_35 : Int32) => wj_Mo_askHandlers_203 y Post K_8 a0 s_36 x1j176 x2j176 r_35) s_34 a0 (16 + z0j176) r_33) s_j176 a0 x3j176 x_32)
def wj_Mo_askHandlers_139 (y : Ly) (Post : St → Int32 → Prop) (K_8 : St → Int32 → Int32 → Prop) (a0 : Nat) (s_j139 : St) (x1j139 : Int32) (x2j139 : Int32) (x3j139 : Int32) (z0j139 : Int32) : Prop := ((¬ z0j139 = 0 → wj_Mo_askHandlers_203 y Post K_8 a0 s_j139 x1j139 x2j139 z0j139) ∧ (z0j139 = 0 → ∃ b_25 : Nat, sO s_j139 a0 45 = some b_25 ∧ cl b_25 = 13 ∧ xA y s_j139 b_25 29 x2j139 (fun x_28 : Int32 => ((0 ≤ x_28 → ∃ b_37 : Nat, sO s_j139 a0 45 = some b_37 ∧ cl b_37 = 13 ∧ xA y s_j139 b_37 29 x2j139 (fun x_40 : Int32 => wj_Mo_askHandlers_176 y Post K_8 a0 s_j139 x1j139 x2j139 x3j139 x_40)) ∧ (¬ (0 ≤ x_28) → wj_Mo_askHandlers_176 y Post K_8 a0 s_j139 x1j139 x2j139 x3j139 ((sV s_j139 a0 8) + 1))))))
def wb_Mo_askHandlers_8 (y : Ly) (Post : St → Int32 → Prop) (K_8 : St → Int32 → Int32 → Prop) (a0 : Nat) (s_h8 : St) (x1h8 : Int32) (x2h8 : Int32) : Prop := ∃ b_1 : Nat, sO s_h8 a0 45 = some b_1 ∧ cl b_1 = 13 ∧ xA y s_h8 b_1 25 (sV s_h8 a0 75) (fun x_4 : Int32 => ((((8 * (sV s_h8 a0 75)) + x_4) ≤ x2h8 → Post s_h8 0) ∧ (¬ (((8 * (sV s_h8 a0 75)) + x_4) ≤ x2h8) → ∃ b_5 : Nat, sO s_h8 a0 45 = some b_5 ∧ cl b_5 = 13 ∧ xA y s_h8 b_5 26 x2h8 (fun x_8 : Int32 => ((x1h8 < x_8 → wj_Mo_askHandlers_211 y Post K_8 a0 s_h8 x1h8 x2h8) ∧ (¬ (x1h8 < x_8) → ∃ b_9 : Nat, sO s_h8 a0 45 = some b_9 ∧ cl b_9 = 13 ∧ xA y s_h8 b_9 27 x2h8 (fun x_12 : Int32 => ((x1h8 < x_12 → ∃ b_13 : Nat, sO s_h8 a0 45 = some b_13 ∧ cl b_13 = 13 ∧ ∃ b_16 : Nat, sO s_h8 a0 45 = some b_16 ∧ cl b_16 = 13 ∧ xA y s_h8 b_16 23 (sV s_h8 a0 75) (fun x_19 : Int32 => ∃ b_20 : Nat, sO s_h8 a0 45 = some b_20 ∧ cl b_20 = 13 ∧ xA y s_h8 b_20 28 x2h8 (fun x_23 : Int32 => xA y s_h8 b_13 34 (x_19 + x_23) (fun x_24 : Int32 => ((0 ≤ (x_24 - 1) → wu_Mo_isWrongFrame y (fun (s_42 : St) (r_41 : Int32) => ((r_41 = 0 → ∃ b_43 : Nat, sO s_42 a0 45 = some b_43 ∧ cl b_43 = 13 ∧ xA y s_42 b_43 39 (x_24 - 1) (fun x_46 : Int32 => ((x_46 = 1 → wu_Mo_fitLocals y (fun (s_48 : St) (r_47 : Int32) => wj_Mo_askHandlers_139 y Post K_8 a0 s_48 x1h8 x2h8 (x_24 - 1) r_47) s_42 a0 (x_24 - 1)) ∧ (¬ (x_46 = 1) → wj_Mo_askHandlers_139 y Post K_8 a0 s_42 x1h8 x2h8 (x_24 - 1) 37)))) ∧ (¬ (r_41 = 0) → wj_Mo_askHandlers_139 y Post K_8 a0 s_42 x1h8 x2h8 (x_24 - 1) 38))) s_h8 a0 (x_24 - 1)) ∧ (¬ (0 ≤ (x_24 - 1)) → wj_Mo_askHandlers_139 y Post K_8 a0 s_h8 x1h8 x2h8 (x_24 - 1) 36)))))) ∧ (¬ (x1h8 < x_12) → wj_Mo_askHandlers_211 y Post K_8 a0 s_h8 x1h8 x2h8)))))))))
def wl_Mo_askHandlers_8 (y : Ly) (Post : St → Int32 → Prop) (a0 : Nat) (s_h8 : St) (x1h8 : Int32) (x2h8 : Int32) : Prop := ∃ (I : St → Int32 → Int32 → Prop) (μ : St → Int32 → Int32 → Nat), I s_h8 x1h8 x2h8 ∧ ∀ (u : St) (t0 : Int32) (t1 : Int32), I u t0 t1 → wb_Mo_askHandlers_8 y Post (fun z t0q t1q => I z t0q t1q ∧ μ z t0q t1q < μ u t0 t1) a0 u t0 t1
def wu_Mo_askHandlers (y : Ly) (Post : St → Int32 → Prop) (σ : St) (a0 : Nat) (v1 : Int32) : Prop := wl_Mo_askHandlers_8 y Post a0 σ v1 (8 * (sV σ a0 75))
set_option maxHeartbeats 4000000 in
set_option maxRecDepth 100000 in
theorem cu_Mo_askHandlers (l : Launch) (D : va_G) (g : Nat → ClassId) (ad : Nat → Nat) (y : Ly) (Post : St → Int32 → Prop) (σ : St) (a0 : Nat) (v1 : Int32) (sz : Nat) (h_a0 : cl a0 = 14) (h : wu_Mo_askHandlers y Post σ a0 v1) : Met l y_Mo_askHandlers (mw y_Mo_askHandlers b_Mo_askHandlers 6 (some .int)) ru_Mo_askHandlers (PC g D [] [.ref (ad a0), .int v1] sz (ws g ad y σ)) (va_Qi (fun (r : Int32) (u : St) => Post u r) (QW D (va_A (ws g ad y σ) sz) (fun u => ws g ad y u)) (va_A (ws g ad y σ) sz)) 0 0 (va_A (ws g ad y σ) sz) := by
  refine ofI (by decide +kernel) (Nat.le_of_ble_eq_true rfl) ?_
  intro p e s m args below meth c A Q ls H locs G hsz hP hD hS hl hret
  subst hsz
  have hl : lv_has ls 6 [(0, .ref (ad a0)), (1, .int v1)] := hl
  unfold wu_Mo_askHandlers at h
  refine lv_bipush (v := 8) G.1 G.2.1 d_Mo_askHandlers_0 (by decide) ?_
  refine lv_aload_n G.1 G.2.1 d_Mo_askHandlers_2 rfl (lv_at hl 0 rfl) ?_
  refine ugf (v := .int (sV σ a0 75)) G hP h_a0 iMo rfl 75 (by decide) rfl q3139 rfl rfl d_Mo_askHandlers_3 ?_
  refine lv_imul G.1 G.2.1 d_Mo_askHandlers_6 ?_
  refine lv_istore_n (lv' := [(2, .int (8 * (sV σ a0 75))), (0, .ref (ad a0)), (1, .int v1)]) G.1 G.2.1 d_Mo_askHandlers_7 rfl hl (by decide) rfl (fun ls hl => ?_)
  unfold wl_Mo_askHandlers_8 at h
  obtain ⟨I_8, μ_8, hI_8, hB_8⟩ := h
  have L_8 : ∀ (n_8 : Nat) (s_h8 : St) (x1h8 : Int32) (x2h8 : Int32), μ_8 s_h8 x1h8 x2h8 < n_8 → I_8 s_h8 x1h8 x2h8 → ∀ (H : Heap) (locs : List Loc), va_P D CL (ws g ad y s_h8) H → va_D A (ws g ad y s_h8) → va_S A s.heap H locs → ∀ ls, lv_has ls 6 [(0, .ref (ad a0)), (1, .int x1h8), (2, .int x2h8)] → W p l e ru_Mo_askHandlers s m args below meth c H locs 0 0 Q (F0 m 8 ls []) := by
    intro n_8
    induction n_8 with
    | zero => intro s_h8 x1h8 x2h8 hμ; exact absurd hμ (Nat.not_lt_zero _)
    | succ n_8 ih_8 =>
      intro s_h8 x1h8 x2h8 hμ_8 hJ H locs hP hD hS ls hl
      obtain ⟨K_8, hK_8, h⟩ : ∃ K : St → Int32 → Int32 → Prop, (∀ z (t0 : Int32) (t1 : Int32), K z t0 t1 → I_8 z t0 t1 ∧ μ_8 z t0 t1 < μ_8 s_h8 x1h8 x2h8) ∧ wb_Mo_askHandlers_8 y Post K a0 s_h8 x1h8 x2h8 := ⟨_, fun _ _ _ h => h, hB_8 s_h8 x1h8 x2h8 hJ⟩
      unfold wb_Mo_askHandlers_8 at h
      refine lv_iload_n G.1 G.2.1 d_Mo_askHandlers_8 rfl (lv_at hl 2 rfl) ?_
      refine lv_bipush (v := 8) G.1 G.2.1 d_Mo_askHandlers_9 (by decide) ?_
      refine lv_aload_n G.1 G.2.1 d_Mo_askHandlers_11 rfl (lv_at hl 0 rfl) ?_
      refine ugf (v := .int (sV s_h8 a0 75)) G hP h_a0 iMo rfl 75 (by decide) rfl q3139 rfl rfl d_Mo_askHandlers_12 ?_
      refine lv_imul G.1 G.2.1 d_Mo_askHandlers_15 ?_
      refine lv_aload_n G.1 G.2.1 d_Mo_askHandlers_16 rfl (lv_at hl 0 rfl) ?_
      obtain ⟨b_1, e_2, c_3, h⟩ := h
      refine ugf (v := .ref (ad b_1)) G hP h_a0 iMo rfl 45 (by decide) rfl q3109 rfl (by show va_rf ((sO s_h8 a0 45).map ad) = _; rw [e_2]; rfl) d_Mo_askHandlers_17 ?_
      refine ugfN (v := .ref (yP y b_1 25)) G hP c_3 iMw rfl 25 (by decide) rfl q2754 rfl rfl d_Mo_askHandlers_20 ?_
      refine lv_aload_n G.1 G.2.1 d_Mo_askHandlers_23 rfl (lv_at hl 0 rfl) ?_
      refine ugf (v := .int (sV s_h8 a0 75)) G hP h_a0 iMo rfl 75 (by decide) rfl q3139 rfl rfl d_Mo_askHandlers_24 ?_
      refine uiald G hP (kdp c_3 rfl) (typ c_3 rfl) h d_Mo_askHandlers_27 (fun x_4 h => ?_)
      refine W.eq (g2 := F0 m 28 ls [.int x_4, .int (8 * (sV s_h8 a0 75)), .int x2h8]) rfl ?_
      refine lv_iadd G.1 G.2.1 d_Mo_askHandlers_28 ?_
      refine lv_icmp_ge (tgt := 217) G.1 G.2.1 d_Mo_askHandlers_29 (by decide) (fun c29 => ?_) (fun c29 => ?_)
      · skip
        have h := h.1 c29
        refine lv_iconst (v := 0) G.1 G.2.1 d_Mo_askHandlers_217 (by decide) ?_
        exact hret _ _ _ _ _ _ _ ls h hP hD hS (Nat.le_refl _) (Nat.le_refl _) d_Mo_askHandlers_218
      · skip
        have h := h.2 c29
        refine lv_iload_n G.1 G.2.1 d_Mo_askHandlers_32 rfl (lv_at hl 1 rfl) ?_
        refine lv_aload_n G.1 G.2.1 d_Mo_askHandlers_33 rfl (lv_at hl 0 rfl) ?_
        obtain ⟨b_5, e_6, c_7, h⟩ := h
        refine ugf (v := .ref (ad b_5)) G hP h_a0 iMo rfl 45 (by decide) rfl q3109 rfl (by show va_rf ((sO s_h8 a0 45).map ad) = _; rw [e_6]; rfl) d_Mo_askHandlers_34 ?_
        refine ugfN (v := .ref (yP y b_5 26)) G hP c_7 iMw rfl 26 (by decide) rfl q2756 rfl rfl d_Mo_askHandlers_37 ?_
        refine lv_iload_n G.1 G.2.1 d_Mo_askHandlers_40 rfl (lv_at hl 2 rfl) ?_
        refine uiald G hP (kdp c_7 rfl) (typ c_7 rfl) h d_Mo_askHandlers_41 (fun x_8 h => ?_)
        have J_211 : ∀ (s_j211 : St) (x1j211 : Int32) (x2j211 : Int32) (H : Heap) (locs : List Loc), wj_Mo_askHandlers_211 y Post K_8 a0 s_j211 x1j211 x2j211 → va_P D CL (ws g ad y s_j211) H → va_D A (ws g ad y s_j211) → va_S A s.heap H locs → ∀ ls, lv_has ls 6 [(0, .ref (ad a0)), (1, .int x1j211), (2, .int x2j211)] → W p l e ru_Mo_askHandlers s m args below meth c H locs 0 0 Q (F0 m 211 ls []) := by
          intro s_j211 x1j211 x2j211 H locs h hP hD hS ls hl
          unfold wj_Mo_askHandlers_211 at h
          refine lv_iinc (v := x2j211 + 1) (lv' := [(2, .int (x2j211 + 1)), (0, .ref (ad a0)), (1, .int x1j211)]) G.1 G.2.1 d_Mo_askHandlers_211 hl (k := 2) rfl rfl (by decide) rfl (fun ls hl => ?_)
          refine lv_goto (tgt := 8) G.1 G.2.1 d_Mo_askHandlers_214 (by decide) ?_
          have h := hK_8 s_j211 x1j211 (x2j211 + 1) h
          exact ih_8 s_j211 x1j211 (x2j211 + 1) (Nat.lt_of_lt_of_le h.2 (Nat.le_of_lt_succ hμ_8)) h.1 H locs hP hD hS ls (lv_sub hl [1, 2, 0] rfl)
        refine lv_icmp_lt (tgt := 211) G.1 G.2.1 d_Mo_askHandlers_42 (by decide) (fun c42 => ?_) (fun c42 => ?_)
        · skip
          have h := h.1 c42
          exact J_211 s_h8 x1h8 x2h8 H locs h hP hD hS ls (lv_sub hl [0, 1, 2] rfl)
        · skip
          have h := h.2 c42
          refine lv_iload_n G.1 G.2.1 d_Mo_askHandlers_45 rfl (lv_at hl 1 rfl) ?_
          refine lv_aload_n G.1 G.2.1 d_Mo_askHandlers_46 rfl (lv_at hl 0 rfl) ?_
          obtain ⟨b_9, e_10, c_11, h⟩ := h
          refine ugf (v := .ref (ad b_9)) G hP h_a0 iMo rfl 45 (by decide) rfl q3109 rfl (by show va_rf ((sO s_h8 a0 45).map ad) = _; rw [e_10]; rfl) d_Mo_askHandlers_47 ?_
          refine W.eq (g2 := F0 m 50 ls [.ref (ad b_9), .int x1h8]) rfl ?_
          refine ugfN (v := .ref (yP y b_9 27)) G hP c_11 iMw rfl 27 (by decide) rfl q2758 rfl rfl d_Mo_askHandlers_50 ?_
          refine lv_iload_n G.1 G.2.1 d_Mo_askHandlers_53 rfl (lv_at hl 2 rfl) ?_
          refine uiald G hP (kdp c_11 rfl) (typ c_11 rfl) h d_Mo_askHandlers_54 (fun x_12 h => ?_)
          refine lv_icmp_lt (tgt := 61) G.1 G.2.1 d_Mo_askHandlers_55 (by decide) (fun c55 => ?_) (fun c55 => ?_)
          · skip
            have h := h.1 c55
            refine lv_aload_n G.1 G.2.1 d_Mo_askHandlers_61 rfl (lv_at hl 0 rfl) ?_
            obtain ⟨b_13, e_14, c_15, h⟩ := h
            refine ugf (v := .ref (ad b_13)) G hP h_a0 iMo rfl 45 (by decide) rfl q3109 rfl (by show va_rf ((sO s_h8 a0 45).map ad) = _; rw [e_14]; rfl) d_Mo_askHandlers_62 ?_
            refine ugfN (v := .ref (yP y b_13 34)) G hP c_15 iMw rfl 34 (by decide) rfl q2772 rfl rfl d_Mo_askHandlers_65 ?_
            refine lv_aload_n G.1 G.2.1 d_Mo_askHandlers_68 rfl (lv_at hl 0 rfl) ?_
            obtain ⟨b_16, e_17, c_18, h⟩ := h
            refine ugf (v := .ref (ad b_16)) G hP h_a0 iMo rfl 45 (by decide) rfl q3109 rfl (by show va_rf ((sO s_h8 a0 45).map ad) = _; rw [e_17]; rfl) d_Mo_askHandlers_69 ?_
            refine ugfN (v := .ref (yP y b_16 23)) G hP c_18 iMw rfl 23 (by decide) rfl q2750 rfl rfl d_Mo_askHandlers_72 ?_
            refine lv_aload_n G.1 G.2.1 d_Mo_askHandlers_75 rfl (lv_at hl 0 rfl) ?_
            refine ugf (v := .int (sV s_h8 a0 75)) G hP h_a0 iMo rfl 75 (by decide) rfl q3139 rfl rfl d_Mo_askHandlers_76 ?_
            refine W.eq (g2 := F0 m 79 ls [.int (sV s_h8 a0 75), .ref (yP y b_16 23), .ref (yP y b_13 34)]) rfl ?_
            refine uiald G hP (kdp c_18 rfl) (typ c_18 rfl) h d_Mo_askHandlers_79 (fun x_19 h => ?_)
            refine lv_aload_n G.1 G.2.1 d_Mo_askHandlers_80 rfl (lv_at hl 0 rfl) ?_
            obtain ⟨b_20, e_21, c_22, h⟩ := h
            refine ugf (v := .ref (ad b_20)) G hP h_a0 iMo rfl 45 (by decide) rfl q3109 rfl (by show va_rf ((sO s_h8 a0 45).map ad) = _; rw [e_21]; rfl) d_Mo_askHandlers_81 ?_
            refine ugfN (v := .ref (yP y b_20 28)) G hP c_22 iMw rfl 28 (by decide) rfl q2760 rfl rfl d_Mo_askHandlers_84 ?_
            refine lv_iload_n G.1 G.2.1 d_Mo_askHandlers_87 rfl (lv_at hl 2 rfl) ?_
            refine uiald G hP (kdp c_22 rfl) (typ c_22 rfl) h d_Mo_askHandlers_88 (fun x_23 h => ?_)
            refine lv_iadd G.1 G.2.1 d_Mo_askHandlers_89 ?_
            refine uiald G hP (kdp c_15 rfl) (typ c_15 rfl) h d_Mo_askHandlers_90 (fun x_24 h => ?_)
            refine lv_iconst (v := 1) G.1 G.2.1 d_Mo_askHandlers_91 (by decide) ?_
            refine lv_isub G.1 G.2.1 d_Mo_askHandlers_92 ?_
            refine lv_istore_n (lv' := [(3, .int (x_24 - 1)), (0, .ref (ad a0)), (1, .int x1h8), (2, .int x2h8)]) G.1 G.2.1 d_Mo_askHandlers_93 rfl hl (by decide) rfl (fun ls hl => ?_)
            refine lv_iload_n G.1 G.2.1 d_Mo_askHandlers_94 rfl (lv_at hl 0 rfl) ?_
            have J_139 : ∀ (s_j139 : St) (x1j139 : Int32) (x2j139 : Int32) (x3j139 : Int32) (z0j139 : Int32) (H : Heap) (locs : List Loc), wj_Mo_askHandlers_139 y Post K_8 a0 s_j139 x1j139 x2j139 x3j139 z0j139 → va_P D CL (ws g ad y s_j139) H → va_D A (ws g ad y s_j139) → va_S A s.heap H locs → ∀ ls, lv_has ls 6 [(0, .ref (ad a0)), (1, .int x1j139), (2, .int x2j139), (3, .int x3j139)] → W p l e ru_Mo_askHandlers s m args below meth c H locs 0 0 Q (F0 m 139 ls [.int z0j139]) := by
              intro s_j139 x1j139 x2j139 x3j139 z0j139 H locs h hP hD hS ls hl
              unfold wj_Mo_askHandlers_139 at h
              refine lv_istore (lv' := [(4, .int z0j139), (0, .ref (ad a0)), (1, .int x1j139), (2, .int x2j139), (3, .int x3j139)]) G.1 G.2.1 d_Mo_askHandlers_139 hl (by decide) rfl (fun ls hl => ?_)
              refine lv_iload G.1 G.2.1 d_Mo_askHandlers_141 (lv_at hl 0 rfl) ?_
              have J_203 : ∀ (s_j203 : St) (x1j203 : Int32) (x2j203 : Int32) (x4j203 : Int32) (H : Heap) (locs : List Loc), wj_Mo_askHandlers_203 y Post K_8 a0 s_j203 x1j203 x2j203 x4j203 → va_P D CL (ws g ad y s_j203) H → va_D A (ws g ad y s_j203) → va_S A s.heap H locs → ∀ ls, lv_has ls 6 [(0, .ref (ad a0)), (1, .int x1j203), (2, .int x2j203), (4, .int x4j203)] → W p l e ru_Mo_askHandlers s m args below meth c H locs 0 0 Q (F0 m 203 ls []) := by
                intro s_j203 x1j203 x2j203 x4j203 H locs h hP hD hS ls hl
                unfold wj_Mo_askHandlers_203 at h
                refine lv_iload G.1 G.2.1 d_Mo_askHandlers_203 (lv_at hl 3 rfl) ?_
                refine lv_if_le (tgt := 211) G.1 G.2.1 d_Mo_askHandlers_205 (by decide) (fun c205 => ?_) (fun c205 => ?_)
                · skip
                  have h := h.1 c205
                  exact J_211 s_j203 x1j203 x2j203 H locs h hP hD hS ls (lv_sub hl [0, 1, 2] rfl)
                · skip
                  have h := h.2 c205
                  refine lv_iload G.1 G.2.1 d_Mo_askHandlers_208 (lv_at hl 3 rfl) ?_
                  exact hret _ _ _ _ _ _ _ ls h hP hD hS (Nat.le_refl _) (Nat.le_refl _) d_Mo_askHandlers_210
              refine lv_if_ne (tgt := 203) G.1 G.2.1 d_Mo_askHandlers_143 (by decide) (fun c143 => ?_) (fun c143 => ?_)
              · skip
                have h := h.1 c143
                exact J_203 s_j139 x1j139 x2j139 z0j139 H locs h hP hD hS ls (lv_sub hl [1, 2, 3, 0] rfl)
              · skip
                have h := h.2 c143
                refine lv_aload_n G.1 G.2.1 d_Mo_askHandlers_146 rfl (lv_at hl 1 rfl) ?_
                obtain ⟨b_25, e_26, c_27, h⟩ := h
                refine ugf (v := .ref (ad b_25)) G hP h_a0 iMo rfl 45 (by decide) rfl q3109 rfl (by show va_rf ((sO s_j139 a0 45).map ad) = _; rw [e_26]; rfl) d_Mo_askHandlers_147 ?_
                refine ugfN (v := .ref (yP y b_25 29)) G hP c_27 iMw rfl 29 (by decide) rfl q2762 rfl rfl d_Mo_askHandlers_150 ?_
                refine lv_iload_n G.1 G.2.1 d_Mo_askHandlers_153 rfl (lv_at hl 3 rfl) ?_
                refine uiald G hP (kdp c_27 rfl) (typ c_27 rfl) h d_Mo_askHandlers_154 (fun x_28 h => ?_)
                have J_176 : ∀ (s_j176 : St) (x1j176 : Int32) (x2j176 : Int32) (x3j176 : Int32) (z0j176 : Int32) (H : Heap) (locs : List Loc), wj_Mo_askHandlers_176 y Post K_8 a0 s_j176 x1j176 x2j176 x3j176 z0j176 → va_P D CL (ws g ad y s_j176) H → va_D A (ws g ad y s_j176) → va_S A s.heap H locs → ∀ ls, lv_has ls 6 [(0, .ref (ad a0)), (1, .int x1j176), (2, .int x2j176), (3, .int x3j176)] → W p l e ru_Mo_askHandlers s m args below meth c H locs 0 0 Q (F0 m 176 ls [.int z0j176]) := by
                  intro s_j176 x1j176 x2j176 x3j176 z0j176 H locs h hP hD hS ls hl
                  unfold wj_Mo_askHandlers_176 at h
                  refine lv_istore (lv' := [(5, .int z0j176), (0, .ref (ad a0)), (1, .int x1j176), (2, .int x2j176), (3, .int x3j176)]) G.1 G.2.1 d_Mo_askHandlers_176 hl (by decide) rfl (fun ls hl => ?_)
                  refine lv_aload_n G.1 G.2.1 d_Mo_askHandlers_178 rfl (lv_at hl 1 rfl) ?_
                  refine lv_bipush (v := 16) G.1 G.2.1 d_Mo_askHandlers_179 (by decide) ?_
                  refine lv_iload G.1 G.2.1 d_Mo_askHandlers_181 (lv_at hl 0 rfl) ?_
                  refine lv_iadd G.1 G.2.1 d_Mo_askHandlers_183 ?_
                  refine lv_aload_n G.1 G.2.1 d_Mo_askHandlers_184 rfl (lv_at hl 1 rfl) ?_
                  refine lv_iload_n G.1 G.2.1 d_Mo_askHandlers_185 rfl (lv_at hl 4 rfl) ?_
                  refine lv_aload_n G.1 G.2.1 d_Mo_askHandlers_186 rfl (lv_at hl 1 rfl) ?_
                  obtain ⟨b_29, e_30, c_31, h⟩ := h
                  refine ugf (v := .ref (ad b_29)) G hP h_a0 iMo rfl 45 (by decide) rfl q3109 rfl (by show va_rf ((sO s_j176 a0 45).map ad) = _; rw [e_30]; rfl) d_Mo_askHandlers_187 ?_
                  refine ugfN (v := .ref (yP y b_29 38)) G hP c_31 iMw rfl 38 (by decide) rfl q2778 rfl rfl d_Mo_askHandlers_190 ?_
                  refine lv_iload_n G.1 G.2.1 d_Mo_askHandlers_193 rfl (lv_at hl 4 rfl) ?_
                  refine W.eq (g2 := F0 m 194 ls [.int x3j176, .ref (yP y b_29 38), .int x3j176, .ref (ad a0), .int (16 + z0j176), .ref (ad a0)]) rfl ?_
                  refine uiald G hP (kdp c_31 rfl) (typ c_31 rfl) h d_Mo_askHandlers_194 (fun x_32 h => ?_)
                  refine ucVi (As := [.int x3j176, .int x_32]) (rest := [.int (16 + z0j176), .ref (ad a0)]) G hP hD hS (cu_Mo_frameKind l D g ad y _ s_j176 a0 x3j176 x_32 H.size h_a0 h) w9_Mo_frameKind q3717 ⟨Nat.le_of_ble_eq_true rfl, Nat.le_of_ble_eq_true rfl⟩ rfl rfl h_a0 (q := (RMo, TMo, 131)) rfl rfl hl.1 rfl (Nat.le_of_ble_eq_true rfl) rfl ⟨Nat.le_refl _, Nat.le_refl _⟩ d_Mo_askHandlers_195 (fun r_33 s_34 H locs h hP hD hS => ?_)
                  refine ucVi (As := [.int (16 + z0j176), .int r_33]) (rest := []) G hP hD hS (cu_Mo_fit l D g ad y _ s_34 a0 (16 + z0j176) r_33 H.size h_a0 h) w9_Mo_fit q3729 ⟨Nat.le_of_ble_eq_true rfl, Nat.le_of_ble_eq_true rfl⟩ rfl rfl h_a0 (q := (RMo, TMo, 131)) rfl rfl hl.1 rfl (Nat.le_of_ble_eq_true rfl) rfl ⟨Nat.le_refl _, Nat.le_refl _⟩ d_Mo_askHandlers_198 (fun r_35 s_36 H locs h hP hD hS => ?_)
                  refine lv_istore (lv' := [(4, .int r_35), (5, .int z0j176), (0, .ref (ad a0)), (1, .int x1j176), (2, .int x2j176), (3, .int x3j176)]) G.1 G.2.1 d_Mo_askHandlers_201 hl (by decide) rfl (fun ls hl => ?_)
                  exact J_203 s_36 x1j176 x2j176 r_35 H locs h hP hD hS ls (lv_sub hl [2, 3, 4, 0] rfl)
                refine lv_if_ge (tgt := 167) G.1 G.2.1 d_Mo_askHandlers_155 (by decide) (fun c155 => ?_) (fun c155 => ?_)
                · skip
                  have h := h.1 c155
                  refine lv_aload_n G.1 G.2.1 d_Mo_askHandlers_167 rfl (lv_at hl 1 rfl) ?_
                  obtain ⟨b_37, e_38, c_39, h⟩ := h
                  refine ugf (v := .ref (ad b_37)) G hP h_a0 iMo rfl 45 (by decide) rfl q3109 rfl (by show va_rf ((sO s_j139 a0 45).map ad) = _; rw [e_38]; rfl) d_Mo_askHandlers_168 ?_
                  refine W.eq (g2 := F0 m 171 ls [.ref (ad b_37)]) rfl ?_
                  refine ugfN (v := .ref (yP y b_37 29)) G hP c_39 iMw rfl 29 (by decide) rfl q2762 rfl rfl d_Mo_askHandlers_171 ?_
                  refine lv_iload_n G.1 G.2.1 d_Mo_askHandlers_174 rfl (lv_at hl 3 rfl) ?_
                  refine uiald G hP (kdp c_39 rfl) (typ c_39 rfl) h d_Mo_askHandlers_175 (fun x_40 h => ?_)
                  exact J_176 s_j139 x1j139 x2j139 x3j139 x_40 H locs h hP hD hS ls (lv_sub hl [1, 2, 3, 4] rfl)
                · skip
                  have h := h.2 c155
                  refine lv_aload_n G.1 G.2.1 d_Mo_askHandlers_158 rfl (lv_at hl 1 rfl) ?_
                  refine ugf (v := .int (sV s_j139 a0 8)) G hP h_a0 iMo rfl 8 (by decide) rfl q3072 rfl rfl d_Mo_askHandlers_159 ?_
                  refine W.eq (g2 := F0 m 162 ls [.int (sV s_j139 a0 8)]) rfl ?_
                  refine lv_iconst (v := 1) G.1 G.2.1 d_Mo_askHandlers_162 (by decide) ?_
                  refine lv_iadd G.1 G.2.1 d_Mo_askHandlers_163 ?_
                  refine lv_goto (tgt := 176) G.1 G.2.1 d_Mo_askHandlers_164 (by decide) ?_
                  exact J_176 s_j139 x1j139 x2j139 x3j139 ((sV s_j139 a0 8) + 1) H locs h hP hD hS ls (lv_sub hl [1, 2, 3, 4] rfl)
            refine W.eq (g2 := F0 m 95 ls [.int (x_24 - 1)]) rfl ?_
            refine lv_if_ge (tgt := 103) G.1 G.2.1 d_Mo_askHandlers_95 (by decide) (fun c95 => ?_) (fun c95 => ?_)
            · skip
              have h := h.1 c95
              refine lv_aload_n G.1 G.2.1 d_Mo_askHandlers_103 rfl (lv_at hl 1 rfl) ?_
              refine lv_iload_n G.1 G.2.1 d_Mo_askHandlers_104 rfl (lv_at hl 0 rfl) ?_
              refine ucVi (As := [.int (x_24 - 1)]) (rest := []) G hP hD hS (cu_Mo_isWrongFrame l D g ad y _ s_h8 a0 (x_24 - 1) H.size h_a0 h) w9_Mo_isWrongFrame q3713 ⟨Nat.le_of_ble_eq_true rfl, Nat.le_of_ble_eq_true rfl⟩ rfl rfl h_a0 (q := (RMo, TMo, 131)) rfl rfl hl.1 rfl (Nat.le_of_ble_eq_true rfl) rfl ⟨Nat.le_refl _, Nat.le_refl _⟩ d_Mo_askHandlers_105 (fun r_41 s_42 H locs h hP hD hS => ?_)
              refine lv_if_eq (tgt := 116) G.1 G.2.1 d_Mo_askHandlers_108 (by decide) (fun c108 => ?_) (fun c108 => ?_)
              · skip
                have h := h.1 c108
                refine lv_aload_n G.1 G.2.1 d_Mo_askHandlers_116 rfl (lv_at hl 1 rfl) ?_
                obtain ⟨b_43, e_44, c_45, h⟩ := h
                refine ugf (v := .ref (ad b_43)) G hP h_a0 iMo rfl 45 (by decide) rfl q3109 rfl (by show va_rf ((sO s_42 a0 45).map ad) = _; rw [e_44]; rfl) d_Mo_askHandlers_117 ?_
                refine ugfN (v := .ref (yP y b_43 39)) G hP c_45 iMw rfl 39 (by decide) rfl q2780 rfl rfl d_Mo_askHandlers_120 ?_
                refine lv_iload_n G.1 G.2.1 d_Mo_askHandlers_123 rfl (lv_at hl 0 rfl) ?_
                refine uiald G hP (kdp c_45 rfl) (typ c_45 rfl) h d_Mo_askHandlers_124 (fun x_46 h => ?_)
                refine lv_iconst (v := 1) G.1 G.2.1 d_Mo_askHandlers_125 (by decide) ?_
                refine lv_icmp_eq (tgt := 134) G.1 G.2.1 d_Mo_askHandlers_126 (by decide) (fun c126 => ?_) (fun c126 => ?_)
                · skip
                  have h := h.1 c126
                  refine W.eq (g2 := F0 m 134 ls []) rfl ?_
                  refine lv_aload_n G.1 G.2.1 d_Mo_askHandlers_134 rfl (lv_at hl 1 rfl) ?_
                  refine lv_iload_n G.1 G.2.1 d_Mo_askHandlers_135 rfl (lv_at hl 0 rfl) ?_
                  refine ucVi (As := [.int (x_24 - 1)]) (rest := []) G hP hD hS (cu_Mo_fitLocals l D g ad y _ s_42 a0 (x_24 - 1) H.size h_a0 h) w9_Mo_fitLocals q3725 ⟨Nat.le_of_ble_eq_true rfl, Nat.le_of_ble_eq_true rfl⟩ rfl rfl h_a0 (q := (RMo, TMo, 131)) rfl rfl hl.1 rfl (Nat.le_of_ble_eq_true rfl) rfl ⟨Nat.le_refl _, Nat.le_refl _⟩ d_Mo_askHandlers_136 (fun r_47 s_48 H locs h hP hD hS => ?_)
                  exact J_139 s_48 x1h8 x2h8 (x_24 - 1) r_47 H locs h hP hD hS ls (lv_sub hl [1, 2, 3, 0] rfl)
                · skip
                  have h := h.2 c126
                  refine W.eq (g2 := F0 m 129 ls []) rfl ?_
                  refine lv_bipush (v := 37) G.1 G.2.1 d_Mo_askHandlers_129 (by decide) ?_
                  refine lv_goto (tgt := 139) G.1 G.2.1 d_Mo_askHandlers_131 (by decide) ?_
                  exact J_139 s_42 x1h8 x2h8 (x_24 - 1) 37 H locs h hP hD hS ls (lv_sub hl [1, 2, 3, 0] rfl)
              · skip
                have h := h.2 c108
                refine lv_bipush (v := 38) G.1 G.2.1 d_Mo_askHandlers_111 (by decide) ?_
                refine lv_goto (tgt := 139) G.1 G.2.1 d_Mo_askHandlers_113 (by decide) ?_
                exact J_139 s_42 x1h8 x2h8 (x_24 - 1) 38 H locs h hP hD hS ls (lv_sub hl [1, 2, 3, 0] rfl)
            · skip
              have h := h.2 c95
              refine lv_bipush (v := 36) G.1 G.2.1 d_Mo_askHandlers_98 (by decide) ?_
              refine lv_goto (tgt := 139) G.1 G.2.1 d_Mo_askHandlers_100 (by decide) ?_
              exact J_139 s_h8 x1h8 x2h8 (x_24 - 1) 36 H locs h hP hD hS ls (lv_sub hl [1, 2, 3, 0] rfl)
          · skip
            have h := h.2 c55
            refine lv_goto (tgt := 211) G.1 G.2.1 d_Mo_askHandlers_58 (by decide) ?_
            exact J_211 s_h8 x1h8 x2h8 H locs h hP hD hS ls (lv_sub hl [0, 1, 2] rfl)
  exact L_8 _ σ v1 (8 * (sV σ a0 75)) (Nat.lt_succ_self _) hI_8 H locs hP hD hS ls (lv_sub hl [1, 2, 0] rfl)
def y_Mo_want : MethodName := ⟨"ClassWorksModel", "want", "(I)V"⟩
abbrev b_Mo_want : ByteArray := prog_14_method_73_code
theorem q3142 : Cond.fieldLink "ClassWorksModel" 311 "ClassWorksModel" "wants" "[I" ∈ lw_ok := lw_okmem (List.mem_of_getElem? (i := 3142) (by decide +kernel)) rfl
theorem q3143 : Cond.fieldLink "ClassWorksModel" 823 "ClassWorksModel" "wanted" "I" ∈ lw_ok := lw_okmem (List.mem_of_getElem? (i := 3143) (by decide +kernel)) rfl
theorem d_Mo_want_0 : decode b_Mo_want 0 = .ok (.aload_n 0, 1) := by decide +kernel
theorem d_Mo_want_1 : decode b_Mo_want 1 = .ok (.getfield 311, 3) := by decide +kernel
theorem d_Mo_want_4 : decode b_Mo_want 4 = .ok (.aload_n 0, 1) := by decide +kernel
theorem d_Mo_want_5 : decode b_Mo_want 5 = .ok (.getfield 823, 3) := by decide +kernel
theorem d_Mo_want_8 : decode b_Mo_want 8 = .ok (.iload_n 1, 1) := by decide +kernel
theorem d_Mo_want_9 : decode b_Mo_want 9 = .ok (.iastore, 1) := by decide +kernel
theorem d_Mo_want_10 : decode b_Mo_want 10 = .ok (.aload_n 0, 1) := by decide +kernel
theorem d_Mo_want_11 : decode b_Mo_want 11 = .ok (.dup, 1) := by decide +kernel
theorem d_Mo_want_12 : decode b_Mo_want 12 = .ok (.getfield 823, 3) := by decide +kernel
theorem d_Mo_want_15 : decode b_Mo_want 15 = .ok (.iconst 1, 1) := by decide +kernel
theorem d_Mo_want_16 : decode b_Mo_want 16 = .ok (.iadd, 1) := by decide +kernel
theorem d_Mo_want_17 : decode b_Mo_want 17 = .ok (.putfield 823, 3) := by decide +kernel
theorem d_Mo_want_20 : decode b_Mo_want 20 = .ok (.return_, 1) := by decide +kernel
abbrev ru_Mo_want : Room := { frames := 0, cells := 0, slots := 0, locals := 0 }
def wu_Mo_want (y : Ly) (Post : St → Prop) (σ : St) (a0 : Nat) (v1 : Int32) : Prop := xS y σ a0 78 (sV σ a0 79) v1 (fun s_1 : St => xP (uV s_1 a0 79 ((sV s_1 a0 79) + 1)) (fun s_2 : St => Post s_2))
set_option maxHeartbeats 4000000 in
set_option maxRecDepth 100000 in
theorem cu_Mo_want (l : Launch) (D : va_G) (g : Nat → ClassId) (ad : Nat → Nat) (y : Ly) (Post : St → Prop) (σ : St) (a0 : Nat) (v1 : Int32) (sz : Nat) (h_a0 : cl a0 = 14) (h : wu_Mo_want y Post σ a0 v1) : Met l y_Mo_want (mw y_Mo_want b_Mo_want 2 (none)) ru_Mo_want (PC g D [] [.ref (ad a0), .int v1] sz (ws g ad y σ)) (va_Qv (fun u : St => Post u) (QW D (va_A (ws g ad y σ) sz) (fun u => ws g ad y u)) (va_A (ws g ad y σ) sz)) 0 0 (va_A (ws g ad y σ) sz) := by
  refine ofV (by decide +kernel) (Nat.le_of_ble_eq_true rfl) ?_
  intro p e s m args below meth c A Q ls H locs G hsz hP hD hS hl hret
  subst hsz
  have hl : lv_has ls 2 [(0, .ref (ad a0)), (1, .int v1)] := hl
  unfold wu_Mo_want at h
  refine lv_aload_n G.1 G.2.1 d_Mo_want_0 rfl (lv_at hl 0 rfl) ?_
  refine ugf (v := .ref (yP y a0 78)) G hP h_a0 iMo rfl 78 (by decide) rfl q3142 rfl rfl d_Mo_want_1 ?_
  refine lv_aload_n G.1 G.2.1 d_Mo_want_4 rfl (lv_at hl 0 rfl) ?_
  refine ugf (v := .int (sV σ a0 79)) G hP h_a0 iMo rfl 79 (by decide) rfl q3143 rfl rfl d_Mo_want_5 ?_
  refine lv_iload_n G.1 G.2.1 d_Mo_want_8 rfl (lv_at hl 1 rfl) ?_
  refine uiast G hP hD hS (kdp h_a0 rfl) (typ h_a0 rfl) h d_Mo_want_9 (fun s_1 H locs h hP hD hS => ?_)
  refine lv_aload_n G.1 G.2.1 d_Mo_want_10 rfl (lv_at hl 0 rfl) ?_
  refine lv_dup G.1 G.2.1 d_Mo_want_11 rfl ?_
  refine ugf (v := .int (sV s_1 a0 79)) G hP h_a0 iMo rfl 79 (by decide) rfl q3143 rfl rfl d_Mo_want_12 ?_
  refine lv_iconst (v := 1) G.1 G.2.1 d_Mo_want_15 (by decide) ?_
  refine lv_iadd G.1 G.2.1 d_Mo_want_16 ?_
  refine W.eq (g2 := F0 m 17 ls [.int ((sV s_1 a0 79) + 1), .ref (ad a0)]) rfl ?_
  refine upf G hP hD hS h 79 putV h_a0 iMo tMo tMo_ok nMo rfl (by decide) rfl q3143 rfl rfl fV rfl rfl d_Mo_want_17 (fun s_2 H locs h hP hD hS => ?_)
  exact hret _ _ _ _ _ _ ls h hP hD hS (Nat.le_refl _) (Nat.le_refl _) d_Mo_want_20
theorem q3757 : Cond.methodLink "ClassWorksModel" 826 y_Mo_want ∈ lw_ok := lw_okmem (List.mem_of_getElem? (i := 3757) (by decide +kernel)) rfl
theorem q3760 : Cond.code y_Mo_want b_Mo_want 2 (none) ∈ lw_ok := lw_okmem (List.mem_of_getElem? (i := 3760) (by decide +kernel)) rfl
theorem q3759 : Cond.instanceMethod y_Mo_want ∈ lw_ok := lw_okmem (List.mem_of_getElem? (i := 3759) (by decide +kernel)) rfl
theorem q236 : Cond.selects y_Mo_want.cls y_Mo_want y_Mo_want ∈ lw_ok := lw_okmem (List.mem_of_getElem? (i := 236) (by decide +kernel)) rfl
theorem w9_Mo_want : CWv y_Mo_want b_Mo_want 2 (none) 1 ∧ Cond.instanceMethod y_Mo_want ∈ lw_ok ∧ Cond.selects y_Mo_want.cls y_Mo_want y_Mo_want ∈ lw_ok := ⟨⟨q3760, q348, by decide +kernel, by decide +kernel, by decide +kernel⟩, q3759, q236⟩
def y_Mo_listWants : MethodName := ⟨"ClassWorksModel", "listWants", "(II)V"⟩
abbrev b_Mo_listWants : ByteArray := prog_14_method_74_code
theorem q2766 : Cond.fieldLinkNest "ClassWorksModel" 677 "ClassWorksModel$World" "as" "[I" "ClassWorksModel" ∈ lw_nest := lw_nestmem (List.mem_of_getElem? (i := 2766) (by decide +kernel)) rfl
theorem q2770 : Cond.fieldLinkNest "ClassWorksModel" 683 "ClassWorksModel$World" "cs" "[I" "ClassWorksModel" ∈ lw_nest := lw_nestmem (List.mem_of_getElem? (i := 2770) (by decide +kernel)) rfl
theorem q2768 : Cond.fieldLinkNest "ClassWorksModel" 680 "ClassWorksModel$World" "bs" "[I" "ClassWorksModel" ∈ lw_nest := lw_nestmem (List.mem_of_getElem? (i := 2768) (by decide +kernel)) rfl
theorem d_Mo_listWants_0 : decode b_Mo_listWants 0 = .ok (.aload_n 0, 1) := by decide +kernel
theorem d_Mo_listWants_1 : decode b_Mo_listWants 1 = .ok (.iconst 0, 1) := by decide +kernel
theorem d_Mo_listWants_2 : decode b_Mo_listWants 2 = .ok (.putfield 823, 3) := by decide +kernel
theorem d_Mo_listWants_5 : decode b_Mo_listWants 5 = .ok (.iload_n 1, 1) := by decide +kernel
theorem d_Mo_listWants_6 : decode b_Mo_listWants 6 = .ok (.bipush 8, 2) := by decide +kernel
theorem d_Mo_listWants_8 : decode b_Mo_listWants 8 = .ok (.if_icmp .lt 26, 3) := by decide +kernel
theorem d_Mo_listWants_11 : decode b_Mo_listWants 11 = .ok (.iload_n 1, 1) := by decide +kernel
theorem d_Mo_listWants_12 : decode b_Mo_listWants 12 = .ok (.bipush 18, 2) := by decide +kernel
theorem d_Mo_listWants_14 : decode b_Mo_listWants 14 = .ok (.if_icmp .gt 20, 3) := by decide +kernel
theorem d_Mo_listWants_17 : decode b_Mo_listWants 17 = .ok (.aload_n 0, 1) := by decide +kernel
theorem d_Mo_listWants_18 : decode b_Mo_listWants 18 = .ok (.iconst 1, 1) := by decide +kernel
theorem d_Mo_listWants_19 : decode b_Mo_listWants 19 = .ok (.invokevirtual 826, 3) := by decide +kernel
theorem d_Mo_listWants_22 : decode b_Mo_listWants 22 = .ok (.iload_n 1, 1) := by decide +kernel
theorem d_Mo_listWants_23 : decode b_Mo_listWants 23 = .ok (.bipush 13, 2) := by decide +kernel
theorem d_Mo_listWants_25 : decode b_Mo_listWants 25 = .ok (.if_icmp .eq 8, 3) := by decide +kernel
theorem d_Mo_listWants_28 : decode b_Mo_listWants 28 = .ok (.aload_n 0, 1) := by decide +kernel
theorem d_Mo_listWants_29 : decode b_Mo_listWants 29 = .ok (.iconst 1, 1) := by decide +kernel
theorem d_Mo_listWants_30 : decode b_Mo_listWants 30 = .ok (.invokevirtual 826, 3) := by decide +kernel
theorem d_Mo_listWants_33 : decode b_Mo_listWants 33 = .ok (.return_, 1) := by decide +kernel
theorem d_Mo_listWants_34 : decode b_Mo_listWants 34 = .ok (.iload_n 1, 1) := by decide +kernel
theorem d_Mo_listWants_35 : decode b_Mo_listWants 35 = .ok (.bipush 24, 2) := by decide +kernel
theorem d_Mo_listWants_37 : decode b_Mo_listWants 37 = .ok (.if_icmp .lt 9, 3) := by decide +kernel
theorem d_Mo_listWants_40 : decode b_Mo_listWants 40 = .ok (.iload_n 1, 1) := by decide +kernel
theorem d_Mo_listWants_41 : decode b_Mo_listWants 41 = .ok (.bipush 29, 2) := by decide +kernel
theorem d_Mo_listWants_43 : decode b_Mo_listWants 43 = .ok (.if_icmp .le 26, 3) := by decide +kernel
theorem d_Mo_listWants_46 : decode b_Mo_listWants 46 = .ok (.iload_n 1, 1) := by decide +kernel
theorem d_Mo_listWants_47 : decode b_Mo_listWants 47 = .ok (.bipush 40, 2) := by decide +kernel
theorem d_Mo_listWants_49 : decode b_Mo_listWants 49 = .ok (.if_icmp .eq 20, 3) := by decide +kernel
theorem d_Mo_listWants_52 : decode b_Mo_listWants 52 = .ok (.iload_n 1, 1) := by decide +kernel
theorem d_Mo_listWants_53 : decode b_Mo_listWants 53 = .ok (.iconst 5, 1) := by decide +kernel
theorem d_Mo_listWants_54 : decode b_Mo_listWants 54 = .ok (.if_icmp .eq 15, 3) := by decide +kernel
theorem d_Mo_listWants_57 : decode b_Mo_listWants 57 = .ok (.iload_n 1, 1) := by decide +kernel
theorem d_Mo_listWants_58 : decode b_Mo_listWants 58 = .ok (.bipush 42, 2) := by decide +kernel
theorem d_Mo_listWants_60 : decode b_Mo_listWants 60 = .ok (.if_icmp .eq 9, 3) := by decide +kernel
theorem d_Mo_listWants_63 : decode b_Mo_listWants 63 = .ok (.iload_n 1, 1) := by decide +kernel
theorem d_Mo_listWants_64 : decode b_Mo_listWants 64 = .ok (.bipush 58, 2) := by decide +kernel
theorem d_Mo_listWants_66 : decode b_Mo_listWants 66 = .ok (.if_icmp .ne 9, 3) := by decide +kernel
theorem d_Mo_listWants_69 : decode b_Mo_listWants 69 = .ok (.aload_n 0, 1) := by decide +kernel
theorem d_Mo_listWants_70 : decode b_Mo_listWants 70 = .ok (.iconst 1, 1) := by decide +kernel
theorem d_Mo_listWants_71 : decode b_Mo_listWants 71 = .ok (.invokevirtual 826, 3) := by decide +kernel
theorem d_Mo_listWants_74 : decode b_Mo_listWants 74 = .ok (.return_, 1) := by decide +kernel
theorem d_Mo_listWants_75 : decode b_Mo_listWants 75 = .ok (.iload_n 1, 1) := by decide +kernel
theorem d_Mo_listWants_76 : decode b_Mo_listWants 76 = .ok (.bipush 30, 2) := by decide +kernel
theorem d_Mo_listWants_78 : decode b_Mo_listWants 78 = .ok (.if_icmp .lt 20, 3) := by decide +kernel
theorem d_Mo_listWants_81 : decode b_Mo_listWants 81 = .ok (.iload_n 1, 1) := by decide +kernel
theorem d_Mo_listWants_82 : decode b_Mo_listWants 82 = .ok (.bipush 35, 2) := by decide +kernel
theorem d_Mo_listWants_84 : decode b_Mo_listWants 84 = .ok (.if_icmp .gt 14, 3) := by decide +kernel
theorem d_Mo_listWants_87 : decode b_Mo_listWants 87 = .ok (.aload_n 0, 1) := by decide +kernel
theorem d_Mo_listWants_88 : decode b_Mo_listWants 88 = .ok (.iconst 1, 1) := by decide +kernel
theorem d_Mo_listWants_89 : decode b_Mo_listWants 89 = .ok (.invokevirtual 826, 3) := by decide +kernel
theorem d_Mo_listWants_92 : decode b_Mo_listWants 92 = .ok (.aload_n 0, 1) := by decide +kernel
theorem d_Mo_listWants_93 : decode b_Mo_listWants 93 = .ok (.iconst 1, 1) := by decide +kernel
theorem d_Mo_listWants_94 : decode b_Mo_listWants 94 = .ok (.invokevirtual 826, 3) := by decide +kernel
theorem d_Mo_listWants_97 : decode b_Mo_listWants 97 = .ok (.return_, 1) := by decide +kernel
theorem d_Mo_listWants_98 : decode b_Mo_listWants 98 = .ok (.iload_n 1, 1) := by decide +kernel
theorem d_Mo_listWants_99 : decode b_Mo_listWants 99 = .ok (.bipush 50, 2) := by decide +kernel
theorem d_Mo_listWants_101 : decode b_Mo_listWants 101 = .ok (.if_icmp .lt 21, 3) := by decide +kernel
theorem d_Mo_listWants_104 : decode b_Mo_listWants 104 = .ok (.iload_n 1, 1) := by decide +kernel
theorem d_Mo_listWants_105 : decode b_Mo_listWants 105 = .ok (.bipush 53, 2) := by decide +kernel
theorem d_Mo_listWants_107 : decode b_Mo_listWants 107 = .ok (.if_icmp .gt 15, 3) := by decide +kernel
theorem d_Mo_listWants_110 : decode b_Mo_listWants 110 = .ok (.aload_n 0, 1) := by decide +kernel
theorem d_Mo_listWants_111 : decode b_Mo_listWants 111 = .ok (.getfield 522, 3) := by decide +kernel
theorem d_Mo_listWants_114 : decode b_Mo_listWants 114 = .ok (.getfield 683, 3) := by decide +kernel
theorem d_Mo_listWants_117 : decode b_Mo_listWants 117 = .ok (.iload_n 2, 1) := by decide +kernel
theorem d_Mo_listWants_118 : decode b_Mo_listWants 118 = .ok (.iaload, 1) := by decide +kernel
theorem d_Mo_listWants_119 : decode b_Mo_listWants 119 = .ok (.goto 4, 3) := by decide +kernel
theorem d_Mo_listWants_122 : decode b_Mo_listWants 122 = .ok (.iconst 0, 1) := by decide +kernel
theorem d_Mo_listWants_123 : decode b_Mo_listWants 123 = .ok (.istore_n 3, 1) := by decide +kernel
theorem d_Mo_listWants_124 : decode b_Mo_listWants 124 = .ok (.iload_n 1, 1) := by decide +kernel
theorem d_Mo_listWants_125 : decode b_Mo_listWants 125 = .ok (.bipush 50, 2) := by decide +kernel
theorem d_Mo_listWants_127 : decode b_Mo_listWants 127 = .ok (.if_icmp .lt 20, 3) := by decide +kernel
theorem d_Mo_listWants_130 : decode b_Mo_listWants 130 = .ok (.iload_n 1, 1) := by decide +kernel
theorem d_Mo_listWants_131 : decode b_Mo_listWants 131 = .ok (.bipush 53, 2) := by decide +kernel
theorem d_Mo_listWants_133 : decode b_Mo_listWants 133 = .ok (.if_icmp .gt 14, 3) := by decide +kernel
theorem d_Mo_listWants_136 : decode b_Mo_listWants 136 = .ok (.aload_n 0, 1) := by decide +kernel
theorem d_Mo_listWants_137 : decode b_Mo_listWants 137 = .ok (.getfield 80, 3) := by decide +kernel
theorem d_Mo_listWants_140 : decode b_Mo_listWants 140 = .ok (.iload_n 3, 1) := by decide +kernel
theorem d_Mo_listWants_141 : decode b_Mo_listWants 141 = .ok (.iaload, 1) := by decide +kernel
theorem d_Mo_listWants_142 : decode b_Mo_listWants 142 = .ok (.iconst 1, 1) := by decide +kernel
theorem d_Mo_listWants_143 : decode b_Mo_listWants 143 = .ok (.isub, 1) := by decide +kernel
theorem d_Mo_listWants_144 : decode b_Mo_listWants 144 = .ok (.goto 4, 3) := by decide +kernel
theorem d_Mo_listWants_147 : decode b_Mo_listWants 147 = .ok (.iconst (-1), 1) := by decide +kernel
theorem d_Mo_listWants_148 : decode b_Mo_listWants 148 = .ok (.istore 4, 2) := by decide +kernel
theorem d_Mo_listWants_150 : decode b_Mo_listWants 150 = .ok (.iload 4, 2) := by decide +kernel
theorem d_Mo_listWants_152 : decode b_Mo_listWants 152 = .ok (.ifCond .lt 27, 3) := by decide +kernel
theorem d_Mo_listWants_155 : decode b_Mo_listWants 155 = .ok (.aload_n 0, 1) := by decide +kernel
theorem d_Mo_listWants_156 : decode b_Mo_listWants 156 = .ok (.aload_n 0, 1) := by decide +kernel
theorem d_Mo_listWants_157 : decode b_Mo_listWants 157 = .ok (.getfield 86, 3) := by decide +kernel
theorem d_Mo_listWants_160 : decode b_Mo_listWants 160 = .ok (.aload_n 0, 1) := by decide +kernel
theorem d_Mo_listWants_161 : decode b_Mo_listWants 161 = .ok (.getfield 74, 3) := by decide +kernel
theorem d_Mo_listWants_164 : decode b_Mo_listWants 164 = .ok (.iload_n 3, 1) := by decide +kernel
theorem d_Mo_listWants_165 : decode b_Mo_listWants 165 = .ok (.iaload, 1) := by decide +kernel
theorem d_Mo_listWants_166 : decode b_Mo_listWants 166 = .ok (.iload 4, 2) := by decide +kernel
theorem d_Mo_listWants_168 : decode b_Mo_listWants 168 = .ok (.iadd, 1) := by decide +kernel
theorem d_Mo_listWants_169 : decode b_Mo_listWants 169 = .ok (.iaload, 1) := by decide +kernel
theorem d_Mo_listWants_170 : decode b_Mo_listWants 170 = .ok (.invokevirtual 826, 3) := by decide +kernel
theorem d_Mo_listWants_173 : decode b_Mo_listWants 173 = .ok (.iinc 4 (-1), 3) := by decide +kernel
theorem d_Mo_listWants_176 : decode b_Mo_listWants 176 = .ok (.goto (-26), 3) := by decide +kernel
theorem d_Mo_listWants_179 : decode b_Mo_listWants 179 = .ok (.iload_n 1, 1) := by decide +kernel
theorem d_Mo_listWants_180 : decode b_Mo_listWants 180 = .ok (.tableswitch 520 6 61 #[240, 520, 520, 520, 520, 520, 520, 520, 520, 520, 520, 520, 520, 249, 249, 258, 258, 520, 520, 520, 520, 520, 520, 520, 520, 520, 520, 520, 520, 520, 288, 288, 273, 273, 520, 520, 520, 297, 310, 328, 336, 355, 520, 387, 403, 422, 520, 403, 288, 288, 465, 520, 520, 481, 288, 288], 240) := by decide +kernel
theorem d_Mo_listWants_420 : decode b_Mo_listWants 420 = .ok (.aload_n 0, 1) := by decide +kernel
theorem d_Mo_listWants_421 : decode b_Mo_listWants 421 = .ok (.bipush 7, 2) := by decide +kernel
theorem d_Mo_listWants_423 : decode b_Mo_listWants 423 = .ok (.invokevirtual 826, 3) := by decide +kernel
theorem d_Mo_listWants_426 : decode b_Mo_listWants 426 = .ok (.goto 274, 3) := by decide +kernel
theorem d_Mo_listWants_429 : decode b_Mo_listWants 429 = .ok (.aload_n 0, 1) := by decide +kernel
theorem d_Mo_listWants_430 : decode b_Mo_listWants 430 = .ok (.bipush 8, 2) := by decide +kernel
theorem d_Mo_listWants_432 : decode b_Mo_listWants 432 = .ok (.invokevirtual 826, 3) := by decide +kernel
theorem d_Mo_listWants_435 : decode b_Mo_listWants 435 = .ok (.goto 265, 3) := by decide +kernel
theorem d_Mo_listWants_438 : decode b_Mo_listWants 438 = .ok (.aload_n 0, 1) := by decide +kernel
theorem d_Mo_listWants_439 : decode b_Mo_listWants 439 = .ok (.bipush 8, 2) := by decide +kernel
theorem d_Mo_listWants_441 : decode b_Mo_listWants 441 = .ok (.invokevirtual 826, 3) := by decide +kernel
theorem d_Mo_listWants_444 : decode b_Mo_listWants 444 = .ok (.aload_n 0, 1) := by decide +kernel
theorem d_Mo_listWants_445 : decode b_Mo_listWants 445 = .ok (.bipush 8, 2) := by decide +kernel
theorem d_Mo_listWants_447 : decode b_Mo_listWants 447 = .ok (.invokevirtual 826, 3) := by decide +kernel
theorem d_Mo_listWants_450 : decode b_Mo_listWants 450 = .ok (.goto 250, 3) := by decide +kernel
theorem d_Mo_listWants_453 : decode b_Mo_listWants 453 = .ok (.aload_n 0, 1) := by decide +kernel
theorem d_Mo_listWants_454 : decode b_Mo_listWants 454 = .ok (.bipush 6, 2) := by decide +kernel
theorem d_Mo_listWants_456 : decode b_Mo_listWants 456 = .ok (.invokevirtual 826, 3) := by decide +kernel
theorem d_Mo_listWants_459 : decode b_Mo_listWants 459 = .ok (.aload_n 0, 1) := by decide +kernel
theorem d_Mo_listWants_460 : decode b_Mo_listWants 460 = .ok (.bipush 6, 2) := by decide +kernel
theorem d_Mo_listWants_462 : decode b_Mo_listWants 462 = .ok (.invokevirtual 826, 3) := by decide +kernel
theorem d_Mo_listWants_465 : decode b_Mo_listWants 465 = .ok (.goto 235, 3) := by decide +kernel
theorem d_Mo_listWants_468 : decode b_Mo_listWants 468 = .ok (.aload_n 0, 1) := by decide +kernel
theorem d_Mo_listWants_469 : decode b_Mo_listWants 469 = .ok (.bipush 6, 2) := by decide +kernel
theorem d_Mo_listWants_471 : decode b_Mo_listWants 471 = .ok (.invokevirtual 826, 3) := by decide +kernel
theorem d_Mo_listWants_474 : decode b_Mo_listWants 474 = .ok (.goto 226, 3) := by decide +kernel
theorem d_Mo_listWants_477 : decode b_Mo_listWants 477 = .ok (.aload_n 0, 1) := by decide +kernel
theorem d_Mo_listWants_478 : decode b_Mo_listWants 478 = .ok (.iconst 1, 1) := by decide +kernel
theorem d_Mo_listWants_479 : decode b_Mo_listWants 479 = .ok (.invokevirtual 826, 3) := by decide +kernel
theorem d_Mo_listWants_482 : decode b_Mo_listWants 482 = .ok (.aload_n 0, 1) := by decide +kernel
theorem d_Mo_listWants_483 : decode b_Mo_listWants 483 = .ok (.iconst 2, 1) := by decide +kernel
theorem d_Mo_listWants_484 : decode b_Mo_listWants 484 = .ok (.invokevirtual 826, 3) := by decide +kernel
theorem d_Mo_listWants_487 : decode b_Mo_listWants 487 = .ok (.goto 213, 3) := by decide +kernel
theorem d_Mo_listWants_490 : decode b_Mo_listWants 490 = .ok (.aload_n 0, 1) := by decide +kernel
theorem d_Mo_listWants_491 : decode b_Mo_listWants 491 = .ok (.iconst 1, 1) := by decide +kernel
theorem d_Mo_listWants_492 : decode b_Mo_listWants 492 = .ok (.invokevirtual 826, 3) := by decide +kernel
theorem d_Mo_listWants_495 : decode b_Mo_listWants 495 = .ok (.aload_n 0, 1) := by decide +kernel
theorem d_Mo_listWants_496 : decode b_Mo_listWants 496 = .ok (.iconst 1, 1) := by decide +kernel
theorem d_Mo_listWants_497 : decode b_Mo_listWants 497 = .ok (.invokevirtual 826, 3) := by decide +kernel
theorem d_Mo_listWants_500 : decode b_Mo_listWants 500 = .ok (.aload_n 0, 1) := by decide +kernel
theorem d_Mo_listWants_501 : decode b_Mo_listWants 501 = .ok (.iconst 2, 1) := by decide +kernel
theorem d_Mo_listWants_502 : decode b_Mo_listWants 502 = .ok (.invokevirtual 826, 3) := by decide +kernel
theorem d_Mo_listWants_505 : decode b_Mo_listWants 505 = .ok (.goto 195, 3) := by decide +kernel
theorem d_Mo_listWants_508 : decode b_Mo_listWants 508 = .ok (.aload_n 0, 1) := by decide +kernel
theorem d_Mo_listWants_509 : decode b_Mo_listWants 509 = .ok (.iconst 2, 1) := by decide +kernel
theorem d_Mo_listWants_510 : decode b_Mo_listWants 510 = .ok (.invokevirtual 826, 3) := by decide +kernel
theorem d_Mo_listWants_513 : decode b_Mo_listWants 513 = .ok (.goto 187, 3) := by decide +kernel
theorem d_Mo_listWants_516 : decode b_Mo_listWants 516 = .ok (.aload_n 0, 1) := by decide +kernel
theorem d_Mo_listWants_517 : decode b_Mo_listWants 517 = .ok (.bipush 16, 2) := by decide +kernel
theorem d_Mo_listWants_519 : decode b_Mo_listWants 519 = .ok (.aload_n 0, 1) := by decide +kernel
theorem d_Mo_listWants_520 : decode b_Mo_listWants 520 = .ok (.getfield 522, 3) := by decide +kernel
theorem d_Mo_listWants_523 : decode b_Mo_listWants 523 = .ok (.getfield 677, 3) := by decide +kernel
theorem d_Mo_listWants_526 : decode b_Mo_listWants 526 = .ok (.iload_n 2, 1) := by decide +kernel
theorem d_Mo_listWants_527 : decode b_Mo_listWants 527 = .ok (.iaload, 1) := by decide +kernel
theorem d_Mo_listWants_528 : decode b_Mo_listWants 528 = .ok (.iadd, 1) := by decide +kernel
theorem d_Mo_listWants_529 : decode b_Mo_listWants 529 = .ok (.invokevirtual 826, 3) := by decide +kernel
theorem d_Mo_listWants_532 : decode b_Mo_listWants 532 = .ok (.goto 168, 3) := by decide +kernel
theorem d_Mo_listWants_535 : decode b_Mo_listWants 535 = .ok (.aload_n 0, 1) := by decide +kernel
theorem d_Mo_listWants_536 : decode b_Mo_listWants 536 = .ok (.aload_n 0, 1) := by decide +kernel
theorem d_Mo_listWants_537 : decode b_Mo_listWants 537 = .ok (.getfield 522, 3) := by decide +kernel
theorem d_Mo_listWants_540 : decode b_Mo_listWants 540 = .ok (.getfield 683, 3) := by decide +kernel
theorem d_Mo_listWants_543 : decode b_Mo_listWants 543 = .ok (.iload_n 2, 1) := by decide +kernel
theorem d_Mo_listWants_544 : decode b_Mo_listWants 544 = .ok (.iaload, 1) := by decide +kernel
theorem d_Mo_listWants_545 : decode b_Mo_listWants 545 = .ok (.invokevirtual 826, 3) := by decide +kernel
theorem d_Mo_listWants_548 : decode b_Mo_listWants 548 = .ok (.aload_n 0, 1) := by decide +kernel
theorem d_Mo_listWants_549 : decode b_Mo_listWants 549 = .ok (.bipush 16, 2) := by decide +kernel
theorem d_Mo_listWants_551 : decode b_Mo_listWants 551 = .ok (.aload_n 0, 1) := by decide +kernel
theorem d_Mo_listWants_552 : decode b_Mo_listWants 552 = .ok (.getfield 522, 3) := by decide +kernel
theorem d_Mo_listWants_555 : decode b_Mo_listWants 555 = .ok (.getfield 677, 3) := by decide +kernel
theorem d_Mo_listWants_558 : decode b_Mo_listWants 558 = .ok (.iload_n 2, 1) := by decide +kernel
theorem d_Mo_listWants_559 : decode b_Mo_listWants 559 = .ok (.iaload, 1) := by decide +kernel
theorem d_Mo_listWants_560 : decode b_Mo_listWants 560 = .ok (.iadd, 1) := by decide +kernel
theorem d_Mo_listWants_561 : decode b_Mo_listWants 561 = .ok (.invokevirtual 826, 3) := by decide +kernel
theorem d_Mo_listWants_564 : decode b_Mo_listWants 564 = .ok (.goto 136, 3) := by decide +kernel
theorem d_Mo_listWants_567 : decode b_Mo_listWants 567 = .ok (.aload_n 0, 1) := by decide +kernel
theorem d_Mo_listWants_568 : decode b_Mo_listWants 568 = .ok (.aload_n 0, 1) := by decide +kernel
theorem d_Mo_listWants_569 : decode b_Mo_listWants 569 = .ok (.getfield 522, 3) := by decide +kernel
theorem d_Mo_listWants_572 : decode b_Mo_listWants 572 = .ok (.getfield 683, 3) := by decide +kernel
theorem d_Mo_listWants_575 : decode b_Mo_listWants 575 = .ok (.iload_n 2, 1) := by decide +kernel
theorem d_Mo_listWants_576 : decode b_Mo_listWants 576 = .ok (.iaload, 1) := by decide +kernel
theorem d_Mo_listWants_577 : decode b_Mo_listWants 577 = .ok (.invokevirtual 826, 3) := by decide +kernel
theorem d_Mo_listWants_580 : decode b_Mo_listWants 580 = .ok (.goto 120, 3) := by decide +kernel
theorem d_Mo_listWants_583 : decode b_Mo_listWants 583 = .ok (.aload_n 0, 1) := by decide +kernel
theorem d_Mo_listWants_584 : decode b_Mo_listWants 584 = .ok (.bipush 16, 2) := by decide +kernel
theorem d_Mo_listWants_586 : decode b_Mo_listWants 586 = .ok (.aload_n 0, 1) := by decide +kernel
theorem d_Mo_listWants_587 : decode b_Mo_listWants 587 = .ok (.getfield 522, 3) := by decide +kernel
theorem d_Mo_listWants_590 : decode b_Mo_listWants 590 = .ok (.getfield 677, 3) := by decide +kernel
theorem d_Mo_listWants_593 : decode b_Mo_listWants 593 = .ok (.iload_n 2, 1) := by decide +kernel
theorem d_Mo_listWants_594 : decode b_Mo_listWants 594 = .ok (.iaload, 1) := by decide +kernel
theorem d_Mo_listWants_595 : decode b_Mo_listWants 595 = .ok (.iadd, 1) := by decide +kernel
theorem d_Mo_listWants_596 : decode b_Mo_listWants 596 = .ok (.invokevirtual 826, 3) := by decide +kernel
theorem d_Mo_listWants_599 : decode b_Mo_listWants 599 = .ok (.goto 101, 3) := by decide +kernel
theorem d_Mo_listWants_602 : decode b_Mo_listWants 602 = .ok (.aload_n 0, 1) := by decide +kernel
theorem d_Mo_listWants_603 : decode b_Mo_listWants 603 = .ok (.aload_n 0, 1) := by decide +kernel
theorem d_Mo_listWants_604 : decode b_Mo_listWants 604 = .ok (.getfield 522, 3) := by decide +kernel
theorem d_Mo_listWants_607 : decode b_Mo_listWants 607 = .ok (.getfield 680, 3) := by decide +kernel
theorem d_Mo_listWants_610 : decode b_Mo_listWants 610 = .ok (.iload_n 2, 1) := by decide +kernel
theorem d_Mo_listWants_611 : decode b_Mo_listWants 611 = .ok (.iaload, 1) := by decide +kernel
theorem d_Mo_listWants_612 : decode b_Mo_listWants 612 = .ok (.aload_n 0, 1) := by decide +kernel
theorem d_Mo_listWants_613 : decode b_Mo_listWants 613 = .ok (.getfield 121, 3) := by decide +kernel
theorem d_Mo_listWants_616 : decode b_Mo_listWants 616 = .ok (.if_icmp .ne 8, 3) := by decide +kernel
theorem d_Mo_listWants_619 : decode b_Mo_listWants 619 = .ok (.bipush 8, 2) := by decide +kernel
theorem d_Mo_listWants_621 : decode b_Mo_listWants 621 = .ok (.goto 18, 3) := by decide +kernel
theorem d_Mo_listWants_624 : decode b_Mo_listWants 624 = .ok (.bipush 16, 2) := by decide +kernel
theorem d_Mo_listWants_626 : decode b_Mo_listWants 626 = .ok (.aload_n 0, 1) := by decide +kernel
theorem d_Mo_listWants_627 : decode b_Mo_listWants 627 = .ok (.getfield 522, 3) := by decide +kernel
theorem d_Mo_listWants_630 : decode b_Mo_listWants 630 = .ok (.getfield 423, 3) := by decide +kernel
theorem d_Mo_listWants_633 : decode b_Mo_listWants 633 = .ok (.aload_n 0, 1) := by decide +kernel
theorem d_Mo_listWants_634 : decode b_Mo_listWants 634 = .ok (.getfield 789, 3) := by decide +kernel
theorem d_Mo_listWants_637 : decode b_Mo_listWants 637 = .ok (.iaload, 1) := by decide +kernel
theorem d_Mo_listWants_638 : decode b_Mo_listWants 638 = .ok (.iadd, 1) := by decide +kernel
theorem d_Mo_listWants_639 : decode b_Mo_listWants 639 = .ok (.invokevirtual 826, 3) := by decide +kernel
theorem d_Mo_listWants_642 : decode b_Mo_listWants 642 = .ok (.goto 58, 3) := by decide +kernel
theorem d_Mo_listWants_645 : decode b_Mo_listWants 645 = .ok (.aload_n 0, 1) := by decide +kernel
theorem d_Mo_listWants_646 : decode b_Mo_listWants 646 = .ok (.bipush 16, 2) := by decide +kernel
theorem d_Mo_listWants_648 : decode b_Mo_listWants 648 = .ok (.aload_n 0, 1) := by decide +kernel
theorem d_Mo_listWants_649 : decode b_Mo_listWants 649 = .ok (.getfield 153, 3) := by decide +kernel
theorem d_Mo_listWants_652 : decode b_Mo_listWants 652 = .ok (.iadd, 1) := by decide +kernel
theorem d_Mo_listWants_653 : decode b_Mo_listWants 653 = .ok (.iconst 1, 1) := by decide +kernel
theorem d_Mo_listWants_654 : decode b_Mo_listWants 654 = .ok (.iadd, 1) := by decide +kernel
theorem d_Mo_listWants_655 : decode b_Mo_listWants 655 = .ok (.invokevirtual 826, 3) := by decide +kernel
theorem d_Mo_listWants_658 : decode b_Mo_listWants 658 = .ok (.goto 42, 3) := by decide +kernel
theorem d_Mo_listWants_661 : decode b_Mo_listWants 661 = .ok (.aload_n 0, 1) := by decide +kernel
theorem d_Mo_listWants_662 : decode b_Mo_listWants 662 = .ok (.getfield 83, 3) := by decide +kernel
theorem d_Mo_listWants_665 : decode b_Mo_listWants 665 = .ok (.aload_n 0, 1) := by decide +kernel
theorem d_Mo_listWants_666 : decode b_Mo_listWants 666 = .ok (.getfield 522, 3) := by decide +kernel
theorem d_Mo_listWants_669 : decode b_Mo_listWants 669 = .ok (.getfield 450, 3) := by decide +kernel
theorem d_Mo_listWants_672 : decode b_Mo_listWants 672 = .ok (.aload_n 0, 1) := by decide +kernel
theorem d_Mo_listWants_673 : decode b_Mo_listWants 673 = .ok (.getfield 768, 3) := by decide +kernel
theorem d_Mo_listWants_676 : decode b_Mo_listWants 676 = .ok (.iaload, 1) := by decide +kernel
theorem d_Mo_listWants_677 : decode b_Mo_listWants 677 = .ok (.iaload, 1) := by decide +kernel
theorem d_Mo_listWants_678 : decode b_Mo_listWants 678 = .ok (.istore 4, 2) := by decide +kernel
theorem d_Mo_listWants_680 : decode b_Mo_listWants 680 = .ok (.aload_n 0, 1) := by decide +kernel
theorem d_Mo_listWants_681 : decode b_Mo_listWants 681 = .ok (.iload 4, 2) := by decide +kernel
theorem d_Mo_listWants_683 : decode b_Mo_listWants 683 = .ok (.iconst 1, 1) := by decide +kernel
theorem d_Mo_listWants_684 : decode b_Mo_listWants 684 = .ok (.if_icmp .le 8, 3) := by decide +kernel
theorem d_Mo_listWants_687 : decode b_Mo_listWants 687 = .ok (.iload 4, 2) := by decide +kernel
theorem d_Mo_listWants_689 : decode b_Mo_listWants 689 = .ok (.goto 5, 3) := by decide +kernel
theorem d_Mo_listWants_692 : decode b_Mo_listWants 692 = .ok (.bipush 6, 2) := by decide +kernel
theorem d_Mo_listWants_694 : decode b_Mo_listWants 694 = .ok (.invokevirtual 826, 3) := by decide +kernel
theorem d_Mo_listWants_697 : decode b_Mo_listWants 697 = .ok (.goto 3, 3) := by decide +kernel
theorem d_Mo_listWants_700 : decode b_Mo_listWants 700 = .ok (.return_, 1) := by decide +kernel
abbrev ru_Mo_listWants : Room := { frames := 1, cells := 0, slots := 0, locals := 21 }
def wj_Mo_listWants_69 (y : Ly) (Post : St → Prop) (a0 : Nat) (s_j69 : St) : Prop := wu_Mo_want y (fun (s_3 : St) => Post s_3) s_j69 a0 1
def wj_Mo_listWants_700 (y : Ly) (Post : St → Prop) (a0 : Nat) (s_j700 : St) : Prop := Post s_j700
def wj_Mo_listWants_639 (y : Ly) (Post : St → Prop) (a0 : Nat) (s_j639 : St) (z1j639 : Int32) : Prop := wu_Mo_want y (fun (s_77 : St) => wj_Mo_listWants_700 y Post a0 s_77) s_j639 a0 z1j639
def wj_Mo_listWants_694 (y : Ly) (Post : St → Prop) (a0 : Nat) (s_j694 : St) (z1j694 : Int32) : Prop := wu_Mo_want y (fun (s_100 : St) => wj_Mo_listWants_700 y Post a0 s_100) s_j694 a0 z1j694
def wb_Mo_listWants_150 (y : Ly) (Post : St → Prop) (K_150 : St → Int32 → Int32 → Int32 → Int32 → Prop) (a0 : Nat) (s_h150 : St) (x1h150 : Int32) (x2h150 : Int32) (x3h150 : Int32) (x4h150 : Int32) : Prop := ((x4h150 < 0 → ((x1h150 = 6 → wu_Mo_want y (fun (s_5 : St) => wj_Mo_listWants_700 y Post a0 s_5) s_h150 a0 7) ∧ (¬ (x1h150 = 6) → ((x1h150 = 7 → wj_Mo_listWants_700 y Post a0 s_h150) ∧ (¬ (x1h150 = 7) → ((x1h150 = 8 → wj_Mo_listWants_700 y Post a0 s_h150) ∧ (¬ (x1h150 = 8) → ((x1h150 = 9 → wj_Mo_listWants_700 y Post a0 s_h150) ∧ (¬ (x1h150 = 9) → ((x1h150 = 10 → wj_Mo_listWants_700 y Post a0 s_h150) ∧ (¬ (x1h150 = 10) → ((x1h150 = 11 → wj_Mo_listWants_700 y Post a0 s_h150) ∧ (¬ (x1h150 = 11) → ((x1h150 = 12 → wj_Mo_listWants_700 y Post a0 s_h150) ∧ (¬ (x1h150 = 12) → ((x1h150 = 13 → wj_Mo_listWants_700 y Post a0 s_h150) ∧ (¬ (x1h150 = 13) → ((x1h150 = 14 → wj_Mo_listWants_700 y Post a0 s_h150) ∧ (¬ (x1h150 = 14) → ((x1h150 = 15 → wj_Mo_listWants_700 y Post a0 s_h150) ∧ (¬ (x1h150 = 15) → ((x1h150 = 16 → wj_Mo_listWants_700 y Post a0 s_h150) ∧ (¬ (x1h150 = 16) → ((x1h150 = 17 → wj_Mo_listWants_700 y Post a0 s_h150) ∧ (¬ (x1h150 = 17) → ((x1h150 = 18 → wj_Mo_listWants_700 y Post a0 s_h150) ∧ (¬ (x1h150 = 18) → ((x1h150 = 19 → wu_Mo_want y (fun (s_7 : St) => wj_Mo_listWants_700 y Post a0 s_7) s_h150 a0 8) ∧ (¬ (x1h150 = 19) → ((x1h150 = 20 → wu_Mo_want y (fun (s_9 : St) => wj_Mo_listWants_700 y Post a0 s_9) s_h150 a0 8) ∧ (¬ (x1h150 = 20) → ((x1h150 = 21 → wu_Mo_want y (fun (s_11 : St) => wu_Mo_want y (fun (s_13 : St) => wj_Mo_listWants_700 y Post a0 s_13) s_11 a0 8) s_h150 a0 8) ∧ (¬ (x1h150 = 21) → ((x1h150 = 22 → wu_Mo_want y (fun (s_15 : St) => wu_Mo_want y (fun (s_17 : St) => wj_Mo_listWants_700 y Post a0 s_17) s_15 a0 8) s_h150 a0 8) ∧ (¬ (x1h150 = 22) → ((x1h150 = 23 → wj_Mo_listWants_700 y Post a0 s_h150) ∧ (¬ (x1h150 = 23) → ((x1h150 = 24 → wj_Mo_listWants_700 y Post a0 s_h150) ∧ (¬ (x1h150 = 24) → ((x1h150 = 25 → wj_Mo_listWants_700 y Post a0 s_h150) ∧ (¬ (x1h150 = 25) → ((x1h150 = 26 → wj_Mo_listWants_700 y Post a0 s_h150) ∧ (¬ (x1h150 = 26) → ((x1h150 = 27 → wj_Mo_listWants_700 y Post a0 s_h150) ∧ (¬ (x1h150 = 27) → ((x1h150 = 28 → wj_Mo_listWants_700 y Post a0 s_h150) ∧ (¬ (x1h150 = 28) → ((x1h150 = 29 → wj_Mo_listWants_700 y Post a0 s_h150) ∧ (¬ (x1h150 = 29) → ((x1h150 = 30 → wj_Mo_listWants_700 y Post a0 s_h150) ∧ (¬ (x1h150 = 30) → ((x1h150 = 31 → wj_Mo_listWants_700 y Post a0 s_h150) ∧ (¬ (x1h150 = 31) → ((x1h150 = 32 → wj_Mo_listWants_700 y Post a0 s_h150) ∧ (¬ (x1h150 = 32) → ((x1h150 = 33 → wj_Mo_listWants_700 y Post a0 s_h150) ∧ (¬ (x1h150 = 33) → ((x1h150 = 34 → wj_Mo_listWants_700 y Post a0 s_h150) ∧ (¬ (x1h150 = 34) → ((x1h150 = 35 → wj_Mo_listWants_700 y Post a0 s_h150) ∧ (¬ (x1h150 = 35) → ((x1h150 = 36 → wu_Mo_want y (fun (s_19 : St) => wj_Mo_listWants_700 y Post a0 s_19) s_h150 a0 6) ∧ (¬ (x1h150 = 36) → ((x1h150 = 37 → wu_Mo_want y (fun (s_21 : St) => wj_Mo_listWants_700 y Post a0 s_21) s_h150 a0 6) ∧ (¬ (x1h150 = 37) → ((x1h150 = 38 → wu_Mo_want y (fun (s_23 : St) => wu_Mo_want y (fun (s_25 : St) => wj_Mo_listWants_700 y Post a0 s_25) s_23 a0 6) s_h150 a0 6) ∧ (¬ (x1h150 = 38) → ((x1h150 = 39 → wu_Mo_want y (fun (s_27 : St) => wu_Mo_want y (fun (s_29 : St) => wj_Mo_listWants_700 y Post a0 s_29) s_27 a0 6) s_h150 a0 6) ∧ (¬ (x1h150 = 39) → ((x1h150 = 40 → wj_Mo_listWants_700 y Post a0 s_h150) ∧ (¬ (x1h150 = 40) → ((x1h150 = 41 → wj_Mo_listWants_700 y Post a0 s_h150) ∧ (¬ (x1h150 = 41) → ((x1h150 = 42 → wj_Mo_listWants_700 y Post a0 s_h150) ∧ (¬ (x1h150 = 42) → ((x1h150 = 43 → wu_Mo_want y (fun (s_31 : St) => wu_Mo_want y (fun (s_33 : St) => wj_Mo_listWants_700 y Post a0 s_33) s_31 a0 2) s_h150 a0 1) ∧ (¬ (x1h150 = 43) → ((x1h150 = 44 → wu_Mo_want y (fun (s_35 : St) => wu_Mo_want y (fun (s_37 : St) => wu_Mo_want y (fun (s_39 : St) => wj_Mo_listWants_700 y Post a0 s_39) s_37 a0 2) s_35 a0 1) s_h150 a0 1) ∧ (¬ (x1h150 = 44) → ((x1h150 = 45 → wu_Mo_want y (fun (s_41 : St) => wj_Mo_listWants_700 y Post a0 s_41) s_h150 a0 2) ∧ (¬ (x1h150 = 45) → ((x1h150 = 46 → ∃ b_42 : Nat, sO s_h150 a0 45 = some b_42 ∧ cl b_42 = 13 ∧ xA y s_h150 b_42 31 x2h150 (fun x_45 : Int32 => wu_Mo_want y (fun (s_47 : St) => wj_Mo_listWants_700 y Post a0 s_47) s_h150 a0 (16 + x_45))) ∧ (¬ (x1h150 = 46) → ((x1h150 = 47 → ∃ b_48 : Nat, sO s_h150 a0 45 = some b_48 ∧ cl b_48 = 13 ∧ xA y s_h150 b_48 33 x2h150 (fun x_51 : Int32 => wu_Mo_want y (fun (s_53 : St) => ∃ b_54 : Nat, sO s_53 a0 45 = some b_54 ∧ cl b_54 = 13 ∧ xA y s_53 b_54 31 x2h150 (fun x_57 : Int32 => wu_Mo_want y (fun (s_59 : St) => wj_Mo_listWants_700 y Post a0 s_59) s_53 a0 (16 + x_57))) s_h150 a0 x_51)) ∧ (¬ (x1h150 = 47) → ((x1h150 = 48 → wj_Mo_listWants_700 y Post a0 s_h150) ∧ (¬ (x1h150 = 48) → ((x1h150 = 49 → ∃ b_60 : Nat, sO s_h150 a0 45 = some b_60 ∧ cl b_60 = 13 ∧ xA y s_h150 b_60 33 x2h150 (fun x_63 : Int32 => wu_Mo_want y (fun (s_65 : St) => wj_Mo_listWants_700 y Post a0 s_65) s_h150 a0 x_63)) ∧ (¬ (x1h150 = 49) → ((x1h150 = 50 → ∃ b_66 : Nat, sO s_h150 a0 45 = some b_66 ∧ cl b_66 = 13 ∧ xA y s_h150 b_66 31 x2h150 (fun x_69 : Int32 => wu_Mo_want y (fun (s_71 : St) => wj_Mo_listWants_700 y Post a0 s_71) s_h150 a0 (16 + x_69))) ∧ (¬ (x1h150 = 50) → ((x1h150 = 51 → ∃ b_72 : Nat, sO s_h150 a0 45 = some b_72 ∧ cl b_72 = 13 ∧ xA y s_h150 b_72 32 x2h150 (fun x_75 : Int32 => ((¬ x_75 = (sV s_h150 a0 6) → ∃ b_78 : Nat, sO s_h150 a0 45 = some b_78 ∧ cl b_78 = 13 ∧ xA y s_h150 b_78 3 (sV s_h150 a0 76) (fun x_81 : Int32 => wj_Mo_listWants_639 y Post a0 s_h150 (16 + x_81))) ∧ (x_75 = (sV s_h150 a0 6) → wj_Mo_listWants_639 y Post a0 s_h150 8)))) ∧ (¬ (x1h150 = 51) → ((x1h150 = 52 → wj_Mo_listWants_700 y Post a0 s_h150) ∧ (¬ (x1h150 = 52) → ((x1h150 = 53 → ∃ b_82 : Nat, sO s_h150 a0 45 = some b_82 ∧ cl b_82 = 13 ∧ xA y s_h150 b_82 31 x2h150 (fun x_85 : Int32 => wu_Mo_want y (fun (s_87 : St) => wj_Mo_listWants_700 y Post a0 s_87) s_h150 a0 (16 + x_85))) ∧ (¬ (x1h150 = 53) → ((x1h150 = 54 → wu_Mo_want y (fun (s_89 : St) => wj_Mo_listWants_700 y Post a0 s_89) s_h150 a0 6) ∧ (¬ (x1h150 = 54) → ((x1h150 = 55 → wu_Mo_want y (fun (s_91 : St) => wj_Mo_listWants_700 y Post a0 s_91) s_h150 a0 6) ∧ (¬ (x1h150 = 55) → ((x1h150 = 56 → wu_Mo_want y (fun (s_93 : St) => wj_Mo_listWants_700 y Post a0 s_93) s_h150 a0 ((16 + (sV s_h150 a0 8)) + 1)) ∧ (¬ (x1h150 = 56) → ((x1h150 = 57 → wj_Mo_listWants_700 y Post a0 s_h150) ∧ (¬ (x1h150 = 57) → ((x1h150 = 58 → wj_Mo_listWants_700 y Post a0 s_h150) ∧ (¬ (x1h150 = 58) → ((x1h150 = 59 → ∃ b_94 : Nat, sO s_h150 a0 45 = some b_94 ∧ cl b_94 = 13 ∧ xA y s_h150 b_94 19 (sV s_h150 a0 75) (fun x_97 : Int32 => xA y s_h150 a0 32 x_97 (fun x_98 : Int32 => ((x_98 ≤ 1 → wj_Mo_listWants_694 y Post a0 s_h150 6) ∧ (¬ (x_98 ≤ 1) → wj_Mo_listWants_694 y Post a0 s_h150 x_98))))) ∧ (¬ (x1h150 = 59) → ((x1h150 = 60 → wu_Mo_want y (fun (s_102 : St) => wj_Mo_listWants_700 y Post a0 s_102) s_h150 a0 6) ∧ (¬ (x1h150 = 60) → ((x1h150 = 61 → wu_Mo_want y (fun (s_104 : St) => wj_Mo_listWants_700 y Post a0 s_104) s_h150 a0 6) ∧ (¬ (x1h150 = 61) → wj_Mo_listWants_700 y Post a0 s_h150))))))))))))))))))))))))))))))))))))))))))))))))))))))))))))))))))))))))))))))))))))))))))))))))))))))))))))))))) ∧ (¬ (x4h150 < 0) → xA y s_h150 a0 30 x3h150 (fun x_105 : Int32 => xA y s_h150 a0 35 (x_105 + x4h150) (fun x_106 : Int32 => wu_Mo_want y (fun (s_108 : St) => K_150 s_108 x1h150 x2h150 x3h150 (x4h150 + (-1))) s_h150 a0 x_106))))
def wl_Mo_listWants_150 (y : Ly) (Post : St → Prop) (a0 : Nat) (s_h150 : St) (x1h150 : Int32) (x2h150 : Int32) (x3h150 : Int32) (x4h150 : Int32) : Prop := ∃ (I : St → Int32 → Int32 → Int32 → Int32 → Prop) (μ : St → Int32 → Int32 → Int32 → Int32 → Nat), I s_h150 x1h150 x2h150 x3h150 x4h150 ∧ ∀ (u : St) (t0 : Int32) (t1 : Int32) (t2 : Int32) (t3 : Int32), I u t0 t1 t2 t3 → wb_Mo_listWants_150 y Post (fun z t0q t1q t2q t3q => I z t0q t1q t2q t3q ∧ μ z t0q t1q t2q t3q < μ u t0 t1 t2 t3) a0 u t0 t1 t2 t3
def wj_Mo_listWants_148 (y : Ly) (Post : St → Prop) (a0 : Nat) (s_j148 : St) (x1j148 : Int32) (x2j148 : Int32) (x3j148 : Int32) (z0j148 : Int32) : Prop := wl_Mo_listWants_150 y Post a0 s_j148 x1j148 x2j148 x3j148 z0j148
def wj_Mo_listWants_147 (y : Ly) (Post : St → Prop) (a0 : Nat) (s_j147 : St) (x1j147 : Int32) (x2j147 : Int32) (x3j147 : Int32) : Prop := wj_Mo_listWants_148 y Post a0 s_j147 x1j147 x2j147 x3j147 (-1)
def wj_Mo_listWants_123 (y : Ly) (Post : St → Prop) (a0 : Nat) (s_j123 : St) (x1j123 : Int32) (x2j123 : Int32) (z0j123 : Int32) : Prop := ((x1j123 < 50 → wj_Mo_listWants_147 y Post a0 s_j123 x1j123 x2j123 z0j123) ∧ (¬ (x1j123 < 50) → ((53 < x1j123 → wj_Mo_listWants_147 y Post a0 s_j123 x1j123 x2j123 z0j123) ∧ (¬ (53 < x1j123) → xA y s_j123 a0 31 z0j123 (fun x_109 : Int32 => wj_Mo_listWants_148 y Post a0 s_j123 x1j123 x2j123 z0j123 (x_109 - 1))))))
def wj_Mo_listWants_122 (y : Ly) (Post : St → Prop) (a0 : Nat) (s_j122 : St) (x1j122 : Int32) (x2j122 : Int32) : Prop := wj_Mo_listWants_123 y Post a0 s_j122 x1j122 x2j122 0
def wj_Mo_listWants_98 (y : Ly) (Post : St → Prop) (a0 : Nat) (s_j98 : St) (x1j98 : Int32) (x2j98 : Int32) : Prop := ((x1j98 < 50 → wj_Mo_listWants_122 y Post a0 s_j98 x1j98 x2j98) ∧ (¬ (x1j98 < 50) → ((53 < x1j98 → wj_Mo_listWants_122 y Post a0 s_j98 x1j98 x2j98) ∧ (¬ (53 < x1j98) → ∃ b_110 : Nat, sO s_j98 a0 45 = some b_110 ∧ cl b_110 = 13 ∧ xA y s_j98 b_110 33 x2j98 (fun x_113 : Int32 => wj_Mo_listWants_123 y Post a0 s_j98 x1j98 x2j98 x_113)))))
def wj_Mo_listWants_46 (y : Ly) (Post : St → Prop) (a0 : Nat) (s_j46 : St) (x1j46 : Int32) (x2j46 : Int32) : Prop := ((x1j46 = 40 → wj_Mo_listWants_69 y Post a0 s_j46) ∧ (¬ (x1j46 = 40) → ((x1j46 = 5 → wj_Mo_listWants_69 y Post a0 s_j46) ∧ (¬ (x1j46 = 5) → ((x1j46 = 42 → wj_Mo_listWants_69 y Post a0 s_j46) ∧ (¬ (x1j46 = 42) → ((¬ x1j46 = 58 → ((x1j46 < 30 → wj_Mo_listWants_98 y Post a0 s_j46 x1j46 x2j46) ∧ (¬ (x1j46 < 30) → ((35 < x1j46 → wj_Mo_listWants_98 y Post a0 s_j46 x1j46 x2j46) ∧ (¬ (35 < x1j46) → wu_Mo_want y (fun (s_115 : St) => wu_Mo_want y (fun (s_117 : St) => Post s_117) s_115 a0 1) s_j46 a0 1))))) ∧ (x1j46 = 58 → wj_Mo_listWants_69 y Post a0 s_j46))))))))
def wj_Mo_listWants_34 (y : Ly) (Post : St → Prop) (a0 : Nat) (s_j34 : St) (x1j34 : Int32) (x2j34 : Int32) : Prop := ((x1j34 < 24 → wj_Mo_listWants_46 y Post a0 s_j34 x1j34 x2j34) ∧ (¬ (x1j34 < 24) → ((x1j34 ≤ 29 → wj_Mo_listWants_69 y Post a0 s_j34) ∧ (¬ (x1j34 ≤ 29) → wj_Mo_listWants_46 y Post a0 s_j34 x1j34 x2j34))))
def wj_Mo_listWants_33 (y : Ly) (Post : St → Prop) (a0 : Nat) (s_j33 : St) : Prop := Post s_j33
def wu_Mo_listWants (y : Ly) (Post : St → Prop) (σ : St) (a0 : Nat) (v1 : Int32) (v2 : Int32) : Prop := xP (uV σ a0 79 0) (fun s_1 : St => ((v1 < 8 → wj_Mo_listWants_34 y Post a0 s_1 v1 v2) ∧ (¬ (v1 < 8) → ((18 < v1 → wj_Mo_listWants_34 y Post a0 s_1 v1 v2) ∧ (¬ (18 < v1) → wu_Mo_want y (fun (s_119 : St) => ((v1 = 13 → wj_Mo_listWants_33 y Post a0 s_119) ∧ (¬ (v1 = 13) → wu_Mo_want y (fun (s_121 : St) => wj_Mo_listWants_33 y Post a0 s_121) s_119 a0 1))) s_1 a0 1)))))
set_option maxHeartbeats 4000000 in
set_option maxRecDepth 100000 in
theorem cu_Mo_listWants (l : Launch) (D : va_G) (g : Nat → ClassId) (ad : Nat → Nat) (y : Ly) (Post : St → Prop) (σ : St) (a0 : Nat) (v1 : Int32) (v2 : Int32) (sz : Nat) (h_a0 : cl a0 = 14) (h : wu_Mo_listWants y Post σ a0 v1 v2) : Met l y_Mo_listWants (mw y_Mo_listWants b_Mo_listWants 5 (none)) ru_Mo_listWants (PC g D [] [.ref (ad a0), .int v1, .int v2] sz (ws g ad y σ)) (va_Qv (fun u : St => Post u) (QW D (va_A (ws g ad y σ) sz) (fun u => ws g ad y u)) (va_A (ws g ad y σ) sz)) 0 0 (va_A (ws g ad y σ) sz) := by
  refine ofV (by decide +kernel) (Nat.le_of_ble_eq_true rfl) ?_
  intro p e s m args below meth c A Q ls H locs G hsz hP hD hS hl hret
  subst hsz
  have hl : lv_has ls 5 [(0, .ref (ad a0)), (1, .int v1), (2, .int v2)] := hl
  unfold wu_Mo_listWants at h
  refine lv_aload_n G.1 G.2.1 d_Mo_listWants_0 rfl (lv_at hl 0 rfl) ?_
  refine lv_iconst (v := 0) G.1 G.2.1 d_Mo_listWants_1 (by decide) ?_
  refine upf G hP hD hS h 79 putV h_a0 iMo tMo tMo_ok nMo rfl (by decide) rfl q3143 rfl rfl fV rfl rfl d_Mo_listWants_2 (fun s_1 H locs h hP hD hS => ?_)
  refine lv_iload_n G.1 G.2.1 d_Mo_listWants_5 rfl (lv_at hl 1 rfl) ?_
  refine lv_bipush (v := 8) G.1 G.2.1 d_Mo_listWants_6 (by decide) ?_
  have J_34 : ∀ (s_j34 : St) (x1j34 : Int32) (x2j34 : Int32) (H : Heap) (locs : List Loc), wj_Mo_listWants_34 y Post a0 s_j34 x1j34 x2j34 → va_P D CL (ws g ad y s_j34) H → va_D A (ws g ad y s_j34) → va_S A s.heap H locs → ∀ ls, lv_has ls 5 [(0, .ref (ad a0)), (1, .int x1j34), (2, .int x2j34)] → W p l e ru_Mo_listWants s m args below meth c H locs 0 0 Q (F0 m 34 ls []) := by
    intro s_j34 x1j34 x2j34 H locs h hP hD hS ls hl
    unfold wj_Mo_listWants_34 at h
    refine lv_iload_n G.1 G.2.1 d_Mo_listWants_34 rfl (lv_at hl 1 rfl) ?_
    refine lv_bipush (v := 24) G.1 G.2.1 d_Mo_listWants_35 (by decide) ?_
    have J_69 : ∀ (s_j69 : St) (H : Heap) (locs : List Loc), wj_Mo_listWants_69 y Post a0 s_j69 → va_P D CL (ws g ad y s_j69) H → va_D A (ws g ad y s_j69) → va_S A s.heap H locs → ∀ ls, lv_has ls 5 [(0, .ref (ad a0))] → W p l e ru_Mo_listWants s m args below meth c H locs 0 0 Q (F0 m 69 ls []) := by
      intro s_j69 H locs h hP hD hS ls hl
      unfold wj_Mo_listWants_69 at h
      refine lv_aload_n G.1 G.2.1 d_Mo_listWants_69 rfl (lv_at hl 0 rfl) ?_
      refine lv_iconst (v := 1) G.1 G.2.1 d_Mo_listWants_70 (by decide) ?_
      refine ucVv (As := [.int 1]) (rest := []) G hP hD hS (cu_Mo_want l D g ad y _ s_j69 a0 1 H.size h_a0 h) w9_Mo_want q3757 ⟨Nat.le_of_ble_eq_true rfl, Nat.le_of_ble_eq_true rfl⟩ rfl rfl h_a0 (q := (RMo, TMo, 131)) rfl rfl hl.1 rfl (Nat.le_of_ble_eq_true rfl) rfl ⟨Nat.le_refl _, Nat.le_refl _⟩ d_Mo_listWants_71 (fun s_3 H locs h hP hD hS => ?_)
      exact hret _ _ _ _ _ _ ls h hP hD hS (Nat.le_refl _) (Nat.le_refl _) d_Mo_listWants_74
    have J_46 : ∀ (s_j46 : St) (x1j46 : Int32) (x2j46 : Int32) (H : Heap) (locs : List Loc), wj_Mo_listWants_46 y Post a0 s_j46 x1j46 x2j46 → va_P D CL (ws g ad y s_j46) H → va_D A (ws g ad y s_j46) → va_S A s.heap H locs → ∀ ls, lv_has ls 5 [(0, .ref (ad a0)), (1, .int x1j46), (2, .int x2j46)] → W p l e ru_Mo_listWants s m args below meth c H locs 0 0 Q (F0 m 46 ls []) := by
      intro s_j46 x1j46 x2j46 H locs h hP hD hS ls hl
      unfold wj_Mo_listWants_46 at h
      refine lv_iload_n G.1 G.2.1 d_Mo_listWants_46 rfl (lv_at hl 1 rfl) ?_
      refine lv_bipush (v := 40) G.1 G.2.1 d_Mo_listWants_47 (by decide) ?_
      refine lv_icmp_eq (tgt := 69) G.1 G.2.1 d_Mo_listWants_49 (by decide) (fun c49 => ?_) (fun c49 => ?_)
      · skip
        have h := h.1 c49
        exact J_69 s_j46 H locs h hP hD hS ls (lv_sub hl [0] rfl)
      · skip
        have h := h.2 c49
        refine lv_iload_n G.1 G.2.1 d_Mo_listWants_52 rfl (lv_at hl 1 rfl) ?_
        refine lv_iconst (v := 5) G.1 G.2.1 d_Mo_listWants_53 (by decide) ?_
        refine lv_icmp_eq (tgt := 69) G.1 G.2.1 d_Mo_listWants_54 (by decide) (fun c54 => ?_) (fun c54 => ?_)
        · skip
          have h := h.1 c54
          exact J_69 s_j46 H locs h hP hD hS ls (lv_sub hl [0] rfl)
        · skip
          have h := h.2 c54
          refine lv_iload_n G.1 G.2.1 d_Mo_listWants_57 rfl (lv_at hl 1 rfl) ?_
          refine lv_bipush (v := 42) G.1 G.2.1 d_Mo_listWants_58 (by decide) ?_
          refine lv_icmp_eq (tgt := 69) G.1 G.2.1 d_Mo_listWants_60 (by decide) (fun c60 => ?_) (fun c60 => ?_)
          · skip
            have h := h.1 c60
            exact J_69 s_j46 H locs h hP hD hS ls (lv_sub hl [0] rfl)
          · skip
            have h := h.2 c60
            refine lv_iload_n G.1 G.2.1 d_Mo_listWants_63 rfl (lv_at hl 1 rfl) ?_
            refine lv_bipush (v := 58) G.1 G.2.1 d_Mo_listWants_64 (by decide) ?_
            refine W.eq (g2 := F0 m 66 ls [.int 58, .int x1j46]) rfl ?_
            refine lv_icmp_ne (tgt := 75) G.1 G.2.1 d_Mo_listWants_66 (by decide) (fun c66 => ?_) (fun c66 => ?_)
            · skip
              have h := h.1 c66
              refine lv_iload_n G.1 G.2.1 d_Mo_listWants_75 rfl (lv_at hl 1 rfl) ?_
              refine lv_bipush (v := 30) G.1 G.2.1 d_Mo_listWants_76 (by decide) ?_
              have J_98 : ∀ (s_j98 : St) (x1j98 : Int32) (x2j98 : Int32) (H : Heap) (locs : List Loc), wj_Mo_listWants_98 y Post a0 s_j98 x1j98 x2j98 → va_P D CL (ws g ad y s_j98) H → va_D A (ws g ad y s_j98) → va_S A s.heap H locs → ∀ ls, lv_has ls 5 [(0, .ref (ad a0)), (1, .int x1j98), (2, .int x2j98)] → W p l e ru_Mo_listWants s m args below meth c H locs 0 0 Q (F0 m 98 ls []) := by
                intro s_j98 x1j98 x2j98 H locs h hP hD hS ls hl
                unfold wj_Mo_listWants_98 at h
                refine lv_iload_n G.1 G.2.1 d_Mo_listWants_98 rfl (lv_at hl 1 rfl) ?_
                refine lv_bipush (v := 50) G.1 G.2.1 d_Mo_listWants_99 (by decide) ?_
                have J_123 : ∀ (s_j123 : St) (x1j123 : Int32) (x2j123 : Int32) (z0j123 : Int32) (H : Heap) (locs : List Loc), wj_Mo_listWants_123 y Post a0 s_j123 x1j123 x2j123 z0j123 → va_P D CL (ws g ad y s_j123) H → va_D A (ws g ad y s_j123) → va_S A s.heap H locs → ∀ ls, lv_has ls 5 [(0, .ref (ad a0)), (1, .int x1j123), (2, .int x2j123)] → W p l e ru_Mo_listWants s m args below meth c H locs 0 0 Q (F0 m 123 ls [.int z0j123]) := by
                  intro s_j123 x1j123 x2j123 z0j123 H locs h hP hD hS ls hl
                  unfold wj_Mo_listWants_123 at h
                  refine lv_istore_n (lv' := [(3, .int z0j123), (0, .ref (ad a0)), (1, .int x1j123), (2, .int x2j123)]) G.1 G.2.1 d_Mo_listWants_123 rfl hl (by decide) rfl (fun ls hl => ?_)
                  refine lv_iload_n G.1 G.2.1 d_Mo_listWants_124 rfl (lv_at hl 2 rfl) ?_
                  refine lv_bipush (v := 50) G.1 G.2.1 d_Mo_listWants_125 (by decide) ?_
                  have J_148 : ∀ (s_j148 : St) (x1j148 : Int32) (x2j148 : Int32) (x3j148 : Int32) (z0j148 : Int32) (H : Heap) (locs : List Loc), wj_Mo_listWants_148 y Post a0 s_j148 x1j148 x2j148 x3j148 z0j148 → va_P D CL (ws g ad y s_j148) H → va_D A (ws g ad y s_j148) → va_S A s.heap H locs → ∀ ls, lv_has ls 5 [(0, .ref (ad a0)), (1, .int x1j148), (2, .int x2j148), (3, .int x3j148)] → W p l e ru_Mo_listWants s m args below meth c H locs 0 0 Q (F0 m 148 ls [.int z0j148]) := by
                    intro s_j148 x1j148 x2j148 x3j148 z0j148 H locs h hP hD hS ls hl
                    unfold wj_Mo_listWants_148 at h
                    refine lv_istore (lv' := [(4, .int z0j148), (0, .ref (ad a0)), (1, .int x1j148), (2, .int x2j148), (3, .int x3j148)]) G.1 G.2.1 d_Mo_listWants_148 hl (by decide) rfl (fun ls hl => ?_)
                    unfold wl_Mo_listWants_150 at h
                    obtain ⟨I_150, μ_150, hI_150, hB_150⟩ := h
                    have L_150 : ∀ (n_150 : Nat) (s_h150 : St) (x1h150 : Int32) (x2h150 : Int32) (x3h150 : Int32) (x4h150 : Int32), μ_150 s_h150 x1h150 x2h150 x3h150 x4h150 < n_150 → I_150 s_h150 x1h150 x2h150 x3h150 x4h150 → ∀ (H : Heap) (locs : List Loc), va_P D CL (ws g ad y s_h150) H → va_D A (ws g ad y s_h150) → va_S A s.heap H locs → ∀ ls, lv_has ls 5 [(0, .ref (ad a0)), (1, .int x1h150), (2, .int x2h150), (3, .int x3h150), (4, .int x4h150)] → W p l e ru_Mo_listWants s m args below meth c H locs 0 0 Q (F0 m 150 ls []) := by
                      intro n_150
                      induction n_150 with
                      | zero => intro s_h150 x1h150 x2h150 x3h150 x4h150 hμ; exact absurd hμ (Nat.not_lt_zero _)
                      | succ n_150 ih_150 =>
                        intro s_h150 x1h150 x2h150 x3h150 x4h150 hμ_150 hJ H locs hP hD hS ls hl
                        obtain ⟨K_150, hK_150, h⟩ : ∃ K : St → Int32 → Int32 → Int32 → Int32 → Prop, (∀ z (t0 : Int32) (t1 : Int32) (t2 : Int32) (t3 : Int32), K z t0 t1 t2 t3 → I_150 z t0 t1 t2 t3 ∧ μ_150 z t0 t1 t2 t3 < μ_150 s_h150 x1h150 x2h150 x3h150 x4h150) ∧ wb_Mo_listWants_150 y Post K a0 s_h150 x1h150 x2h150 x3h150 x4h150 := ⟨_, fun _ _ _ _ _ h => h, hB_150 s_h150 x1h150 x2h150 x3h150 x4h150 hJ⟩
                        unfold wb_Mo_listWants_150 at h
                        refine lv_iload G.1 G.2.1 d_Mo_listWants_150 (lv_at hl 4 rfl) ?_
                        refine lv_if_lt (tgt := 179) G.1 G.2.1 d_Mo_listWants_152 (by decide) (fun c152 => ?_) (fun c152 => ?_)
                        · skip
                          have h := h.1 c152
                          refine lv_iload_n G.1 G.2.1 d_Mo_listWants_179 rfl (lv_at hl 1 rfl) ?_
                          have J_700 : ∀ (s_j700 : St) (H : Heap) (locs : List Loc), wj_Mo_listWants_700 y Post a0 s_j700 → va_P D CL (ws g ad y s_j700) H → va_D A (ws g ad y s_j700) → va_S A s.heap H locs → ∀ ls, lv_has ls 5 [] → W p l e ru_Mo_listWants s m args below meth c H locs 0 0 Q (F0 m 700 ls []) := by
                            intro s_j700 H locs h hP hD hS ls hl
                            unfold wj_Mo_listWants_700 at h
                            exact hret _ _ _ _ _ _ ls h hP hD hS (Nat.le_refl _) (Nat.le_refl _) d_Mo_listWants_700
                          by_cases e180_6 : x1h150 = 6
                          · skip
                            have h := h.1 e180_6
                            refine lv_tableIn (off := 240) (tgt := 420) G.1 G.2.1 d_Mo_listWants_180 (by rw [e180_6]; decide) (by rw [e180_6]; decide) (by rw [e180_6]; rfl) (by decide) ?_
                            refine lv_aload_n G.1 G.2.1 d_Mo_listWants_420 rfl (lv_at hl 0 rfl) ?_
                            refine lv_bipush (v := 7) G.1 G.2.1 d_Mo_listWants_421 (by decide) ?_
                            refine ucVv (As := [.int 7]) (rest := []) G hP hD hS (cu_Mo_want l D g ad y _ s_h150 a0 7 H.size h_a0 h) w9_Mo_want q3757 ⟨Nat.le_of_ble_eq_true rfl, Nat.le_of_ble_eq_true rfl⟩ rfl rfl h_a0 (q := (RMo, TMo, 131)) rfl rfl hl.1 rfl (Nat.le_of_ble_eq_true rfl) rfl ⟨Nat.le_refl _, Nat.le_refl _⟩ d_Mo_listWants_423 (fun s_5 H locs h hP hD hS => ?_)
                            refine lv_goto (tgt := 700) G.1 G.2.1 d_Mo_listWants_426 (by decide) ?_
                            exact J_700 s_5 H locs h hP hD hS ls (lv_sub hl [] rfl)
                          replace h := h.2 e180_6
                          by_cases e180_7 : x1h150 = 7
                          · skip
                            have h := h.1 e180_7
                            refine lv_tableIn (off := 520) (tgt := 700) G.1 G.2.1 d_Mo_listWants_180 (by rw [e180_7]; decide) (by rw [e180_7]; decide) (by rw [e180_7]; rfl) (by decide) ?_
                            exact J_700 s_h150 H locs h hP hD hS ls (lv_sub hl [] rfl)
                          replace h := h.2 e180_7
                          by_cases e180_8 : x1h150 = 8
                          · skip
                            have h := h.1 e180_8
                            refine lv_tableIn (off := 520) (tgt := 700) G.1 G.2.1 d_Mo_listWants_180 (by rw [e180_8]; decide) (by rw [e180_8]; decide) (by rw [e180_8]; rfl) (by decide) ?_
                            exact J_700 s_h150 H locs h hP hD hS ls (lv_sub hl [] rfl)
                          replace h := h.2 e180_8
                          by_cases e180_9 : x1h150 = 9
                          · skip
                            have h := h.1 e180_9
                            refine lv_tableIn (off := 520) (tgt := 700) G.1 G.2.1 d_Mo_listWants_180 (by rw [e180_9]; decide) (by rw [e180_9]; decide) (by rw [e180_9]; rfl) (by decide) ?_
                            exact J_700 s_h150 H locs h hP hD hS ls (lv_sub hl [] rfl)
                          replace h := h.2 e180_9
                          by_cases e180_10 : x1h150 = 10
                          · skip
                            have h := h.1 e180_10
                            refine lv_tableIn (off := 520) (tgt := 700) G.1 G.2.1 d_Mo_listWants_180 (by rw [e180_10]; decide) (by rw [e180_10]; decide) (by rw [e180_10]; rfl) (by decide) ?_
                            exact J_700 s_h150 H locs h hP hD hS ls (lv_sub hl [] rfl)
                          replace h := h.2 e180_10
                          by_cases e180_11 : x1h150 = 11
                          · skip
                            have h := h.1 e180_11
                            refine lv_tableIn (off := 520) (tgt := 700) G.1 G.2.1 d_Mo_listWants_180 (by rw [e180_11]; decide) (by rw [e180_11]; decide) (by rw [e180_11]; rfl) (by decide) ?_
                            exact J_700 s_h150 H locs h hP hD hS ls (lv_sub hl [] rfl)
                          replace h := h.2 e180_11
                          by_cases e180_12 : x1h150 = 12
                          · skip
                            have h := h.1 e180_12
                            refine lv_tableIn (off := 520) (tgt := 700) G.1 G.2.1 d_Mo_listWants_180 (by rw [e180_12]; decide) (by rw [e180_12]; decide) (by rw [e180_12]; rfl) (by decide) ?_
                            exact J_700 s_h150 H locs h hP hD hS ls (lv_sub hl [] rfl)
                          replace h := h.2 e180_12
                          by_cases e180_13 : x1h150 = 13
                          · skip
                            have h := h.1 e180_13
                            refine lv_tableIn (off := 520) (tgt := 700) G.1 G.2.1 d_Mo_listWants_180 (by rw [e180_13]; decide) (by rw [e180_13]; decide) (by rw [e180_13]; rfl) (by decide) ?_
                            exact J_700 s_h150 H locs h hP hD hS ls (lv_sub hl [] rfl)
                          replace h := h.2 e180_13
                          by_cases e180_14 : x1h150 = 14
                          · skip
                            have h := h.1 e180_14
                            refine lv_tableIn (off := 520) (tgt := 700) G.1 G.2.1 d_Mo_listWants_180 (by rw [e180_14]; decide) (by rw [e180_14]; decide) (by rw [e180_14]; rfl) (by decide) ?_
                            exact J_700 s_h150 H locs h hP hD hS ls (lv_sub hl [] rfl)
                          replace h := h.2 e180_14
                          by_cases e180_15 : x1h150 = 15
                          · skip
                            have h := h.1 e180_15
                            refine lv_tableIn (off := 520) (tgt := 700) G.1 G.2.1 d_Mo_listWants_180 (by rw [e180_15]; decide) (by rw [e180_15]; decide) (by rw [e180_15]; rfl) (by decide) ?_
                            exact J_700 s_h150 H locs h hP hD hS ls (lv_sub hl [] rfl)
                          replace h := h.2 e180_15
                          by_cases e180_16 : x1h150 = 16
                          · skip
                            have h := h.1 e180_16
                            refine lv_tableIn (off := 520) (tgt := 700) G.1 G.2.1 d_Mo_listWants_180 (by rw [e180_16]; decide) (by rw [e180_16]; decide) (by rw [e180_16]; rfl) (by decide) ?_
                            exact J_700 s_h150 H locs h hP hD hS ls (lv_sub hl [] rfl)
                          replace h := h.2 e180_16
                          by_cases e180_17 : x1h150 = 17
                          · skip
                            have h := h.1 e180_17
                            refine lv_tableIn (off := 520) (tgt := 700) G.1 G.2.1 d_Mo_listWants_180 (by rw [e180_17]; decide) (by rw [e180_17]; decide) (by rw [e180_17]; rfl) (by decide) ?_
                            exact J_700 s_h150 H locs h hP hD hS ls (lv_sub hl [] rfl)
                          replace h := h.2 e180_17
                          by_cases e180_18 : x1h150 = 18
                          · skip
                            have h := h.1 e180_18
                            refine lv_tableIn (off := 520) (tgt := 700) G.1 G.2.1 d_Mo_listWants_180 (by rw [e180_18]; decide) (by rw [e180_18]; decide) (by rw [e180_18]; rfl) (by decide) ?_
                            exact J_700 s_h150 H locs h hP hD hS ls (lv_sub hl [] rfl)
                          replace h := h.2 e180_18
                          by_cases e180_19 : x1h150 = 19
                          · skip
                            have h := h.1 e180_19
                            refine lv_tableIn (off := 249) (tgt := 429) G.1 G.2.1 d_Mo_listWants_180 (by rw [e180_19]; decide) (by rw [e180_19]; decide) (by rw [e180_19]; rfl) (by decide) ?_
                            refine lv_aload_n G.1 G.2.1 d_Mo_listWants_429 rfl (lv_at hl 0 rfl) ?_
                            refine lv_bipush (v := 8) G.1 G.2.1 d_Mo_listWants_430 (by decide) ?_
                            refine ucVv (As := [.int 8]) (rest := []) G hP hD hS (cu_Mo_want l D g ad y _ s_h150 a0 8 H.size h_a0 h) w9_Mo_want q3757 ⟨Nat.le_of_ble_eq_true rfl, Nat.le_of_ble_eq_true rfl⟩ rfl rfl h_a0 (q := (RMo, TMo, 131)) rfl rfl hl.1 rfl (Nat.le_of_ble_eq_true rfl) rfl ⟨Nat.le_refl _, Nat.le_refl _⟩ d_Mo_listWants_432 (fun s_7 H locs h hP hD hS => ?_)
                            refine lv_goto (tgt := 700) G.1 G.2.1 d_Mo_listWants_435 (by decide) ?_
                            exact J_700 s_7 H locs h hP hD hS ls (lv_sub hl [] rfl)
                          replace h := h.2 e180_19
                          by_cases e180_20 : x1h150 = 20
                          · skip
                            have h := h.1 e180_20
                            refine lv_tableIn (off := 249) (tgt := 429) G.1 G.2.1 d_Mo_listWants_180 (by rw [e180_20]; decide) (by rw [e180_20]; decide) (by rw [e180_20]; rfl) (by decide) ?_
                            refine lv_aload_n G.1 G.2.1 d_Mo_listWants_429 rfl (lv_at hl 0 rfl) ?_
                            refine lv_bipush (v := 8) G.1 G.2.1 d_Mo_listWants_430 (by decide) ?_
                            refine ucVv (As := [.int 8]) (rest := []) G hP hD hS (cu_Mo_want l D g ad y _ s_h150 a0 8 H.size h_a0 h) w9_Mo_want q3757 ⟨Nat.le_of_ble_eq_true rfl, Nat.le_of_ble_eq_true rfl⟩ rfl rfl h_a0 (q := (RMo, TMo, 131)) rfl rfl hl.1 rfl (Nat.le_of_ble_eq_true rfl) rfl ⟨Nat.le_refl _, Nat.le_refl _⟩ d_Mo_listWants_432 (fun s_9 H locs h hP hD hS => ?_)
                            refine lv_goto (tgt := 700) G.1 G.2.1 d_Mo_listWants_435 (by decide) ?_
                            exact J_700 s_9 H locs h hP hD hS ls (lv_sub hl [] rfl)
                          replace h := h.2 e180_20
                          by_cases e180_21 : x1h150 = 21
                          · skip
                            have h := h.1 e180_21
                            refine lv_tableIn (off := 258) (tgt := 438) G.1 G.2.1 d_Mo_listWants_180 (by rw [e180_21]; decide) (by rw [e180_21]; decide) (by rw [e180_21]; rfl) (by decide) ?_
                            refine lv_aload_n G.1 G.2.1 d_Mo_listWants_438 rfl (lv_at hl 0 rfl) ?_
                            refine lv_bipush (v := 8) G.1 G.2.1 d_Mo_listWants_439 (by decide) ?_
                            refine ucVv (As := [.int 8]) (rest := []) G hP hD hS (cu_Mo_want l D g ad y _ s_h150 a0 8 H.size h_a0 h) w9_Mo_want q3757 ⟨Nat.le_of_ble_eq_true rfl, Nat.le_of_ble_eq_true rfl⟩ rfl rfl h_a0 (q := (RMo, TMo, 131)) rfl rfl hl.1 rfl (Nat.le_of_ble_eq_true rfl) rfl ⟨Nat.le_refl _, Nat.le_refl _⟩ d_Mo_listWants_441 (fun s_11 H locs h hP hD hS => ?_)
                            refine lv_aload_n G.1 G.2.1 d_Mo_listWants_444 rfl (lv_at hl 0 rfl) ?_
                            refine lv_bipush (v := 8) G.1 G.2.1 d_Mo_listWants_445 (by decide) ?_
                            refine ucVv (As := [.int 8]) (rest := []) G hP hD hS (cu_Mo_want l D g ad y _ s_11 a0 8 H.size h_a0 h) w9_Mo_want q3757 ⟨Nat.le_of_ble_eq_true rfl, Nat.le_of_ble_eq_true rfl⟩ rfl rfl h_a0 (q := (RMo, TMo, 131)) rfl rfl hl.1 rfl (Nat.le_of_ble_eq_true rfl) rfl ⟨Nat.le_refl _, Nat.le_refl _⟩ d_Mo_listWants_447 (fun s_13 H locs h hP hD hS => ?_)
                            refine lv_goto (tgt := 700) G.1 G.2.1 d_Mo_listWants_450 (by decide) ?_
                            exact J_700 s_13 H locs h hP hD hS ls (lv_sub hl [] rfl)
                          replace h := h.2 e180_21
                          by_cases e180_22 : x1h150 = 22
                          · skip
                            have h := h.1 e180_22
                            refine lv_tableIn (off := 258) (tgt := 438) G.1 G.2.1 d_Mo_listWants_180 (by rw [e180_22]; decide) (by rw [e180_22]; decide) (by rw [e180_22]; rfl) (by decide) ?_
                            refine lv_aload_n G.1 G.2.1 d_Mo_listWants_438 rfl (lv_at hl 0 rfl) ?_
                            refine lv_bipush (v := 8) G.1 G.2.1 d_Mo_listWants_439 (by decide) ?_
                            refine ucVv (As := [.int 8]) (rest := []) G hP hD hS (cu_Mo_want l D g ad y _ s_h150 a0 8 H.size h_a0 h) w9_Mo_want q3757 ⟨Nat.le_of_ble_eq_true rfl, Nat.le_of_ble_eq_true rfl⟩ rfl rfl h_a0 (q := (RMo, TMo, 131)) rfl rfl hl.1 rfl (Nat.le_of_ble_eq_true rfl) rfl ⟨Nat.le_refl _, Nat.le_refl _⟩ d_Mo_listWants_441 (fun s_15 H locs h hP hD hS => ?_)
                            refine lv_aload_n G.1 G.2.1 d_Mo_listWants_444 rfl (lv_at hl 0 rfl) ?_
                            refine lv_bipush (v := 8) G.1 G.2.1 d_Mo_listWants_445 (by decide) ?_
                            refine ucVv (As := [.int 8]) (rest := []) G hP hD hS (cu_Mo_want l D g ad y _ s_15 a0 8 H.size h_a0 h) w9_Mo_want q3757 ⟨Nat.le_of_ble_eq_true rfl, Nat.le_of_ble_eq_true rfl⟩ rfl rfl h_a0 (q := (RMo, TMo, 131)) rfl rfl hl.1 rfl (Nat.le_of_ble_eq_true rfl) rfl ⟨Nat.le_refl _, Nat.le_refl _⟩ d_Mo_listWants_447 (fun s_17 H locs h hP hD hS => ?_)
                            refine lv_goto (tgt := 700) G.1 G.2.1 d_Mo_listWants_450 (by decide) ?_
                            exact J_700 s_17 H locs h hP hD hS ls (lv_sub hl [] rfl)
                          replace h := h.2 e180_22
                          by_cases e180_23 : x1h150 = 23
                          · skip
                            have h := h.1 e180_23
                            refine lv_tableIn (off := 520) (tgt := 700) G.1 G.2.1 d_Mo_listWants_180 (by rw [e180_23]; decide) (by rw [e180_23]; decide) (by rw [e180_23]; rfl) (by decide) ?_
                            exact J_700 s_h150 H locs h hP hD hS ls (lv_sub hl [] rfl)
                          replace h := h.2 e180_23
                          by_cases e180_24 : x1h150 = 24
                          · skip
                            have h := h.1 e180_24
                            refine lv_tableIn (off := 520) (tgt := 700) G.1 G.2.1 d_Mo_listWants_180 (by rw [e180_24]; decide) (by rw [e180_24]; decide) (by rw [e180_24]; rfl) (by decide) ?_
                            exact J_700 s_h150 H locs h hP hD hS ls (lv_sub hl [] rfl)
                          replace h := h.2 e180_24
                          by_cases e180_25 : x1h150 = 25
                          · skip
                            have h := h.1 e180_25
                            refine lv_tableIn (off := 520) (tgt := 700) G.1 G.2.1 d_Mo_listWants_180 (by rw [e180_25]; decide) (by rw [e180_25]; decide) (by rw [e180_25]; rfl) (by decide) ?_
                            exact J_700 s_h150 H locs h hP hD hS ls (lv_sub hl [] rfl)
                          replace h := h.2 e180_25
                          by_cases e180_26 : x1h150 = 26
                          · skip
                            have h := h.1 e180_26
                            refine lv_tableIn (off := 520) (tgt := 700) G.1 G.2.1 d_Mo_listWants_180 (by rw [e180_26]; decide) (by rw [e180_26]; decide) (by rw [e180_26]; rfl) (by decide) ?_
                            exact J_700 s_h150 H locs h hP hD hS ls (lv_sub hl [] rfl)
                          replace h := h.2 e180_26
                          by_cases e180_27 : x1h150 = 27
                          · skip
                            have h := h.1 e180_27
                            refine lv_tableIn (off := 520) (tgt := 700) G.1 G.2.1 d_Mo_listWants_180 (by rw [e180_27]; decide) (by rw [e180_27]; decide) (by rw [e180_27]; rfl) (by decide) ?_
                            exact J_700 s_h150 H locs h hP hD hS ls (lv_sub hl [] rfl)
                          replace h := h.2 e180_27
                          by_cases e180_28 : x1h150 = 28
                          · skip
                            have h := h.1 e180_28
                            refine lv_tableIn (off := 520) (tgt := 700) G.1 G.2.1 d_Mo_listWants_180 (by rw [e180_28]; decide) (by rw [e180_28]; decide) (by rw [e180_28]; rfl) (by decide) ?_
                            exact J_700 s_h150 H locs h hP hD hS ls (lv_sub hl [] rfl)
                          replace h := h.2 e180_28
                          by_cases e180_29 : x1h150 = 29
                          · skip
                            have h := h.1 e180_29
                            refine lv_tableIn (off := 520) (tgt := 700) G.1 G.2.1 d_Mo_listWants_180 (by rw [e180_29]; decide) (by rw [e180_29]; decide) (by rw [e180_29]; rfl) (by decide) ?_
                            exact J_700 s_h150 H locs h hP hD hS ls (lv_sub hl [] rfl)
                          replace h := h.2 e180_29
                          by_cases e180_30 : x1h150 = 30
                          · skip
                            have h := h.1 e180_30
                            refine lv_tableIn (off := 520) (tgt := 700) G.1 G.2.1 d_Mo_listWants_180 (by rw [e180_30]; decide) (by rw [e180_30]; decide) (by rw [e180_30]; rfl) (by decide) ?_
                            exact J_700 s_h150 H locs h hP hD hS ls (lv_sub hl [] rfl)
                          replace h := h.2 e180_30
                          by_cases e180_31 : x1h150 = 31
                          · skip
                            have h := h.1 e180_31
                            refine lv_tableIn (off := 520) (tgt := 700) G.1 G.2.1 d_Mo_listWants_180 (by rw [e180_31]; decide) (by rw [e180_31]; decide) (by rw [e180_31]; rfl) (by decide) ?_
                            exact J_700 s_h150 H locs h hP hD hS ls (lv_sub hl [] rfl)
                          replace h := h.2 e180_31
                          by_cases e180_32 : x1h150 = 32
                          · skip
                            have h := h.1 e180_32
                            refine lv_tableIn (off := 520) (tgt := 700) G.1 G.2.1 d_Mo_listWants_180 (by rw [e180_32]; decide) (by rw [e180_32]; decide) (by rw [e180_32]; rfl) (by decide) ?_
                            exact J_700 s_h150 H locs h hP hD hS ls (lv_sub hl [] rfl)
                          replace h := h.2 e180_32
                          by_cases e180_33 : x1h150 = 33
                          · skip
                            have h := h.1 e180_33
                            refine lv_tableIn (off := 520) (tgt := 700) G.1 G.2.1 d_Mo_listWants_180 (by rw [e180_33]; decide) (by rw [e180_33]; decide) (by rw [e180_33]; rfl) (by decide) ?_
                            exact J_700 s_h150 H locs h hP hD hS ls (lv_sub hl [] rfl)
                          replace h := h.2 e180_33
                          by_cases e180_34 : x1h150 = 34
                          · skip
                            have h := h.1 e180_34
                            refine lv_tableIn (off := 520) (tgt := 700) G.1 G.2.1 d_Mo_listWants_180 (by rw [e180_34]; decide) (by rw [e180_34]; decide) (by rw [e180_34]; rfl) (by decide) ?_
                            exact J_700 s_h150 H locs h hP hD hS ls (lv_sub hl [] rfl)
                          replace h := h.2 e180_34
                          by_cases e180_35 : x1h150 = 35
                          · skip
                            have h := h.1 e180_35
                            refine lv_tableIn (off := 520) (tgt := 700) G.1 G.2.1 d_Mo_listWants_180 (by rw [e180_35]; decide) (by rw [e180_35]; decide) (by rw [e180_35]; rfl) (by decide) ?_
                            exact J_700 s_h150 H locs h hP hD hS ls (lv_sub hl [] rfl)
                          replace h := h.2 e180_35
                          by_cases e180_36 : x1h150 = 36
                          · skip
                            have h := h.1 e180_36
                            refine lv_tableIn (off := 288) (tgt := 468) G.1 G.2.1 d_Mo_listWants_180 (by rw [e180_36]; decide) (by rw [e180_36]; decide) (by rw [e180_36]; rfl) (by decide) ?_
                            refine lv_aload_n G.1 G.2.1 d_Mo_listWants_468 rfl (lv_at hl 0 rfl) ?_
                            refine lv_bipush (v := 6) G.1 G.2.1 d_Mo_listWants_469 (by decide) ?_
                            refine ucVv (As := [.int 6]) (rest := []) G hP hD hS (cu_Mo_want l D g ad y _ s_h150 a0 6 H.size h_a0 h) w9_Mo_want q3757 ⟨Nat.le_of_ble_eq_true rfl, Nat.le_of_ble_eq_true rfl⟩ rfl rfl h_a0 (q := (RMo, TMo, 131)) rfl rfl hl.1 rfl (Nat.le_of_ble_eq_true rfl) rfl ⟨Nat.le_refl _, Nat.le_refl _⟩ d_Mo_listWants_471 (fun s_19 H locs h hP hD hS => ?_)
                            refine lv_goto (tgt := 700) G.1 G.2.1 d_Mo_listWants_474 (by decide) ?_
                            exact J_700 s_19 H locs h hP hD hS ls (lv_sub hl [] rfl)
                          replace h := h.2 e180_36
                          by_cases e180_37 : x1h150 = 37
                          · skip
                            have h := h.1 e180_37
                            refine lv_tableIn (off := 288) (tgt := 468) G.1 G.2.1 d_Mo_listWants_180 (by rw [e180_37]; decide) (by rw [e180_37]; decide) (by rw [e180_37]; rfl) (by decide) ?_
                            refine lv_aload_n G.1 G.2.1 d_Mo_listWants_468 rfl (lv_at hl 0 rfl) ?_
                            refine lv_bipush (v := 6) G.1 G.2.1 d_Mo_listWants_469 (by decide) ?_
                            refine ucVv (As := [.int 6]) (rest := []) G hP hD hS (cu_Mo_want l D g ad y _ s_h150 a0 6 H.size h_a0 h) w9_Mo_want q3757 ⟨Nat.le_of_ble_eq_true rfl, Nat.le_of_ble_eq_true rfl⟩ rfl rfl h_a0 (q := (RMo, TMo, 131)) rfl rfl hl.1 rfl (Nat.le_of_ble_eq_true rfl) rfl ⟨Nat.le_refl _, Nat.le_refl _⟩ d_Mo_listWants_471 (fun s_21 H locs h hP hD hS => ?_)
                            refine lv_goto (tgt := 700) G.1 G.2.1 d_Mo_listWants_474 (by decide) ?_
                            exact J_700 s_21 H locs h hP hD hS ls (lv_sub hl [] rfl)
                          replace h := h.2 e180_37
                          by_cases e180_38 : x1h150 = 38
                          · skip
                            have h := h.1 e180_38
                            refine lv_tableIn (off := 273) (tgt := 453) G.1 G.2.1 d_Mo_listWants_180 (by rw [e180_38]; decide) (by rw [e180_38]; decide) (by rw [e180_38]; rfl) (by decide) ?_
                            refine lv_aload_n G.1 G.2.1 d_Mo_listWants_453 rfl (lv_at hl 0 rfl) ?_
                            refine lv_bipush (v := 6) G.1 G.2.1 d_Mo_listWants_454 (by decide) ?_
                            refine ucVv (As := [.int 6]) (rest := []) G hP hD hS (cu_Mo_want l D g ad y _ s_h150 a0 6 H.size h_a0 h) w9_Mo_want q3757 ⟨Nat.le_of_ble_eq_true rfl, Nat.le_of_ble_eq_true rfl⟩ rfl rfl h_a0 (q := (RMo, TMo, 131)) rfl rfl hl.1 rfl (Nat.le_of_ble_eq_true rfl) rfl ⟨Nat.le_refl _, Nat.le_refl _⟩ d_Mo_listWants_456 (fun s_23 H locs h hP hD hS => ?_)
                            refine lv_aload_n G.1 G.2.1 d_Mo_listWants_459 rfl (lv_at hl 0 rfl) ?_
                            refine lv_bipush (v := 6) G.1 G.2.1 d_Mo_listWants_460 (by decide) ?_
                            refine ucVv (As := [.int 6]) (rest := []) G hP hD hS (cu_Mo_want l D g ad y _ s_23 a0 6 H.size h_a0 h) w9_Mo_want q3757 ⟨Nat.le_of_ble_eq_true rfl, Nat.le_of_ble_eq_true rfl⟩ rfl rfl h_a0 (q := (RMo, TMo, 131)) rfl rfl hl.1 rfl (Nat.le_of_ble_eq_true rfl) rfl ⟨Nat.le_refl _, Nat.le_refl _⟩ d_Mo_listWants_462 (fun s_25 H locs h hP hD hS => ?_)
                            refine lv_goto (tgt := 700) G.1 G.2.1 d_Mo_listWants_465 (by decide) ?_
                            exact J_700 s_25 H locs h hP hD hS ls (lv_sub hl [] rfl)
                          replace h := h.2 e180_38
                          by_cases e180_39 : x1h150 = 39
                          · skip
                            have h := h.1 e180_39
                            refine lv_tableIn (off := 273) (tgt := 453) G.1 G.2.1 d_Mo_listWants_180 (by rw [e180_39]; decide) (by rw [e180_39]; decide) (by rw [e180_39]; rfl) (by decide) ?_
                            refine lv_aload_n G.1 G.2.1 d_Mo_listWants_453 rfl (lv_at hl 0 rfl) ?_
                            refine lv_bipush (v := 6) G.1 G.2.1 d_Mo_listWants_454 (by decide) ?_
                            refine ucVv (As := [.int 6]) (rest := []) G hP hD hS (cu_Mo_want l D g ad y _ s_h150 a0 6 H.size h_a0 h) w9_Mo_want q3757 ⟨Nat.le_of_ble_eq_true rfl, Nat.le_of_ble_eq_true rfl⟩ rfl rfl h_a0 (q := (RMo, TMo, 131)) rfl rfl hl.1 rfl (Nat.le_of_ble_eq_true rfl) rfl ⟨Nat.le_refl _, Nat.le_refl _⟩ d_Mo_listWants_456 (fun s_27 H locs h hP hD hS => ?_)
                            refine lv_aload_n G.1 G.2.1 d_Mo_listWants_459 rfl (lv_at hl 0 rfl) ?_
                            refine lv_bipush (v := 6) G.1 G.2.1 d_Mo_listWants_460 (by decide) ?_
                            refine ucVv (As := [.int 6]) (rest := []) G hP hD hS (cu_Mo_want l D g ad y _ s_27 a0 6 H.size h_a0 h) w9_Mo_want q3757 ⟨Nat.le_of_ble_eq_true rfl, Nat.le_of_ble_eq_true rfl⟩ rfl rfl h_a0 (q := (RMo, TMo, 131)) rfl rfl hl.1 rfl (Nat.le_of_ble_eq_true rfl) rfl ⟨Nat.le_refl _, Nat.le_refl _⟩ d_Mo_listWants_462 (fun s_29 H locs h hP hD hS => ?_)
                            refine lv_goto (tgt := 700) G.1 G.2.1 d_Mo_listWants_465 (by decide) ?_
                            exact J_700 s_29 H locs h hP hD hS ls (lv_sub hl [] rfl)
                          replace h := h.2 e180_39
                          by_cases e180_40 : x1h150 = 40
                          · skip
                            have h := h.1 e180_40
                            refine lv_tableIn (off := 520) (tgt := 700) G.1 G.2.1 d_Mo_listWants_180 (by rw [e180_40]; decide) (by rw [e180_40]; decide) (by rw [e180_40]; rfl) (by decide) ?_
                            exact J_700 s_h150 H locs h hP hD hS ls (lv_sub hl [] rfl)
                          replace h := h.2 e180_40
                          by_cases e180_41 : x1h150 = 41
                          · skip
                            have h := h.1 e180_41
                            refine lv_tableIn (off := 520) (tgt := 700) G.1 G.2.1 d_Mo_listWants_180 (by rw [e180_41]; decide) (by rw [e180_41]; decide) (by rw [e180_41]; rfl) (by decide) ?_
                            exact J_700 s_h150 H locs h hP hD hS ls (lv_sub hl [] rfl)
                          replace h := h.2 e180_41
                          by_cases e180_42 : x1h150 = 42
                          · skip
                            have h := h.1 e180_42
                            refine lv_tableIn (off := 520) (tgt := 700) G.1 G.2.1 d_Mo_listWants_180 (by rw [e180_42]; decide) (by rw [e180_42]; decide) (by rw [e180_42]; rfl) (by decide) ?_
                            exact J_700 s_h150 H locs h hP hD hS ls (lv_sub hl [] rfl)
                          replace h := h.2 e180_42
                          by_cases e180_43 : x1h150 = 43
                          · skip
                            have h := h.1 e180_43
                            refine lv_tableIn (off := 297) (tgt := 477) G.1 G.2.1 d_Mo_listWants_180 (by rw [e180_43]; decide) (by rw [e180_43]; decide) (by rw [e180_43]; rfl) (by decide) ?_
                            refine lv_aload_n G.1 G.2.1 d_Mo_listWants_477 rfl (lv_at hl 0 rfl) ?_
                            refine lv_iconst (v := 1) G.1 G.2.1 d_Mo_listWants_478 (by decide) ?_
                            refine ucVv (As := [.int 1]) (rest := []) G hP hD hS (cu_Mo_want l D g ad y _ s_h150 a0 1 H.size h_a0 h) w9_Mo_want q3757 ⟨Nat.le_of_ble_eq_true rfl, Nat.le_of_ble_eq_true rfl⟩ rfl rfl h_a0 (q := (RMo, TMo, 131)) rfl rfl hl.1 rfl (Nat.le_of_ble_eq_true rfl) rfl ⟨Nat.le_refl _, Nat.le_refl _⟩ d_Mo_listWants_479 (fun s_31 H locs h hP hD hS => ?_)
                            refine lv_aload_n G.1 G.2.1 d_Mo_listWants_482 rfl (lv_at hl 0 rfl) ?_
                            refine lv_iconst (v := 2) G.1 G.2.1 d_Mo_listWants_483 (by decide) ?_
                            refine ucVv (As := [.int 2]) (rest := []) G hP hD hS (cu_Mo_want l D g ad y _ s_31 a0 2 H.size h_a0 h) w9_Mo_want q3757 ⟨Nat.le_of_ble_eq_true rfl, Nat.le_of_ble_eq_true rfl⟩ rfl rfl h_a0 (q := (RMo, TMo, 131)) rfl rfl hl.1 rfl (Nat.le_of_ble_eq_true rfl) rfl ⟨Nat.le_refl _, Nat.le_refl _⟩ d_Mo_listWants_484 (fun s_33 H locs h hP hD hS => ?_)
                            refine lv_goto (tgt := 700) G.1 G.2.1 d_Mo_listWants_487 (by decide) ?_
                            exact J_700 s_33 H locs h hP hD hS ls (lv_sub hl [] rfl)
                          replace h := h.2 e180_43
                          by_cases e180_44 : x1h150 = 44
                          · skip
                            have h := h.1 e180_44
                            refine lv_tableIn (off := 310) (tgt := 490) G.1 G.2.1 d_Mo_listWants_180 (by rw [e180_44]; decide) (by rw [e180_44]; decide) (by rw [e180_44]; rfl) (by decide) ?_
                            refine lv_aload_n G.1 G.2.1 d_Mo_listWants_490 rfl (lv_at hl 0 rfl) ?_
                            refine lv_iconst (v := 1) G.1 G.2.1 d_Mo_listWants_491 (by decide) ?_
                            refine ucVv (As := [.int 1]) (rest := []) G hP hD hS (cu_Mo_want l D g ad y _ s_h150 a0 1 H.size h_a0 h) w9_Mo_want q3757 ⟨Nat.le_of_ble_eq_true rfl, Nat.le_of_ble_eq_true rfl⟩ rfl rfl h_a0 (q := (RMo, TMo, 131)) rfl rfl hl.1 rfl (Nat.le_of_ble_eq_true rfl) rfl ⟨Nat.le_refl _, Nat.le_refl _⟩ d_Mo_listWants_492 (fun s_35 H locs h hP hD hS => ?_)
                            refine lv_aload_n G.1 G.2.1 d_Mo_listWants_495 rfl (lv_at hl 0 rfl) ?_
                            refine lv_iconst (v := 1) G.1 G.2.1 d_Mo_listWants_496 (by decide) ?_
                            refine ucVv (As := [.int 1]) (rest := []) G hP hD hS (cu_Mo_want l D g ad y _ s_35 a0 1 H.size h_a0 h) w9_Mo_want q3757 ⟨Nat.le_of_ble_eq_true rfl, Nat.le_of_ble_eq_true rfl⟩ rfl rfl h_a0 (q := (RMo, TMo, 131)) rfl rfl hl.1 rfl (Nat.le_of_ble_eq_true rfl) rfl ⟨Nat.le_refl _, Nat.le_refl _⟩ d_Mo_listWants_497 (fun s_37 H locs h hP hD hS => ?_)
                            refine lv_aload_n G.1 G.2.1 d_Mo_listWants_500 rfl (lv_at hl 0 rfl) ?_
                            refine W.eq (g2 := F0 m 501 ls [.ref (ad a0)]) rfl ?_
                            refine lv_iconst (v := 2) G.1 G.2.1 d_Mo_listWants_501 (by decide) ?_
                            refine ucVv (As := [.int 2]) (rest := []) G hP hD hS (cu_Mo_want l D g ad y _ s_37 a0 2 H.size h_a0 h) w9_Mo_want q3757 ⟨Nat.le_of_ble_eq_true rfl, Nat.le_of_ble_eq_true rfl⟩ rfl rfl h_a0 (q := (RMo, TMo, 131)) rfl rfl hl.1 rfl (Nat.le_of_ble_eq_true rfl) rfl ⟨Nat.le_refl _, Nat.le_refl _⟩ d_Mo_listWants_502 (fun s_39 H locs h hP hD hS => ?_)
                            refine lv_goto (tgt := 700) G.1 G.2.1 d_Mo_listWants_505 (by decide) ?_
                            exact J_700 s_39 H locs h hP hD hS ls (lv_sub hl [] rfl)
                          replace h := h.2 e180_44
                          by_cases e180_45 : x1h150 = 45
                          · skip
                            have h := h.1 e180_45
                            refine lv_tableIn (off := 328) (tgt := 508) G.1 G.2.1 d_Mo_listWants_180 (by rw [e180_45]; decide) (by rw [e180_45]; decide) (by rw [e180_45]; rfl) (by decide) ?_
                            refine lv_aload_n G.1 G.2.1 d_Mo_listWants_508 rfl (lv_at hl 0 rfl) ?_
                            refine lv_iconst (v := 2) G.1 G.2.1 d_Mo_listWants_509 (by decide) ?_
                            refine ucVv (As := [.int 2]) (rest := []) G hP hD hS (cu_Mo_want l D g ad y _ s_h150 a0 2 H.size h_a0 h) w9_Mo_want q3757 ⟨Nat.le_of_ble_eq_true rfl, Nat.le_of_ble_eq_true rfl⟩ rfl rfl h_a0 (q := (RMo, TMo, 131)) rfl rfl hl.1 rfl (Nat.le_of_ble_eq_true rfl) rfl ⟨Nat.le_refl _, Nat.le_refl _⟩ d_Mo_listWants_510 (fun s_41 H locs h hP hD hS => ?_)
                            refine lv_goto (tgt := 700) G.1 G.2.1 d_Mo_listWants_513 (by decide) ?_
                            exact J_700 s_41 H locs h hP hD hS ls (lv_sub hl [] rfl)
                          replace h := h.2 e180_45
                          by_cases e180_46 : x1h150 = 46
                          · skip
                            have h := h.1 e180_46
                            refine lv_tableIn (off := 336) (tgt := 516) G.1 G.2.1 d_Mo_listWants_180 (by rw [e180_46]; decide) (by rw [e180_46]; decide) (by rw [e180_46]; rfl) (by decide) ?_
                            refine lv_aload_n G.1 G.2.1 d_Mo_listWants_516 rfl (lv_at hl 0 rfl) ?_
                            refine lv_bipush (v := 16) G.1 G.2.1 d_Mo_listWants_517 (by decide) ?_
                            refine lv_aload_n G.1 G.2.1 d_Mo_listWants_519 rfl (lv_at hl 0 rfl) ?_
                            obtain ⟨b_42, e_43, c_44, h⟩ := h
                            refine ugf (v := .ref (ad b_42)) G hP h_a0 iMo rfl 45 (by decide) rfl q3109 rfl (by show va_rf ((sO s_h150 a0 45).map ad) = _; rw [e_43]; rfl) d_Mo_listWants_520 ?_
                            refine ugfN (v := .ref (yP y b_42 31)) G hP c_44 iMw rfl 31 (by decide) rfl q2766 rfl rfl d_Mo_listWants_523 ?_
                            refine lv_iload_n G.1 G.2.1 d_Mo_listWants_526 rfl (lv_at hl 2 rfl) ?_
                            refine uiald G hP (kdp c_44 rfl) (typ c_44 rfl) h d_Mo_listWants_527 (fun x_45 h => ?_)
                            refine W.eq (g2 := F0 m 528 ls [.int x_45, .int 16, .ref (ad a0)]) rfl ?_
                            refine lv_iadd G.1 G.2.1 d_Mo_listWants_528 ?_
                            refine ucVv (As := [.int (16 + x_45)]) (rest := []) G hP hD hS (cu_Mo_want l D g ad y _ s_h150 a0 (16 + x_45) H.size h_a0 h) w9_Mo_want q3757 ⟨Nat.le_of_ble_eq_true rfl, Nat.le_of_ble_eq_true rfl⟩ rfl rfl h_a0 (q := (RMo, TMo, 131)) rfl rfl hl.1 rfl (Nat.le_of_ble_eq_true rfl) rfl ⟨Nat.le_refl _, Nat.le_refl _⟩ d_Mo_listWants_529 (fun s_47 H locs h hP hD hS => ?_)
                            refine lv_goto (tgt := 700) G.1 G.2.1 d_Mo_listWants_532 (by decide) ?_
                            exact J_700 s_47 H locs h hP hD hS ls (lv_sub hl [] rfl)
                          replace h := h.2 e180_46
                          by_cases e180_47 : x1h150 = 47
                          · skip
                            have h := h.1 e180_47
                            refine lv_tableIn (off := 355) (tgt := 535) G.1 G.2.1 d_Mo_listWants_180 (by rw [e180_47]; decide) (by rw [e180_47]; decide) (by rw [e180_47]; rfl) (by decide) ?_
                            refine lv_aload_n G.1 G.2.1 d_Mo_listWants_535 rfl (lv_at hl 0 rfl) ?_
                            refine lv_aload_n G.1 G.2.1 d_Mo_listWants_536 rfl (lv_at hl 0 rfl) ?_
                            obtain ⟨b_48, e_49, c_50, h⟩ := h
                            refine ugf (v := .ref (ad b_48)) G hP h_a0 iMo rfl 45 (by decide) rfl q3109 rfl (by show va_rf ((sO s_h150 a0 45).map ad) = _; rw [e_49]; rfl) d_Mo_listWants_537 ?_
                            refine ugfN (v := .ref (yP y b_48 33)) G hP c_50 iMw rfl 33 (by decide) rfl q2770 rfl rfl d_Mo_listWants_540 ?_
                            refine lv_iload_n G.1 G.2.1 d_Mo_listWants_543 rfl (lv_at hl 2 rfl) ?_
                            refine uiald G hP (kdp c_50 rfl) (typ c_50 rfl) h d_Mo_listWants_544 (fun x_51 h => ?_)
                            refine ucVv (As := [.int x_51]) (rest := []) G hP hD hS (cu_Mo_want l D g ad y _ s_h150 a0 x_51 H.size h_a0 h) w9_Mo_want q3757 ⟨Nat.le_of_ble_eq_true rfl, Nat.le_of_ble_eq_true rfl⟩ rfl rfl h_a0 (q := (RMo, TMo, 131)) rfl rfl hl.1 rfl (Nat.le_of_ble_eq_true rfl) rfl ⟨Nat.le_refl _, Nat.le_refl _⟩ d_Mo_listWants_545 (fun s_53 H locs h hP hD hS => ?_)
                            refine W.eq (g2 := F0 m 548 ls []) rfl ?_
                            refine lv_aload_n G.1 G.2.1 d_Mo_listWants_548 rfl (lv_at hl 0 rfl) ?_
                            refine lv_bipush (v := 16) G.1 G.2.1 d_Mo_listWants_549 (by decide) ?_
                            refine lv_aload_n G.1 G.2.1 d_Mo_listWants_551 rfl (lv_at hl 0 rfl) ?_
                            obtain ⟨b_54, e_55, c_56, h⟩ := h
                            refine ugf (v := .ref (ad b_54)) G hP h_a0 iMo rfl 45 (by decide) rfl q3109 rfl (by show va_rf ((sO s_53 a0 45).map ad) = _; rw [e_55]; rfl) d_Mo_listWants_552 ?_
                            refine ugfN (v := .ref (yP y b_54 31)) G hP c_56 iMw rfl 31 (by decide) rfl q2766 rfl rfl d_Mo_listWants_555 ?_
                            refine lv_iload_n G.1 G.2.1 d_Mo_listWants_558 rfl (lv_at hl 2 rfl) ?_
                            refine uiald G hP (kdp c_56 rfl) (typ c_56 rfl) h d_Mo_listWants_559 (fun x_57 h => ?_)
                            refine lv_iadd G.1 G.2.1 d_Mo_listWants_560 ?_
                            refine ucVv (As := [.int (16 + x_57)]) (rest := []) G hP hD hS (cu_Mo_want l D g ad y _ s_53 a0 (16 + x_57) H.size h_a0 h) w9_Mo_want q3757 ⟨Nat.le_of_ble_eq_true rfl, Nat.le_of_ble_eq_true rfl⟩ rfl rfl h_a0 (q := (RMo, TMo, 131)) rfl rfl hl.1 rfl (Nat.le_of_ble_eq_true rfl) rfl ⟨Nat.le_refl _, Nat.le_refl _⟩ d_Mo_listWants_561 (fun s_59 H locs h hP hD hS => ?_)
                            refine lv_goto (tgt := 700) G.1 G.2.1 d_Mo_listWants_564 (by decide) ?_
                            exact J_700 s_59 H locs h hP hD hS ls (lv_sub hl [] rfl)
                          replace h := h.2 e180_47
                          by_cases e180_48 : x1h150 = 48
                          · skip
                            have h := h.1 e180_48
                            refine lv_tableIn (off := 520) (tgt := 700) G.1 G.2.1 d_Mo_listWants_180 (by rw [e180_48]; decide) (by rw [e180_48]; decide) (by rw [e180_48]; rfl) (by decide) ?_
                            exact J_700 s_h150 H locs h hP hD hS ls (lv_sub hl [] rfl)
                          replace h := h.2 e180_48
                          by_cases e180_49 : x1h150 = 49
                          · skip
                            have h := h.1 e180_49
                            refine lv_tableIn (off := 387) (tgt := 567) G.1 G.2.1 d_Mo_listWants_180 (by rw [e180_49]; decide) (by rw [e180_49]; decide) (by rw [e180_49]; rfl) (by decide) ?_
                            refine lv_aload_n G.1 G.2.1 d_Mo_listWants_567 rfl (lv_at hl 0 rfl) ?_
                            refine lv_aload_n G.1 G.2.1 d_Mo_listWants_568 rfl (lv_at hl 0 rfl) ?_
                            obtain ⟨b_60, e_61, c_62, h⟩ := h
                            refine ugf (v := .ref (ad b_60)) G hP h_a0 iMo rfl 45 (by decide) rfl q3109 rfl (by show va_rf ((sO s_h150 a0 45).map ad) = _; rw [e_61]; rfl) d_Mo_listWants_569 ?_
                            refine ugfN (v := .ref (yP y b_60 33)) G hP c_62 iMw rfl 33 (by decide) rfl q2770 rfl rfl d_Mo_listWants_572 ?_
                            refine lv_iload_n G.1 G.2.1 d_Mo_listWants_575 rfl (lv_at hl 2 rfl) ?_
                            refine uiald G hP (kdp c_62 rfl) (typ c_62 rfl) h d_Mo_listWants_576 (fun x_63 h => ?_)
                            refine ucVv (As := [.int x_63]) (rest := []) G hP hD hS (cu_Mo_want l D g ad y _ s_h150 a0 x_63 H.size h_a0 h) w9_Mo_want q3757 ⟨Nat.le_of_ble_eq_true rfl, Nat.le_of_ble_eq_true rfl⟩ rfl rfl h_a0 (q := (RMo, TMo, 131)) rfl rfl hl.1 rfl (Nat.le_of_ble_eq_true rfl) rfl ⟨Nat.le_refl _, Nat.le_refl _⟩ d_Mo_listWants_577 (fun s_65 H locs h hP hD hS => ?_)
                            refine W.eq (g2 := F0 m 580 ls []) rfl ?_
                            refine lv_goto (tgt := 700) G.1 G.2.1 d_Mo_listWants_580 (by decide) ?_
                            exact J_700 s_65 H locs h hP hD hS ls (lv_sub hl [] rfl)
                          replace h := h.2 e180_49
                          by_cases e180_50 : x1h150 = 50
                          · skip
                            have h := h.1 e180_50
                            refine lv_tableIn (off := 403) (tgt := 583) G.1 G.2.1 d_Mo_listWants_180 (by rw [e180_50]; decide) (by rw [e180_50]; decide) (by rw [e180_50]; rfl) (by decide) ?_
                            refine lv_aload_n G.1 G.2.1 d_Mo_listWants_583 rfl (lv_at hl 0 rfl) ?_
                            refine lv_bipush (v := 16) G.1 G.2.1 d_Mo_listWants_584 (by decide) ?_
                            refine lv_aload_n G.1 G.2.1 d_Mo_listWants_586 rfl (lv_at hl 0 rfl) ?_
                            obtain ⟨b_66, e_67, c_68, h⟩ := h
                            refine ugf (v := .ref (ad b_66)) G hP h_a0 iMo rfl 45 (by decide) rfl q3109 rfl (by show va_rf ((sO s_h150 a0 45).map ad) = _; rw [e_67]; rfl) d_Mo_listWants_587 ?_
                            refine ugfN (v := .ref (yP y b_66 31)) G hP c_68 iMw rfl 31 (by decide) rfl q2766 rfl rfl d_Mo_listWants_590 ?_
                            refine lv_iload_n G.1 G.2.1 d_Mo_listWants_593 rfl (lv_at hl 2 rfl) ?_
                            refine uiald G hP (kdp c_68 rfl) (typ c_68 rfl) h d_Mo_listWants_594 (fun x_69 h => ?_)
                            refine W.eq (g2 := F0 m 595 ls [.int x_69, .int 16, .ref (ad a0)]) rfl ?_
                            refine lv_iadd G.1 G.2.1 d_Mo_listWants_595 ?_
                            refine ucVv (As := [.int (16 + x_69)]) (rest := []) G hP hD hS (cu_Mo_want l D g ad y _ s_h150 a0 (16 + x_69) H.size h_a0 h) w9_Mo_want q3757 ⟨Nat.le_of_ble_eq_true rfl, Nat.le_of_ble_eq_true rfl⟩ rfl rfl h_a0 (q := (RMo, TMo, 131)) rfl rfl hl.1 rfl (Nat.le_of_ble_eq_true rfl) rfl ⟨Nat.le_refl _, Nat.le_refl _⟩ d_Mo_listWants_596 (fun s_71 H locs h hP hD hS => ?_)
                            refine lv_goto (tgt := 700) G.1 G.2.1 d_Mo_listWants_599 (by decide) ?_
                            exact J_700 s_71 H locs h hP hD hS ls (lv_sub hl [] rfl)
                          replace h := h.2 e180_50
                          by_cases e180_51 : x1h150 = 51
                          · skip
                            have h := h.1 e180_51
                            refine lv_tableIn (off := 422) (tgt := 602) G.1 G.2.1 d_Mo_listWants_180 (by rw [e180_51]; decide) (by rw [e180_51]; decide) (by rw [e180_51]; rfl) (by decide) ?_
                            refine lv_aload_n G.1 G.2.1 d_Mo_listWants_602 rfl (lv_at hl 0 rfl) ?_
                            refine lv_aload_n G.1 G.2.1 d_Mo_listWants_603 rfl (lv_at hl 0 rfl) ?_
                            obtain ⟨b_72, e_73, c_74, h⟩ := h
                            refine ugf (v := .ref (ad b_72)) G hP h_a0 iMo rfl 45 (by decide) rfl q3109 rfl (by show va_rf ((sO s_h150 a0 45).map ad) = _; rw [e_73]; rfl) d_Mo_listWants_604 ?_
                            refine ugfN (v := .ref (yP y b_72 32)) G hP c_74 iMw rfl 32 (by decide) rfl q2768 rfl rfl d_Mo_listWants_607 ?_
                            refine lv_iload_n G.1 G.2.1 d_Mo_listWants_610 rfl (lv_at hl 2 rfl) ?_
                            refine uiald G hP (kdp c_74 rfl) (typ c_74 rfl) h d_Mo_listWants_611 (fun x_75 h => ?_)
                            refine lv_aload_n G.1 G.2.1 d_Mo_listWants_612 rfl (lv_at hl 0 rfl) ?_
                            refine W.eq (g2 := F0 m 613 ls [.ref (ad a0), .int x_75, .ref (ad a0)]) rfl ?_
                            refine ugf (v := .int (sV s_h150 a0 6)) G hP h_a0 iMo rfl 6 (by decide) rfl q3070 rfl rfl d_Mo_listWants_613 ?_
                            have J_639 : ∀ (s_j639 : St) (z1j639 : Int32) (H : Heap) (locs : List Loc), wj_Mo_listWants_639 y Post a0 s_j639 z1j639 → va_P D CL (ws g ad y s_j639) H → va_D A (ws g ad y s_j639) → va_S A s.heap H locs → ∀ ls, lv_has ls 5 [] → W p l e ru_Mo_listWants s m args below meth c H locs 0 0 Q (F0 m 639 ls [.int z1j639, .ref (ad a0)]) := by
                              intro s_j639 z1j639 H locs h hP hD hS ls hl
                              unfold wj_Mo_listWants_639 at h
                              refine ucVv (As := [.int z1j639]) (rest := []) G hP hD hS (cu_Mo_want l D g ad y _ s_j639 a0 z1j639 H.size h_a0 h) w9_Mo_want q3757 ⟨Nat.le_of_ble_eq_true rfl, Nat.le_of_ble_eq_true rfl⟩ rfl rfl h_a0 (q := (RMo, TMo, 131)) rfl rfl hl.1 rfl (Nat.le_of_ble_eq_true rfl) rfl ⟨Nat.le_refl _, Nat.le_refl _⟩ d_Mo_listWants_639 (fun s_77 H locs h hP hD hS => ?_)
                              refine lv_goto (tgt := 700) G.1 G.2.1 d_Mo_listWants_642 (by decide) ?_
                              exact J_700 s_77 H locs h hP hD hS ls (lv_sub hl [] rfl)
                            refine lv_icmp_ne (tgt := 624) G.1 G.2.1 d_Mo_listWants_616 (by decide) (fun c616 => ?_) (fun c616 => ?_)
                            · skip
                              have h := h.1 c616
                              refine lv_bipush (v := 16) G.1 G.2.1 d_Mo_listWants_624 (by decide) ?_
                              refine lv_aload_n G.1 G.2.1 d_Mo_listWants_626 rfl (lv_at hl 0 rfl) ?_
                              obtain ⟨b_78, e_79, c_80, h⟩ := h
                              refine ugf (v := .ref (ad b_78)) G hP h_a0 iMo rfl 45 (by decide) rfl q3109 rfl (by show va_rf ((sO s_h150 a0 45).map ad) = _; rw [e_79]; rfl) d_Mo_listWants_627 ?_
                              refine ugfN (v := .ref (yP y b_78 3)) G hP c_80 iMw rfl 3 (by decide) rfl q2710 rfl rfl d_Mo_listWants_630 ?_
                              refine lv_aload_n G.1 G.2.1 d_Mo_listWants_633 rfl (lv_at hl 0 rfl) ?_
                              refine ugf (v := .int (sV s_h150 a0 76)) G hP h_a0 iMo rfl 76 (by decide) rfl q3140 rfl rfl d_Mo_listWants_634 ?_
                              refine uiald G hP (kdp c_80 rfl) (typ c_80 rfl) h d_Mo_listWants_637 (fun x_81 h => ?_)
                              refine lv_iadd G.1 G.2.1 d_Mo_listWants_638 ?_
                              exact J_639 s_h150 (16 + x_81) H locs h hP hD hS ls (lv_sub hl [] rfl)
                            · skip
                              have h := h.2 c616
                              refine lv_bipush (v := 8) G.1 G.2.1 d_Mo_listWants_619 (by decide) ?_
                              refine lv_goto (tgt := 639) G.1 G.2.1 d_Mo_listWants_621 (by decide) ?_
                              exact J_639 s_h150 8 H locs h hP hD hS ls (lv_sub hl [] rfl)
                          replace h := h.2 e180_51
                          by_cases e180_52 : x1h150 = 52
                          · skip
                            have h := h.1 e180_52
                            refine lv_tableIn (off := 520) (tgt := 700) G.1 G.2.1 d_Mo_listWants_180 (by rw [e180_52]; decide) (by rw [e180_52]; decide) (by rw [e180_52]; rfl) (by decide) ?_
                            exact J_700 s_h150 H locs h hP hD hS ls (lv_sub hl [] rfl)
                          replace h := h.2 e180_52
                          by_cases e180_53 : x1h150 = 53
                          · skip
                            have h := h.1 e180_53
                            refine lv_tableIn (off := 403) (tgt := 583) G.1 G.2.1 d_Mo_listWants_180 (by rw [e180_53]; decide) (by rw [e180_53]; decide) (by rw [e180_53]; rfl) (by decide) ?_
                            refine lv_aload_n G.1 G.2.1 d_Mo_listWants_583 rfl (lv_at hl 0 rfl) ?_
                            refine lv_bipush (v := 16) G.1 G.2.1 d_Mo_listWants_584 (by decide) ?_
                            refine lv_aload_n G.1 G.2.1 d_Mo_listWants_586 rfl (lv_at hl 0 rfl) ?_
                            obtain ⟨b_82, e_83, c_84, h⟩ := h
                            refine ugf (v := .ref (ad b_82)) G hP h_a0 iMo rfl 45 (by decide) rfl q3109 rfl (by show va_rf ((sO s_h150 a0 45).map ad) = _; rw [e_83]; rfl) d_Mo_listWants_587 ?_
                            refine ugfN (v := .ref (yP y b_82 31)) G hP c_84 iMw rfl 31 (by decide) rfl q2766 rfl rfl d_Mo_listWants_590 ?_
                            refine lv_iload_n G.1 G.2.1 d_Mo_listWants_593 rfl (lv_at hl 2 rfl) ?_
                            refine uiald G hP (kdp c_84 rfl) (typ c_84 rfl) h d_Mo_listWants_594 (fun x_85 h => ?_)
                            refine W.eq (g2 := F0 m 595 ls [.int x_85, .int 16, .ref (ad a0)]) rfl ?_
                            refine lv_iadd G.1 G.2.1 d_Mo_listWants_595 ?_
                            refine ucVv (As := [.int (16 + x_85)]) (rest := []) G hP hD hS (cu_Mo_want l D g ad y _ s_h150 a0 (16 + x_85) H.size h_a0 h) w9_Mo_want q3757 ⟨Nat.le_of_ble_eq_true rfl, Nat.le_of_ble_eq_true rfl⟩ rfl rfl h_a0 (q := (RMo, TMo, 131)) rfl rfl hl.1 rfl (Nat.le_of_ble_eq_true rfl) rfl ⟨Nat.le_refl _, Nat.le_refl _⟩ d_Mo_listWants_596 (fun s_87 H locs h hP hD hS => ?_)
                            refine lv_goto (tgt := 700) G.1 G.2.1 d_Mo_listWants_599 (by decide) ?_
                            exact J_700 s_87 H locs h hP hD hS ls (lv_sub hl [] rfl)
                          replace h := h.2 e180_53
                          by_cases e180_54 : x1h150 = 54
                          · skip
                            have h := h.1 e180_54
                            refine lv_tableIn (off := 288) (tgt := 468) G.1 G.2.1 d_Mo_listWants_180 (by rw [e180_54]; decide) (by rw [e180_54]; decide) (by rw [e180_54]; rfl) (by decide) ?_
                            refine lv_aload_n G.1 G.2.1 d_Mo_listWants_468 rfl (lv_at hl 0 rfl) ?_
                            refine lv_bipush (v := 6) G.1 G.2.1 d_Mo_listWants_469 (by decide) ?_
                            refine ucVv (As := [.int 6]) (rest := []) G hP hD hS (cu_Mo_want l D g ad y _ s_h150 a0 6 H.size h_a0 h) w9_Mo_want q3757 ⟨Nat.le_of_ble_eq_true rfl, Nat.le_of_ble_eq_true rfl⟩ rfl rfl h_a0 (q := (RMo, TMo, 131)) rfl rfl hl.1 rfl (Nat.le_of_ble_eq_true rfl) rfl ⟨Nat.le_refl _, Nat.le_refl _⟩ d_Mo_listWants_471 (fun s_89 H locs h hP hD hS => ?_)
                            refine lv_goto (tgt := 700) G.1 G.2.1 d_Mo_listWants_474 (by decide) ?_
                            exact J_700 s_89 H locs h hP hD hS ls (lv_sub hl [] rfl)
                          replace h := h.2 e180_54
                          by_cases e180_55 : x1h150 = 55
                          · skip
                            have h := h.1 e180_55
                            refine lv_tableIn (off := 288) (tgt := 468) G.1 G.2.1 d_Mo_listWants_180 (by rw [e180_55]; decide) (by rw [e180_55]; decide) (by rw [e180_55]; rfl) (by decide) ?_
                            refine lv_aload_n G.1 G.2.1 d_Mo_listWants_468 rfl (lv_at hl 0 rfl) ?_
                            refine lv_bipush (v := 6) G.1 G.2.1 d_Mo_listWants_469 (by decide) ?_
                            refine ucVv (As := [.int 6]) (rest := []) G hP hD hS (cu_Mo_want l D g ad y _ s_h150 a0 6 H.size h_a0 h) w9_Mo_want q3757 ⟨Nat.le_of_ble_eq_true rfl, Nat.le_of_ble_eq_true rfl⟩ rfl rfl h_a0 (q := (RMo, TMo, 131)) rfl rfl hl.1 rfl (Nat.le_of_ble_eq_true rfl) rfl ⟨Nat.le_refl _, Nat.le_refl _⟩ d_Mo_listWants_471 (fun s_91 H locs h hP hD hS => ?_)
                            refine lv_goto (tgt := 700) G.1 G.2.1 d_Mo_listWants_474 (by decide) ?_
                            exact J_700 s_91 H locs h hP hD hS ls (lv_sub hl [] rfl)
                          replace h := h.2 e180_55
                          by_cases e180_56 : x1h150 = 56
                          · skip
                            have h := h.1 e180_56
                            refine lv_tableIn (off := 465) (tgt := 645) G.1 G.2.1 d_Mo_listWants_180 (by rw [e180_56]; decide) (by rw [e180_56]; decide) (by rw [e180_56]; rfl) (by decide) ?_
                            refine lv_aload_n G.1 G.2.1 d_Mo_listWants_645 rfl (lv_at hl 0 rfl) ?_
                            refine lv_bipush (v := 16) G.1 G.2.1 d_Mo_listWants_646 (by decide) ?_
                            refine lv_aload_n G.1 G.2.1 d_Mo_listWants_648 rfl (lv_at hl 0 rfl) ?_
                            refine ugf (v := .int (sV s_h150 a0 8)) G hP h_a0 iMo rfl 8 (by decide) rfl q3072 rfl rfl d_Mo_listWants_649 ?_
                            refine lv_iadd G.1 G.2.1 d_Mo_listWants_652 ?_
                            refine lv_iconst (v := 1) G.1 G.2.1 d_Mo_listWants_653 (by decide) ?_
                            refine lv_iadd G.1 G.2.1 d_Mo_listWants_654 ?_
                            refine W.eq (g2 := F0 m 655 ls [.int ((16 + (sV s_h150 a0 8)) + 1), .ref (ad a0)]) rfl ?_
                            refine ucVv (As := [.int ((16 + (sV s_h150 a0 8)) + 1)]) (rest := []) G hP hD hS (cu_Mo_want l D g ad y _ s_h150 a0 ((16 + (sV s_h150 a0 8)) + 1) H.size h_a0 h) w9_Mo_want q3757 ⟨Nat.le_of_ble_eq_true rfl, Nat.le_of_ble_eq_true rfl⟩ rfl rfl h_a0 (q := (RMo, TMo, 131)) rfl rfl hl.1 rfl (Nat.le_of_ble_eq_true rfl) rfl ⟨Nat.le_refl _, Nat.le_refl _⟩ d_Mo_listWants_655 (fun s_93 H locs h hP hD hS => ?_)
                            refine lv_goto (tgt := 700) G.1 G.2.1 d_Mo_listWants_658 (by decide) ?_
                            exact J_700 s_93 H locs h hP hD hS ls (lv_sub hl [] rfl)
                          replace h := h.2 e180_56
                          by_cases e180_57 : x1h150 = 57
                          · skip
                            have h := h.1 e180_57
                            refine lv_tableIn (off := 520) (tgt := 700) G.1 G.2.1 d_Mo_listWants_180 (by rw [e180_57]; decide) (by rw [e180_57]; decide) (by rw [e180_57]; rfl) (by decide) ?_
                            exact J_700 s_h150 H locs h hP hD hS ls (lv_sub hl [] rfl)
                          replace h := h.2 e180_57
                          by_cases e180_58 : x1h150 = 58
                          · skip
                            have h := h.1 e180_58
                            refine lv_tableIn (off := 520) (tgt := 700) G.1 G.2.1 d_Mo_listWants_180 (by rw [e180_58]; decide) (by rw [e180_58]; decide) (by rw [e180_58]; rfl) (by decide) ?_
                            exact J_700 s_h150 H locs h hP hD hS ls (lv_sub hl [] rfl)
                          replace h := h.2 e180_58
                          by_cases e180_59 : x1h150 = 59
                          · skip
                            have h := h.1 e180_59
                            refine lv_tableIn (off := 481) (tgt := 661) G.1 G.2.1 d_Mo_listWants_180 (by rw [e180_59]; decide) (by rw [e180_59]; decide) (by rw [e180_59]; rfl) (by decide) ?_
                            refine lv_aload_n G.1 G.2.1 d_Mo_listWants_661 rfl (lv_at hl 0 rfl) ?_
                            refine ugf (v := .ref (yP y a0 32)) G hP h_a0 iMo rfl 32 (by decide) rfl q3096 rfl rfl d_Mo_listWants_662 ?_
                            refine lv_aload_n G.1 G.2.1 d_Mo_listWants_665 rfl (lv_at hl 0 rfl) ?_
                            obtain ⟨b_94, e_95, c_96, h⟩ := h
                            refine ugf (v := .ref (ad b_94)) G hP h_a0 iMo rfl 45 (by decide) rfl q3109 rfl (by show va_rf ((sO s_h150 a0 45).map ad) = _; rw [e_95]; rfl) d_Mo_listWants_666 ?_
                            refine ugfN (v := .ref (yP y b_94 19)) G hP c_96 iMw rfl 19 (by decide) rfl q2742 rfl rfl d_Mo_listWants_669 ?_
                            refine lv_aload_n G.1 G.2.1 d_Mo_listWants_672 rfl (lv_at hl 0 rfl) ?_
                            refine ugf (v := .int (sV s_h150 a0 75)) G hP h_a0 iMo rfl 75 (by decide) rfl q3139 rfl rfl d_Mo_listWants_673 ?_
                            refine W.eq (g2 := F0 m 676 ls [.int (sV s_h150 a0 75), .ref (yP y b_94 19), .ref (yP y a0 32)]) rfl ?_
                            refine uiald G hP (kdp c_96 rfl) (typ c_96 rfl) h d_Mo_listWants_676 (fun x_97 h => ?_)
                            refine uiald G hP (kdp h_a0 rfl) (typ h_a0 rfl) h d_Mo_listWants_677 (fun x_98 h => ?_)
                            refine lv_istore (lv' := [(4, .int x_98), (0, .ref (ad a0)), (1, .int x1h150), (2, .int x2h150), (3, .int x3h150)]) G.1 G.2.1 d_Mo_listWants_678 hl (by decide) rfl (fun ls hl => ?_)
                            refine lv_aload_n G.1 G.2.1 d_Mo_listWants_680 rfl (lv_at hl 1 rfl) ?_
                            refine lv_iload G.1 G.2.1 d_Mo_listWants_681 (lv_at hl 0 rfl) ?_
                            refine lv_iconst (v := 1) G.1 G.2.1 d_Mo_listWants_683 (by decide) ?_
                            have J_694 : ∀ (s_j694 : St) (z1j694 : Int32) (H : Heap) (locs : List Loc), wj_Mo_listWants_694 y Post a0 s_j694 z1j694 → va_P D CL (ws g ad y s_j694) H → va_D A (ws g ad y s_j694) → va_S A s.heap H locs → ∀ ls, lv_has ls 5 [] → W p l e ru_Mo_listWants s m args below meth c H locs 0 0 Q (F0 m 694 ls [.int z1j694, .ref (ad a0)]) := by
                              intro s_j694 z1j694 H locs h hP hD hS ls hl
                              unfold wj_Mo_listWants_694 at h
                              refine ucVv (As := [.int z1j694]) (rest := []) G hP hD hS (cu_Mo_want l D g ad y _ s_j694 a0 z1j694 H.size h_a0 h) w9_Mo_want q3757 ⟨Nat.le_of_ble_eq_true rfl, Nat.le_of_ble_eq_true rfl⟩ rfl rfl h_a0 (q := (RMo, TMo, 131)) rfl rfl hl.1 rfl (Nat.le_of_ble_eq_true rfl) rfl ⟨Nat.le_refl _, Nat.le_refl _⟩ d_Mo_listWants_694 (fun s_100 H locs h hP hD hS => ?_)
                              refine lv_goto (tgt := 700) G.1 G.2.1 d_Mo_listWants_697 (by decide) ?_
                              exact J_700 s_100 H locs h hP hD hS ls (lv_sub hl [] rfl)
                            refine lv_icmp_le (tgt := 692) G.1 G.2.1 d_Mo_listWants_684 (by decide) (fun c684 => ?_) (fun c684 => ?_)
                            · skip
                              have h := h.1 c684
                              refine lv_bipush (v := 6) G.1 G.2.1 d_Mo_listWants_692 (by decide) ?_
                              exact J_694 s_h150 6 H locs h hP hD hS ls (lv_sub hl [] rfl)
                            · skip
                              have h := h.2 c684
                              refine lv_iload G.1 G.2.1 d_Mo_listWants_687 (lv_at hl 0 rfl) ?_
                              refine lv_goto (tgt := 694) G.1 G.2.1 d_Mo_listWants_689 (by decide) ?_
                              exact J_694 s_h150 x_98 H locs h hP hD hS ls (lv_sub hl [] rfl)
                          replace h := h.2 e180_59
                          by_cases e180_60 : x1h150 = 60
                          · skip
                            have h := h.1 e180_60
                            refine lv_tableIn (off := 288) (tgt := 468) G.1 G.2.1 d_Mo_listWants_180 (by rw [e180_60]; decide) (by rw [e180_60]; decide) (by rw [e180_60]; rfl) (by decide) ?_
                            refine lv_aload_n G.1 G.2.1 d_Mo_listWants_468 rfl (lv_at hl 0 rfl) ?_
                            refine lv_bipush (v := 6) G.1 G.2.1 d_Mo_listWants_469 (by decide) ?_
                            refine ucVv (As := [.int 6]) (rest := []) G hP hD hS (cu_Mo_want l D g ad y _ s_h150 a0 6 H.size h_a0 h) w9_Mo_want q3757 ⟨Nat.le_of_ble_eq_true rfl, Nat.le_of_ble_eq_true rfl⟩ rfl rfl h_a0 (q := (RMo, TMo, 131)) rfl rfl hl.1 rfl (Nat.le_of_ble_eq_true rfl) rfl ⟨Nat.le_refl _, Nat.le_refl _⟩ d_Mo_listWants_471 (fun s_102 H locs h hP hD hS => ?_)
                            refine lv_goto (tgt := 700) G.1 G.2.1 d_Mo_listWants_474 (by decide) ?_
                            exact J_700 s_102 H locs h hP hD hS ls (lv_sub hl [] rfl)
                          replace h := h.2 e180_60
                          by_cases e180_61 : x1h150 = 61
                          · skip
                            have h := h.1 e180_61
                            refine lv_tableIn (off := 288) (tgt := 468) G.1 G.2.1 d_Mo_listWants_180 (by rw [e180_61]; decide) (by rw [e180_61]; decide) (by rw [e180_61]; rfl) (by decide) ?_
                            refine lv_aload_n G.1 G.2.1 d_Mo_listWants_468 rfl (lv_at hl 0 rfl) ?_
                            refine lv_bipush (v := 6) G.1 G.2.1 d_Mo_listWants_469 (by decide) ?_
                            refine ucVv (As := [.int 6]) (rest := []) G hP hD hS (cu_Mo_want l D g ad y _ s_h150 a0 6 H.size h_a0 h) w9_Mo_want q3757 ⟨Nat.le_of_ble_eq_true rfl, Nat.le_of_ble_eq_true rfl⟩ rfl rfl h_a0 (q := (RMo, TMo, 131)) rfl rfl hl.1 rfl (Nat.le_of_ble_eq_true rfl) rfl ⟨Nat.le_refl _, Nat.le_refl _⟩ d_Mo_listWants_471 (fun s_104 H locs h hP hD hS => ?_)
                            refine lv_goto (tgt := 700) G.1 G.2.1 d_Mo_listWants_474 (by decide) ?_
                            exact J_700 s_104 H locs h hP hD hS ls (lv_sub hl [] rfl)
                          replace h := h.2 e180_61
                          have te180_6 := lv_neT (a := 6) e180_6 (by decide)
                          have te180_7 := lv_neT (a := 7) e180_7 (by decide)
                          have te180_8 := lv_neT (a := 8) e180_8 (by decide)
                          have te180_9 := lv_neT (a := 9) e180_9 (by decide)
                          have te180_10 := lv_neT (a := 10) e180_10 (by decide)
                          have te180_11 := lv_neT (a := 11) e180_11 (by decide)
                          have te180_12 := lv_neT (a := 12) e180_12 (by decide)
                          have te180_13 := lv_neT (a := 13) e180_13 (by decide)
                          have te180_14 := lv_neT (a := 14) e180_14 (by decide)
                          have te180_15 := lv_neT (a := 15) e180_15 (by decide)
                          have te180_16 := lv_neT (a := 16) e180_16 (by decide)
                          have te180_17 := lv_neT (a := 17) e180_17 (by decide)
                          have te180_18 := lv_neT (a := 18) e180_18 (by decide)
                          have te180_19 := lv_neT (a := 19) e180_19 (by decide)
                          have te180_20 := lv_neT (a := 20) e180_20 (by decide)
                          have te180_21 := lv_neT (a := 21) e180_21 (by decide)
                          have te180_22 := lv_neT (a := 22) e180_22 (by decide)
                          have te180_23 := lv_neT (a := 23) e180_23 (by decide)
                          have te180_24 := lv_neT (a := 24) e180_24 (by decide)
                          have te180_25 := lv_neT (a := 25) e180_25 (by decide)
                          have te180_26 := lv_neT (a := 26) e180_26 (by decide)
                          have te180_27 := lv_neT (a := 27) e180_27 (by decide)
                          have te180_28 := lv_neT (a := 28) e180_28 (by decide)
                          have te180_29 := lv_neT (a := 29) e180_29 (by decide)
                          have te180_30 := lv_neT (a := 30) e180_30 (by decide)
                          have te180_31 := lv_neT (a := 31) e180_31 (by decide)
                          have te180_32 := lv_neT (a := 32) e180_32 (by decide)
                          have te180_33 := lv_neT (a := 33) e180_33 (by decide)
                          have te180_34 := lv_neT (a := 34) e180_34 (by decide)
                          have te180_35 := lv_neT (a := 35) e180_35 (by decide)
                          have te180_36 := lv_neT (a := 36) e180_36 (by decide)
                          have te180_37 := lv_neT (a := 37) e180_37 (by decide)
                          have te180_38 := lv_neT (a := 38) e180_38 (by decide)
                          have te180_39 := lv_neT (a := 39) e180_39 (by decide)
                          have te180_40 := lv_neT (a := 40) e180_40 (by decide)
                          have te180_41 := lv_neT (a := 41) e180_41 (by decide)
                          have te180_42 := lv_neT (a := 42) e180_42 (by decide)
                          have te180_43 := lv_neT (a := 43) e180_43 (by decide)
                          have te180_44 := lv_neT (a := 44) e180_44 (by decide)
                          have te180_45 := lv_neT (a := 45) e180_45 (by decide)
                          have te180_46 := lv_neT (a := 46) e180_46 (by decide)
                          have te180_47 := lv_neT (a := 47) e180_47 (by decide)
                          have te180_48 := lv_neT (a := 48) e180_48 (by decide)
                          have te180_49 := lv_neT (a := 49) e180_49 (by decide)
                          have te180_50 := lv_neT (a := 50) e180_50 (by decide)
                          have te180_51 := lv_neT (a := 51) e180_51 (by decide)
                          have te180_52 := lv_neT (a := 52) e180_52 (by decide)
                          have te180_53 := lv_neT (a := 53) e180_53 (by decide)
                          have te180_54 := lv_neT (a := 54) e180_54 (by decide)
                          have te180_55 := lv_neT (a := 55) e180_55 (by decide)
                          have te180_56 := lv_neT (a := 56) e180_56 (by decide)
                          have te180_57 := lv_neT (a := 57) e180_57 (by decide)
                          have te180_58 := lv_neT (a := 58) e180_58 (by decide)
                          have te180_59 := lv_neT (a := 59) e180_59 (by decide)
                          have te180_60 := lv_neT (a := 60) e180_60 (by decide)
                          have te180_61 := lv_neT (a := 61) e180_61 (by decide)
                          refine lv_tableOut (tgt := 700) G.1 G.2.1 d_Mo_listWants_180 (by omega) (by decide) ?_
                          exact J_700 s_h150 H locs h hP hD hS ls (lv_sub hl [] rfl)
                        · skip
                          have h := h.2 c152
                          refine lv_aload_n G.1 G.2.1 d_Mo_listWants_155 rfl (lv_at hl 0 rfl) ?_
                          refine lv_aload_n G.1 G.2.1 d_Mo_listWants_156 rfl (lv_at hl 0 rfl) ?_
                          refine ugf (v := .ref (yP y a0 35)) G hP h_a0 iMo rfl 35 (by decide) rfl q3099 rfl rfl d_Mo_listWants_157 ?_
                          refine lv_aload_n G.1 G.2.1 d_Mo_listWants_160 rfl (lv_at hl 0 rfl) ?_
                          refine ugf (v := .ref (yP y a0 30)) G hP h_a0 iMo rfl 30 (by decide) rfl q3094 rfl rfl d_Mo_listWants_161 ?_
                          refine lv_iload_n G.1 G.2.1 d_Mo_listWants_164 rfl (lv_at hl 3 rfl) ?_
                          refine uiald G hP (kdp h_a0 rfl) (typ h_a0 rfl) h d_Mo_listWants_165 (fun x_105 h => ?_)
                          refine lv_iload G.1 G.2.1 d_Mo_listWants_166 (lv_at hl 4 rfl) ?_
                          refine lv_iadd G.1 G.2.1 d_Mo_listWants_168 ?_
                          refine W.eq (g2 := F0 m 169 ls [.int (x_105 + x4h150), .ref (yP y a0 35), .ref (ad a0)]) rfl ?_
                          refine uiald G hP (kdp h_a0 rfl) (typ h_a0 rfl) h d_Mo_listWants_169 (fun x_106 h => ?_)
                          refine ucVv (As := [.int x_106]) (rest := []) G hP hD hS (cu_Mo_want l D g ad y _ s_h150 a0 x_106 H.size h_a0 h) w9_Mo_want q3757 ⟨Nat.le_of_ble_eq_true rfl, Nat.le_of_ble_eq_true rfl⟩ rfl rfl h_a0 (q := (RMo, TMo, 131)) rfl rfl hl.1 rfl (Nat.le_of_ble_eq_true rfl) rfl ⟨Nat.le_refl _, Nat.le_refl _⟩ d_Mo_listWants_170 (fun s_108 H locs h hP hD hS => ?_)
                          refine lv_iinc (v := x4h150 + (-1)) (lv' := [(4, .int (x4h150 + (-1))), (0, .ref (ad a0)), (1, .int x1h150), (2, .int x2h150), (3, .int x3h150)]) G.1 G.2.1 d_Mo_listWants_173 hl (k := 4) rfl rfl (by decide) rfl (fun ls hl => ?_)
                          refine lv_goto (tgt := 150) G.1 G.2.1 d_Mo_listWants_176 (by decide) ?_
                          have h := hK_150 s_108 x1h150 x2h150 x3h150 (x4h150 + (-1)) h
                          exact ih_150 s_108 x1h150 x2h150 x3h150 (x4h150 + (-1)) (Nat.lt_of_lt_of_le h.2 (Nat.le_of_lt_succ hμ_150)) h.1 H locs hP hD hS ls (lv_sub hl [1, 2, 3, 4, 0] rfl)
                    exact L_150 _ s_j148 x1j148 x2j148 x3j148 z0j148 (Nat.lt_succ_self _) hI_150 H locs hP hD hS ls (lv_sub hl [1, 2, 3, 4, 0] rfl)
                  have J_147 : ∀ (s_j147 : St) (x1j147 : Int32) (x2j147 : Int32) (x3j147 : Int32) (H : Heap) (locs : List Loc), wj_Mo_listWants_147 y Post a0 s_j147 x1j147 x2j147 x3j147 → va_P D CL (ws g ad y s_j147) H → va_D A (ws g ad y s_j147) → va_S A s.heap H locs → ∀ ls, lv_has ls 5 [(0, .ref (ad a0)), (1, .int x1j147), (2, .int x2j147), (3, .int x3j147)] → W p l e ru_Mo_listWants s m args below meth c H locs 0 0 Q (F0 m 147 ls []) := by
                    intro s_j147 x1j147 x2j147 x3j147 H locs h hP hD hS ls hl
                    unfold wj_Mo_listWants_147 at h
                    refine lv_iconst (v := (-1)) G.1 G.2.1 d_Mo_listWants_147 (by decide) ?_
                    exact J_148 s_j147 x1j147 x2j147 x3j147 (-1) H locs h hP hD hS ls (lv_sub hl [0, 1, 2, 3] rfl)
                  refine lv_icmp_lt (tgt := 147) G.1 G.2.1 d_Mo_listWants_127 (by decide) (fun c127 => ?_) (fun c127 => ?_)
                  · skip
                    have h := h.1 c127
                    exact J_147 s_j123 x1j123 x2j123 z0j123 H locs h hP hD hS ls (lv_sub hl [1, 2, 3, 0] rfl)
                  · skip
                    have h := h.2 c127
                    refine lv_iload_n G.1 G.2.1 d_Mo_listWants_130 rfl (lv_at hl 2 rfl) ?_
                    refine lv_bipush (v := 53) G.1 G.2.1 d_Mo_listWants_131 (by decide) ?_
                    refine lv_icmp_gt (tgt := 147) G.1 G.2.1 d_Mo_listWants_133 (by decide) (fun c133 => ?_) (fun c133 => ?_)
                    · skip
                      have h := h.1 c133
                      exact J_147 s_j123 x1j123 x2j123 z0j123 H locs h hP hD hS ls (lv_sub hl [1, 2, 3, 0] rfl)
                    · skip
                      have h := h.2 c133
                      refine lv_aload_n G.1 G.2.1 d_Mo_listWants_136 rfl (lv_at hl 1 rfl) ?_
                      refine ugf (v := .ref (yP y a0 31)) G hP h_a0 iMo rfl 31 (by decide) rfl q3095 rfl rfl d_Mo_listWants_137 ?_
                      refine lv_iload_n G.1 G.2.1 d_Mo_listWants_140 rfl (lv_at hl 0 rfl) ?_
                      refine uiald G hP (kdp h_a0 rfl) (typ h_a0 rfl) h d_Mo_listWants_141 (fun x_109 h => ?_)
                      refine W.eq (g2 := F0 m 142 ls [.int x_109]) rfl ?_
                      refine lv_iconst (v := 1) G.1 G.2.1 d_Mo_listWants_142 (by decide) ?_
                      refine lv_isub G.1 G.2.1 d_Mo_listWants_143 ?_
                      refine lv_goto (tgt := 148) G.1 G.2.1 d_Mo_listWants_144 (by decide) ?_
                      exact J_148 s_j123 x1j123 x2j123 z0j123 (x_109 - 1) H locs h hP hD hS ls (lv_sub hl [1, 2, 3, 0] rfl)
                have J_122 : ∀ (s_j122 : St) (x1j122 : Int32) (x2j122 : Int32) (H : Heap) (locs : List Loc), wj_Mo_listWants_122 y Post a0 s_j122 x1j122 x2j122 → va_P D CL (ws g ad y s_j122) H → va_D A (ws g ad y s_j122) → va_S A s.heap H locs → ∀ ls, lv_has ls 5 [(0, .ref (ad a0)), (1, .int x1j122), (2, .int x2j122)] → W p l e ru_Mo_listWants s m args below meth c H locs 0 0 Q (F0 m 122 ls []) := by
                  intro s_j122 x1j122 x2j122 H locs h hP hD hS ls hl
                  unfold wj_Mo_listWants_122 at h
                  refine lv_iconst (v := 0) G.1 G.2.1 d_Mo_listWants_122 (by decide) ?_
                  exact J_123 s_j122 x1j122 x2j122 0 H locs h hP hD hS ls (lv_sub hl [0, 1, 2] rfl)
                refine lv_icmp_lt (tgt := 122) G.1 G.2.1 d_Mo_listWants_101 (by decide) (fun c101 => ?_) (fun c101 => ?_)
                · skip
                  have h := h.1 c101
                  exact J_122 s_j98 x1j98 x2j98 H locs h hP hD hS ls (lv_sub hl [0, 1, 2] rfl)
                · skip
                  have h := h.2 c101
                  refine lv_iload_n G.1 G.2.1 d_Mo_listWants_104 rfl (lv_at hl 1 rfl) ?_
                  refine lv_bipush (v := 53) G.1 G.2.1 d_Mo_listWants_105 (by decide) ?_
                  refine lv_icmp_gt (tgt := 122) G.1 G.2.1 d_Mo_listWants_107 (by decide) (fun c107 => ?_) (fun c107 => ?_)
                  · skip
                    have h := h.1 c107
                    exact J_122 s_j98 x1j98 x2j98 H locs h hP hD hS ls (lv_sub hl [0, 1, 2] rfl)
                  · skip
                    have h := h.2 c107
                    refine lv_aload_n G.1 G.2.1 d_Mo_listWants_110 rfl (lv_at hl 0 rfl) ?_
                    obtain ⟨b_110, e_111, c_112, h⟩ := h
                    refine ugf (v := .ref (ad b_110)) G hP h_a0 iMo rfl 45 (by decide) rfl q3109 rfl (by show va_rf ((sO s_j98 a0 45).map ad) = _; rw [e_111]; rfl) d_Mo_listWants_111 ?_
                    refine ugfN (v := .ref (yP y b_110 33)) G hP c_112 iMw rfl 33 (by decide) rfl q2770 rfl rfl d_Mo_listWants_114 ?_
                    refine lv_iload_n G.1 G.2.1 d_Mo_listWants_117 rfl (lv_at hl 2 rfl) ?_
                    refine uiald G hP (kdp c_112 rfl) (typ c_112 rfl) h d_Mo_listWants_118 (fun x_113 h => ?_)
                    refine W.eq (g2 := F0 m 119 ls [.int x_113]) rfl ?_
                    refine lv_goto (tgt := 123) G.1 G.2.1 d_Mo_listWants_119 (by decide) ?_
                    exact J_123 s_j98 x1j98 x2j98 x_113 H locs h hP hD hS ls (lv_sub hl [0, 1, 2] rfl)
              refine lv_icmp_lt (tgt := 98) G.1 G.2.1 d_Mo_listWants_78 (by decide) (fun c78 => ?_) (fun c78 => ?_)
              · skip
                have h := h.1 c78
                exact J_98 s_j46 x1j46 x2j46 H locs h hP hD hS ls (lv_sub hl [0, 1, 2] rfl)
              · skip
                have h := h.2 c78
                refine lv_iload_n G.1 G.2.1 d_Mo_listWants_81 rfl (lv_at hl 1 rfl) ?_
                refine lv_bipush (v := 35) G.1 G.2.1 d_Mo_listWants_82 (by decide) ?_
                refine lv_icmp_gt (tgt := 98) G.1 G.2.1 d_Mo_listWants_84 (by decide) (fun c84 => ?_) (fun c84 => ?_)
                · skip
                  have h := h.1 c84
                  exact J_98 s_j46 x1j46 x2j46 H locs h hP hD hS ls (lv_sub hl [0, 1, 2] rfl)
                · skip
                  have h := h.2 c84
                  refine lv_aload_n G.1 G.2.1 d_Mo_listWants_87 rfl (lv_at hl 0 rfl) ?_
                  refine lv_iconst (v := 1) G.1 G.2.1 d_Mo_listWants_88 (by decide) ?_
                  refine ucVv (As := [.int 1]) (rest := []) G hP hD hS (cu_Mo_want l D g ad y _ s_j46 a0 1 H.size h_a0 h) w9_Mo_want q3757 ⟨Nat.le_of_ble_eq_true rfl, Nat.le_of_ble_eq_true rfl⟩ rfl rfl h_a0 (q := (RMo, TMo, 131)) rfl rfl hl.1 rfl (Nat.le_of_ble_eq_true rfl) rfl ⟨Nat.le_refl _, Nat.le_refl _⟩ d_Mo_listWants_89 (fun s_115 H locs h hP hD hS => ?_)
                  refine lv_aload_n G.1 G.2.1 d_Mo_listWants_92 rfl (lv_at hl 0 rfl) ?_
                  refine lv_iconst (v := 1) G.1 G.2.1 d_Mo_listWants_93 (by decide) ?_
                  refine W.eq (g2 := F0 m 94 ls [.int 1, .ref (ad a0)]) rfl ?_
                  refine ucVv (As := [.int 1]) (rest := []) G hP hD hS (cu_Mo_want l D g ad y _ s_115 a0 1 H.size h_a0 h) w9_Mo_want q3757 ⟨Nat.le_of_ble_eq_true rfl, Nat.le_of_ble_eq_true rfl⟩ rfl rfl h_a0 (q := (RMo, TMo, 131)) rfl rfl hl.1 rfl (Nat.le_of_ble_eq_true rfl) rfl ⟨Nat.le_refl _, Nat.le_refl _⟩ d_Mo_listWants_94 (fun s_117 H locs h hP hD hS => ?_)
                  exact hret _ _ _ _ _ _ ls h hP hD hS (Nat.le_refl _) (Nat.le_refl _) d_Mo_listWants_97
            · skip
              have h := h.2 c66
              exact J_69 s_j46 H locs h hP hD hS ls (lv_sub hl [0] rfl)
    refine lv_icmp_lt (tgt := 46) G.1 G.2.1 d_Mo_listWants_37 (by decide) (fun c37 => ?_) (fun c37 => ?_)
    · skip
      have h := h.1 c37
      exact J_46 s_j34 x1j34 x2j34 H locs h hP hD hS ls (lv_sub hl [0, 1, 2] rfl)
    · skip
      have h := h.2 c37
      refine lv_iload_n G.1 G.2.1 d_Mo_listWants_40 rfl (lv_at hl 1 rfl) ?_
      refine lv_bipush (v := 29) G.1 G.2.1 d_Mo_listWants_41 (by decide) ?_
      refine lv_icmp_le (tgt := 69) G.1 G.2.1 d_Mo_listWants_43 (by decide) (fun c43 => ?_) (fun c43 => ?_)
      · skip
        have h := h.1 c43
        exact J_69 s_j34 H locs h hP hD hS ls (lv_sub hl [0] rfl)
      · skip
        have h := h.2 c43
        exact J_46 s_j34 x1j34 x2j34 H locs h hP hD hS ls (lv_sub hl [0, 1, 2] rfl)
  refine lv_icmp_lt (tgt := 34) G.1 G.2.1 d_Mo_listWants_8 (by decide) (fun c8 => ?_) (fun c8 => ?_)
  · skip
    have h := h.1 c8
    exact J_34 s_1 v1 v2 H locs h hP hD hS ls (lv_sub hl [0, 1, 2] rfl)
  · skip
    have h := h.2 c8
    refine lv_iload_n G.1 G.2.1 d_Mo_listWants_11 rfl (lv_at hl 1 rfl) ?_
    refine lv_bipush (v := 18) G.1 G.2.1 d_Mo_listWants_12 (by decide) ?_
    refine lv_icmp_gt (tgt := 34) G.1 G.2.1 d_Mo_listWants_14 (by decide) (fun c14 => ?_) (fun c14 => ?_)
    · skip
      have h := h.1 c14
      exact J_34 s_1 v1 v2 H locs h hP hD hS ls (lv_sub hl [0, 1, 2] rfl)
    · skip
      have h := h.2 c14
      refine lv_aload_n G.1 G.2.1 d_Mo_listWants_17 rfl (lv_at hl 0 rfl) ?_
      refine lv_iconst (v := 1) G.1 G.2.1 d_Mo_listWants_18 (by decide) ?_
      refine W.eq (g2 := F0 m 19 ls [.int 1, .ref (ad a0)]) rfl ?_
      refine ucVv (As := [.int 1]) (rest := []) G hP hD hS (cu_Mo_want l D g ad y _ s_1 a0 1 H.size h_a0 h) w9_Mo_want q3757 ⟨Nat.le_of_ble_eq_true rfl, Nat.le_of_ble_eq_true rfl⟩ rfl rfl h_a0 (q := (RMo, TMo, 131)) rfl rfl hl.1 rfl (Nat.le_of_ble_eq_true rfl) rfl ⟨Nat.le_refl _, Nat.le_refl _⟩ d_Mo_listWants_19 (fun s_119 H locs h hP hD hS => ?_)
      refine lv_iload_n G.1 G.2.1 d_Mo_listWants_22 rfl (lv_at hl 1 rfl) ?_
      refine lv_bipush (v := 13) G.1 G.2.1 d_Mo_listWants_23 (by decide) ?_
      have J_33 : ∀ (s_j33 : St) (H : Heap) (locs : List Loc), wj_Mo_listWants_33 y Post a0 s_j33 → va_P D CL (ws g ad y s_j33) H → va_D A (ws g ad y s_j33) → va_S A s.heap H locs → ∀ ls, lv_has ls 5 [] → W p l e ru_Mo_listWants s m args below meth c H locs 0 0 Q (F0 m 33 ls []) := by
        intro s_j33 H locs h hP hD hS ls hl
        unfold wj_Mo_listWants_33 at h
        exact hret _ _ _ _ _ _ ls h hP hD hS (Nat.le_refl _) (Nat.le_refl _) d_Mo_listWants_33
      refine lv_icmp_eq (tgt := 33) G.1 G.2.1 d_Mo_listWants_25 (by decide) (fun c25 => ?_) (fun c25 => ?_)
      · skip
        have h := h.1 c25
        exact J_33 s_119 H locs h hP hD hS ls (lv_sub hl [] rfl)
      · skip
        have h := h.2 c25
        refine lv_aload_n G.1 G.2.1 d_Mo_listWants_28 rfl (lv_at hl 0 rfl) ?_
        refine lv_iconst (v := 1) G.1 G.2.1 d_Mo_listWants_29 (by decide) ?_
        refine ucVv (As := [.int 1]) (rest := []) G hP hD hS (cu_Mo_want l D g ad y _ s_119 a0 1 H.size h_a0 h) w9_Mo_want q3757 ⟨Nat.le_of_ble_eq_true rfl, Nat.le_of_ble_eq_true rfl⟩ rfl rfl h_a0 (q := (RMo, TMo, 131)) rfl rfl hl.1 rfl (Nat.le_of_ble_eq_true rfl) rfl ⟨Nat.le_refl _, Nat.le_refl _⟩ d_Mo_listWants_30 (fun s_121 H locs h hP hD hS => ?_)
        exact J_33 s_121 H locs h hP hD hS ls (lv_sub hl [] rfl)
