def y_Mo_text : MethodName := ⟨"ClassWorksModel", "text", "(II)I"⟩
abbrev b_Mo_text : ByteArray := prog_14_method_213_code
theorem d_Mo_text_0 : decode b_Mo_text 0 = .ok (.aload_n 0, 1) := by decide +kernel
theorem d_Mo_text_1 : decode b_Mo_text 1 = .ok (.iload_n 1, 1) := by decide +kernel
theorem d_Mo_text_2 : decode b_Mo_text 2 = .ok (.invokevirtual 1329, 3) := by decide +kernel
theorem d_Mo_text_5 : decode b_Mo_text 5 = .ok (.ifCond .eq 17, 3) := by decide +kernel
theorem d_Mo_text_8 : decode b_Mo_text 8 = .ok (.iload_n 2, 1) := by decide +kernel
theorem d_Mo_text_9 : decode b_Mo_text 9 = .ok (.ifCond .lt 13, 3) := by decide +kernel
theorem d_Mo_text_12 : decode b_Mo_text 12 = .ok (.iload_n 2, 1) := by decide +kernel
theorem d_Mo_text_13 : decode b_Mo_text 13 = .ok (.aload_n 0, 1) := by decide +kernel
theorem d_Mo_text_14 : decode b_Mo_text 14 = .ok (.getfield 375, 3) := by decide +kernel
theorem d_Mo_text_17 : decode b_Mo_text 17 = .ok (.iload_n 1, 1) := by decide +kernel
theorem d_Mo_text_18 : decode b_Mo_text 18 = .ok (.iaload, 1) := by decide +kernel
theorem d_Mo_text_19 : decode b_Mo_text 19 = .ok (.if_icmp .lt 7, 3) := by decide +kernel
theorem d_Mo_text_22 : decode b_Mo_text 22 = .ok (.iconst (-1), 1) := by decide +kernel
theorem d_Mo_text_23 : decode b_Mo_text 23 = .ok (.goto 19, 3) := by decide +kernel
theorem d_Mo_text_26 : decode b_Mo_text 26 = .ok (.aload_n 0, 1) := by decide +kernel
theorem d_Mo_text_27 : decode b_Mo_text 27 = .ok (.getfield 372, 3) := by decide +kernel
theorem d_Mo_text_30 : decode b_Mo_text 30 = .ok (.sipush 1204, 3) := by decide +kernel
theorem d_Mo_text_33 : decode b_Mo_text 33 = .ok (.iload_n 1, 1) := by decide +kernel
theorem d_Mo_text_34 : decode b_Mo_text 34 = .ok (.imul, 1) := by decide +kernel
theorem d_Mo_text_35 : decode b_Mo_text 35 = .ok (.iload_n 2, 1) := by decide +kernel
theorem d_Mo_text_36 : decode b_Mo_text 36 = .ok (.iadd, 1) := by decide +kernel
theorem d_Mo_text_37 : decode b_Mo_text 37 = .ok (.baload, 1) := by decide +kernel
theorem d_Mo_text_38 : decode b_Mo_text 38 = .ok (.sipush 255, 3) := by decide +kernel
theorem d_Mo_text_41 : decode b_Mo_text 41 = .ok (.iand, 1) := by decide +kernel
theorem d_Mo_text_42 : decode b_Mo_text 42 = .ok (.ireturn, 1) := by decide +kernel
abbrev ru_Mo_text : Room := { frames := 1, cells := 0, slots := 0, locals := 21 }
def wj_Mo_text_42 (y : Ly) (Post : St → Int32 → Prop) (a0 : Nat) (s_j42 : St) (z0j42 : Int32) : Prop := Post s_j42 z0j42
def wj_Mo_text_22 (y : Ly) (Post : St → Int32 → Prop) (a0 : Nat) (s_j22 : St) : Prop := wj_Mo_text_42 y Post a0 s_j22 (-1)
def wu_Mo_text (y : Ly) (Post : St → Int32 → Prop) (σ : St) (a0 : Nat) (v1 : Int32) (v2 : Int32) : Prop := wu_Mo_isTrial y (fun (s_2 : St) (r_1 : Int32) => ((r_1 = 0 → wj_Mo_text_22 y Post a0 s_2) ∧ (¬ (r_1 = 0) → ((v2 < 0 → wj_Mo_text_22 y Post a0 s_2) ∧ (¬ (v2 < 0) → xA y s_2 a0 117 v1 (fun x_3 : Int32 => ((v2 < x_3 → xA y s_2 a0 116 ((1204 * v1) + v2) (fun x_4 : Int32 => wj_Mo_text_42 y Post a0 s_2 (x_4 &&& 255))) ∧ (¬ (v2 < x_3) → wj_Mo_text_22 y Post a0 s_2)))))))) σ a0 v1
set_option maxHeartbeats 4000000 in
set_option maxRecDepth 100000 in
theorem cu_Mo_text (l : Launch) (D : va_G) (g : Nat → ClassId) (ad : Nat → Nat) (y : Ly) (Post : St → Int32 → Prop) (σ : St) (a0 : Nat) (v1 : Int32) (v2 : Int32) (sz : Nat) (h_a0 : cl a0 = 14) (h : wu_Mo_text y Post σ a0 v1 v2) : Met l y_Mo_text (mw y_Mo_text b_Mo_text 3 (some .int)) ru_Mo_text (PC g D [] [.ref (ad a0), .int v1, .int v2] sz (ws g ad y σ)) (va_Qi (fun (r : Int32) (u : St) => Post u r) (QW D (va_A (ws g ad y σ) sz) (fun u => ws g ad y u)) (va_A (ws g ad y σ) sz)) 0 0 (va_A (ws g ad y σ) sz) := by
  refine ofI (by decide +kernel) (Nat.le_of_ble_eq_true rfl) ?_
  intro p e s m args below meth c A Q ls H locs G hsz hP hD hS hl hret
  subst hsz
  have hl : lv_has ls 3 [(0, .ref (ad a0)), (1, .int v1), (2, .int v2)] := hl
  unfold wu_Mo_text at h
  refine lv_aload_n G.1 G.2.1 d_Mo_text_0 rfl (lv_at hl 0 rfl) ?_
  refine lv_iload_n G.1 G.2.1 d_Mo_text_1 rfl (lv_at hl 1 rfl) ?_
  refine ucVi (As := [.int v1]) (rest := []) G hP hD hS (cu_Mo_isTrial l D g ad y _ σ a0 v1 H.size h_a0 h) w9_Mo_isTrial q4224 ⟨Nat.le_of_ble_eq_true rfl, Nat.le_of_ble_eq_true rfl⟩ rfl rfl h_a0 (q := (RMo, TMo, 131)) rfl rfl hl.1 rfl (Nat.le_of_ble_eq_true rfl) rfl ⟨Nat.le_refl _, Nat.le_refl _⟩ d_Mo_text_2 (fun r_1 s_2 H locs h hP hD hS => ?_)
  have J_42 : ∀ (s_j42 : St) (z0j42 : Int32) (H : Heap) (locs : List Loc), wj_Mo_text_42 y Post a0 s_j42 z0j42 → va_P D CL (ws g ad y s_j42) H → va_D A (ws g ad y s_j42) → va_S A s.heap H locs → ∀ ls, lv_has ls 3 [] → W p l e ru_Mo_text s m args below meth c H locs 0 0 Q (F0 m 42 ls [.int z0j42]) := by
    intro s_j42 z0j42 H locs h hP hD hS ls hl
    unfold wj_Mo_text_42 at h
    exact hret _ _ _ _ _ _ _ ls h hP hD hS (Nat.le_refl _) (Nat.le_refl _) d_Mo_text_42
  have J_22 : ∀ (s_j22 : St) (H : Heap) (locs : List Loc), wj_Mo_text_22 y Post a0 s_j22 → va_P D CL (ws g ad y s_j22) H → va_D A (ws g ad y s_j22) → va_S A s.heap H locs → ∀ ls, lv_has ls 3 [] → W p l e ru_Mo_text s m args below meth c H locs 0 0 Q (F0 m 22 ls []) := by
    intro s_j22 H locs h hP hD hS ls hl
    unfold wj_Mo_text_22 at h
    refine lv_iconst (v := (-1)) G.1 G.2.1 d_Mo_text_22 (by decide) ?_
    refine lv_goto (tgt := 42) G.1 G.2.1 d_Mo_text_23 (by decide) ?_
    exact J_42 s_j22 (-1) H locs h hP hD hS ls (lv_sub hl [] rfl)
  refine lv_if_eq (tgt := 22) G.1 G.2.1 d_Mo_text_5 (by decide) (fun c5 => ?_) (fun c5 => ?_)
  · skip
    have h := h.1 c5
    exact J_22 s_2 H locs h hP hD hS ls (lv_sub hl [] rfl)
  · skip
    have h := h.2 c5
    refine lv_iload_n G.1 G.2.1 d_Mo_text_8 rfl (lv_at hl 2 rfl) ?_
    refine lv_if_lt (tgt := 22) G.1 G.2.1 d_Mo_text_9 (by decide) (fun c9 => ?_) (fun c9 => ?_)
    · skip
      have h := h.1 c9
      exact J_22 s_2 H locs h hP hD hS ls (lv_sub hl [] rfl)
    · skip
      have h := h.2 c9
      refine lv_iload_n G.1 G.2.1 d_Mo_text_12 rfl (lv_at hl 2 rfl) ?_
      refine lv_aload_n G.1 G.2.1 d_Mo_text_13 rfl (lv_at hl 0 rfl) ?_
      refine ugf (v := .ref (yP y a0 117)) G hP h_a0 iMo rfl 117 (by decide) rfl q3181 rfl rfl d_Mo_text_14 ?_
      refine lv_iload_n G.1 G.2.1 d_Mo_text_17 rfl (lv_at hl 1 rfl) ?_
      refine uiald G hP (kdp h_a0 rfl) (typ h_a0 rfl) h d_Mo_text_18 (fun x_3 h => ?_)
      refine W.eq (g2 := F0 m 19 ls [.int x_3, .int v2]) rfl ?_
      refine lv_icmp_lt (tgt := 26) G.1 G.2.1 d_Mo_text_19 (by decide) (fun c19 => ?_) (fun c19 => ?_)
      · skip
        have h := h.1 c19
        refine lv_aload_n G.1 G.2.1 d_Mo_text_26 rfl (lv_at hl 0 rfl) ?_
        refine ugf (v := .ref (yP y a0 116)) G hP h_a0 iMo rfl 116 (by decide) rfl q3180 rfl rfl d_Mo_text_27 ?_
        refine lv_sipush (v := 1204) G.1 G.2.1 d_Mo_text_30 (by decide) ?_
        refine lv_iload_n G.1 G.2.1 d_Mo_text_33 rfl (lv_at hl 1 rfl) ?_
        refine lv_imul G.1 G.2.1 d_Mo_text_34 ?_
        refine lv_iload_n G.1 G.2.1 d_Mo_text_35 rfl (lv_at hl 2 rfl) ?_
        refine lv_iadd G.1 G.2.1 d_Mo_text_36 ?_
        refine ubald G hP (kdp h_a0 rfl) (typ h_a0 rfl) h d_Mo_text_37 (fun x_4 h => ?_)
        refine lv_sipush (v := 255) G.1 G.2.1 d_Mo_text_38 (by decide) ?_
        refine lv_iand G.1 G.2.1 d_Mo_text_41 ?_
        exact J_42 s_2 (x_4 &&& 255) H locs h hP hD hS ls (lv_sub hl [] rfl)
      · skip
        have h := h.2 c19
        exact J_22 s_2 H locs h hP hD hS ls (lv_sub hl [] rfl)
def y_Mo_count : MethodName := ⟨"ClassWorksModel", "count", "(I)I"⟩
abbrev b_Mo_count : ByteArray := prog_14_method_214_code
theorem q3830 : Cond.constant "ClassWorksModel" 1163 (60000) ∈ lw_ok := lw_okmem (List.mem_of_getElem? (i := 3830) (by decide +kernel)) rfl
theorem q3157 : Cond.fieldLink "ClassWorksModel" 1164 "ClassWorksModel" "houseSteps" "I" ∈ lw_ok := lw_okmem (List.mem_of_getElem? (i := 3157) (by decide +kernel)) rfl
theorem d_Mo_count_0 : decode b_Mo_count 0 = .ok (.iload_n 1, 1) := by decide +kernel
theorem d_Mo_count_1 : decode b_Mo_count 1 = .ok (.ifCond .ne 10, 3) := by decide +kernel
theorem d_Mo_count_4 : decode b_Mo_count 4 = .ok (.aload_n 0, 1) := by decide +kernel
theorem d_Mo_count_5 : decode b_Mo_count 5 = .ok (.getfield 1314, 3) := by decide +kernel
theorem d_Mo_count_8 : decode b_Mo_count 8 = .ok (.goto 32, 3) := by decide +kernel
theorem d_Mo_count_11 : decode b_Mo_count 11 = .ok (.iload_n 1, 1) := by decide +kernel
theorem d_Mo_count_12 : decode b_Mo_count 12 = .ok (.iconst 1, 1) := by decide +kernel
theorem d_Mo_count_13 : decode b_Mo_count 13 = .ok (.if_icmp .ne 14, 3) := by decide +kernel
theorem d_Mo_count_16 : decode b_Mo_count 16 = .ok (.ldc_w 1163, 3) := by decide +kernel
theorem d_Mo_count_19 : decode b_Mo_count 19 = .ok (.aload_n 0, 1) := by decide +kernel
theorem d_Mo_count_20 : decode b_Mo_count 20 = .ok (.getfield 1164, 3) := by decide +kernel
theorem d_Mo_count_23 : decode b_Mo_count 23 = .ok (.isub, 1) := by decide +kernel
theorem d_Mo_count_24 : decode b_Mo_count 24 = .ok (.goto 16, 3) := by decide +kernel
theorem d_Mo_count_27 : decode b_Mo_count 27 = .ok (.iload_n 1, 1) := by decide +kernel
theorem d_Mo_count_28 : decode b_Mo_count 28 = .ok (.iconst 2, 1) := by decide +kernel
theorem d_Mo_count_29 : decode b_Mo_count 29 = .ok (.if_icmp .ne 10, 3) := by decide +kernel
theorem d_Mo_count_32 : decode b_Mo_count 32 = .ok (.aload_n 0, 1) := by decide +kernel
theorem d_Mo_count_33 : decode b_Mo_count 33 = .ok (.getfield 1112, 3) := by decide +kernel
theorem d_Mo_count_36 : decode b_Mo_count 36 = .ok (.goto 4, 3) := by decide +kernel
theorem d_Mo_count_39 : decode b_Mo_count 39 = .ok (.iconst (-1), 1) := by decide +kernel
theorem d_Mo_count_40 : decode b_Mo_count 40 = .ok (.ireturn, 1) := by decide +kernel
abbrev ru_Mo_count : Room := { frames := 0, cells := 0, slots := 0, locals := 0 }
def wj_Mo_count_40 (y : Ly) (Post : St → Int32 → Prop) (a0 : Nat) (s_j40 : St) (z0j40 : Int32) : Prop := Post s_j40 z0j40
def wu_Mo_count (y : Ly) (Post : St → Int32 → Prop) (σ : St) (a0 : Nat) (v1 : Int32) : Prop := ((¬ v1 = 0 → ((¬ v1 = 1 → ((¬ v1 = 2 → wj_Mo_count_40 y Post a0 σ (-1)) ∧ (v1 = 2 → wj_Mo_count_40 y Post a0 σ (sV σ a0 85)))) ∧ (v1 = 1 → wj_Mo_count_40 y Post a0 σ (60000 - (sV σ a0 93))))) ∧ (v1 = 0 → wj_Mo_count_40 y Post a0 σ (sV σ a0 121)))
set_option maxHeartbeats 4000000 in
set_option maxRecDepth 100000 in
theorem cu_Mo_count (l : Launch) (D : va_G) (g : Nat → ClassId) (ad : Nat → Nat) (y : Ly) (Post : St → Int32 → Prop) (σ : St) (a0 : Nat) (v1 : Int32) (sz : Nat) (h_a0 : cl a0 = 14) (h : wu_Mo_count y Post σ a0 v1) : Met l y_Mo_count (mw y_Mo_count b_Mo_count 2 (some .int)) ru_Mo_count (PC g D [] [.ref (ad a0), .int v1] sz (ws g ad y σ)) (va_Qi (fun (r : Int32) (u : St) => Post u r) (QW D (va_A (ws g ad y σ) sz) (fun u => ws g ad y u)) (va_A (ws g ad y σ) sz)) 0 0 (va_A (ws g ad y σ) sz) := by
  refine ofI (by decide +kernel) (Nat.le_of_ble_eq_true rfl) ?_
  intro p e s m args below meth c A Q ls H locs G hsz hP hD hS hl hret
  subst hsz
  have hl : lv_has ls 2 [(0, .ref (ad a0)), (1, .int v1)] := hl
  unfold wu_Mo_count at h
  refine lv_iload_n G.1 G.2.1 d_Mo_count_0 rfl (lv_at hl 1 rfl) ?_
  have J_40 : ∀ (s_j40 : St) (z0j40 : Int32) (H : Heap) (locs : List Loc), wj_Mo_count_40 y Post a0 s_j40 z0j40 → va_P D CL (ws g ad y s_j40) H → va_D A (ws g ad y s_j40) → va_S A s.heap H locs → ∀ ls, lv_has ls 2 [] → W p l e ru_Mo_count s m args below meth c H locs 0 0 Q (F0 m 40 ls [.int z0j40]) := by
    intro s_j40 z0j40 H locs h hP hD hS ls hl
    unfold wj_Mo_count_40 at h
    exact hret _ _ _ _ _ _ _ ls h hP hD hS (Nat.le_refl _) (Nat.le_refl _) d_Mo_count_40
  refine lv_if_ne (tgt := 11) G.1 G.2.1 d_Mo_count_1 (by decide) (fun c1 => ?_) (fun c1 => ?_)
  · skip
    have h := h.1 c1
    refine lv_iload_n G.1 G.2.1 d_Mo_count_11 rfl (lv_at hl 1 rfl) ?_
    refine lv_iconst (v := 1) G.1 G.2.1 d_Mo_count_12 (by decide) ?_
    refine lv_icmp_ne (tgt := 27) G.1 G.2.1 d_Mo_count_13 (by decide) (fun c13 => ?_) (fun c13 => ?_)
    · skip
      have h := h.1 c13
      refine lv_iload_n G.1 G.2.1 d_Mo_count_27 rfl (lv_at hl 1 rfl) ?_
      refine lv_iconst (v := 2) G.1 G.2.1 d_Mo_count_28 (by decide) ?_
      refine lv_icmp_ne (tgt := 39) G.1 G.2.1 d_Mo_count_29 (by decide) (fun c29 => ?_) (fun c29 => ?_)
      · skip
        have h := h.1 c29
        refine lv_iconst (v := (-1)) G.1 G.2.1 d_Mo_count_39 (by decide) ?_
        exact J_40 σ (-1) H locs h hP hD hS ls (lv_sub hl [] rfl)
      · skip
        have h := h.2 c29
        refine lv_aload_n G.1 G.2.1 d_Mo_count_32 rfl (lv_at hl 0 rfl) ?_
        refine ugf (v := .int (sV σ a0 85)) G hP h_a0 iMo rfl 85 (by decide) rfl q3149 rfl rfl d_Mo_count_33 ?_
        refine lv_goto (tgt := 40) G.1 G.2.1 d_Mo_count_36 (by decide) ?_
        exact J_40 σ (sV σ a0 85) H locs h hP hD hS ls (lv_sub hl [] rfl)
    · skip
      have h := h.2 c13
      refine lv_ldcw (v := 60000) G.1 G.2.1 G.2.2.2.2.2.2.1 (G.2.2.2.2.2.1 _ q3830) d_Mo_count_16 ?_
      refine lv_aload_n G.1 G.2.1 d_Mo_count_19 rfl (lv_at hl 0 rfl) ?_
      refine ugf (v := .int (sV σ a0 93)) G hP h_a0 iMo rfl 93 (by decide) rfl q3157 rfl rfl d_Mo_count_20 ?_
      refine lv_isub G.1 G.2.1 d_Mo_count_23 ?_
      refine lv_goto (tgt := 40) G.1 G.2.1 d_Mo_count_24 (by decide) ?_
      exact J_40 σ (60000 - (sV σ a0 93)) H locs h hP hD hS ls (lv_sub hl [] rfl)
  · skip
    have h := h.2 c1
    refine lv_aload_n G.1 G.2.1 d_Mo_count_4 rfl (lv_at hl 0 rfl) ?_
    refine ugf (v := .int (sV σ a0 121)) G hP h_a0 iMo rfl 121 (by decide) rfl q3185 rfl rfl d_Mo_count_5 ?_
    refine lv_goto (tgt := 40) G.1 G.2.1 d_Mo_count_8 (by decide) ?_
    exact J_40 σ (sV σ a0 121) H locs h hP hD hS ls (lv_sub hl [] rfl)
