def y_Re_isSign : MethodName := ⟨"ClassWorks$Reader", "isSign", "(I)Z"⟩
abbrev b_Re_isSign : ByteArray := prog_8_method_7_code
theorem d_Re_isSign_0 : decode b_Re_isSign 0 = .ok (.aload_n 0, 1) := by decide +kernel
theorem d_Re_isSign_1 : decode b_Re_isSign 1 = .ok (.getfield 68, 3) := by decide +kernel
theorem d_Re_isSign_4 : decode b_Re_isSign 4 = .ok (.getfield 134, 3) := by decide +kernel
theorem d_Re_isSign_7 : decode b_Re_isSign 7 = .ok (.aload_n 0, 1) := by decide +kernel
theorem d_Re_isSign_8 : decode b_Re_isSign 8 = .ok (.getfield 27, 3) := by decide +kernel
theorem d_Re_isSign_11 : decode b_Re_isSign 11 = .ok (.iaload, 1) := by decide +kernel
theorem d_Re_isSign_12 : decode b_Re_isSign 12 = .ok (.iconst 3, 1) := by decide +kernel
theorem d_Re_isSign_13 : decode b_Re_isSign 13 = .ok (.if_icmp .ne 23, 3) := by decide +kernel
theorem d_Re_isSign_16 : decode b_Re_isSign 16 = .ok (.aload_n 0, 1) := by decide +kernel
theorem d_Re_isSign_17 : decode b_Re_isSign 17 = .ok (.getfield 68, 3) := by decide +kernel
theorem d_Re_isSign_20 : decode b_Re_isSign 20 = .ok (.getfield 137, 3) := by decide +kernel
theorem d_Re_isSign_23 : decode b_Re_isSign 23 = .ok (.aload_n 0, 1) := by decide +kernel
theorem d_Re_isSign_24 : decode b_Re_isSign 24 = .ok (.getfield 27, 3) := by decide +kernel
theorem d_Re_isSign_27 : decode b_Re_isSign 27 = .ok (.iaload, 1) := by decide +kernel
theorem d_Re_isSign_28 : decode b_Re_isSign 28 = .ok (.iload_n 1, 1) := by decide +kernel
theorem d_Re_isSign_29 : decode b_Re_isSign 29 = .ok (.if_icmp .ne 7, 3) := by decide +kernel
theorem d_Re_isSign_32 : decode b_Re_isSign 32 = .ok (.iconst 1, 1) := by decide +kernel
theorem d_Re_isSign_33 : decode b_Re_isSign 33 = .ok (.goto 4, 3) := by decide +kernel
theorem d_Re_isSign_36 : decode b_Re_isSign 36 = .ok (.iconst 0, 1) := by decide +kernel
theorem d_Re_isSign_37 : decode b_Re_isSign 37 = .ok (.ireturn, 1) := by decide +kernel
abbrev ru_Re_isSign : Room := { frames := 0, cells := 0, slots := 0, locals := 0 }
def wj_Re_isSign_37 (y : Ly) (Post : St → Int32 → Prop) (a0 : Nat) (s_j37 : St) (z0j37 : Int32) : Prop := (nb z0j37 ∧ Post s_j37 z0j37)
def wj_Re_isSign_36 (y : Ly) (Post : St → Int32 → Prop) (a0 : Nat) (s_j36 : St) : Prop := wj_Re_isSign_37 y Post a0 s_j36 0
def wu_Re_isSign (y : Ly) (Post : St → Int32 → Prop) (σ : St) (a0 : Nat) (v1 : Int32) : Prop := xA y σ (lk a0 3) 0 (sV σ a0 8) (fun x_1 : Int32 => ((¬ x_1 = 3 → wj_Re_isSign_36 y Post a0 σ) ∧ (x_1 = 3 → xA y σ (lk a0 3) 1 (sV σ a0 8) (fun x_2 : Int32 => ((¬ x_2 = v1 → wj_Re_isSign_36 y Post a0 σ) ∧ (x_2 = v1 → wj_Re_isSign_37 y Post a0 σ 1))))))
set_option maxHeartbeats 4000000 in
set_option maxRecDepth 100000 in
theorem cu_Re_isSign (l : Launch) (D : va_G) (g : Nat → ClassId) (ad : Nat → Nat) (y : Ly) (Post : St → Int32 → Prop) (σ : St) (a0 : Nat) (v1 : Int32) (sz : Nat) (h_a0 : cl a0 = 6) (h : wu_Re_isSign y Post σ a0 v1) : Met l y_Re_isSign (mw y_Re_isSign b_Re_isSign 2 (some (.boolean))) ru_Re_isSign (PC g D [] [.ref (ad a0), .int v1] sz (ws g ad y σ)) (va_Qi (fun (r : Int32) (u : St) => Post u r) (QW D (va_A (ws g ad y σ) sz) (fun u => ws g ad y u)) (va_A (ws g ad y σ) sz)) 0 0 (va_A (ws g ad y σ) sz) := by
  refine ofZ (by decide +kernel) (Nat.le_of_ble_eq_true rfl) ?_
  intro p e s m args below meth c A Q ls H locs G hsz hP hD hS hl hret
  subst hsz
  have hl : lv_has ls 2 [(0, .ref (ad a0)), (1, .int v1)] := hl
  unfold wu_Re_isSign at h
  refine lv_aload_n G.1 G.2.1 d_Re_isSign_0 rfl (lv_at hl 0 rfl) ?_
  refine ugf (v := .ref (ad (lk a0 3))) G hP h_a0 iRe rfl 3 (by decide) rfl q590 rfl rfl d_Re_isSign_1 ?_
  refine ugf (v := .ref (yP y (lk a0 3) 0)) G hP (lk_6_3 h_a0) iWo rfl 0 (by decide) rfl q548 rfl rfl d_Re_isSign_4 ?_
  refine lv_aload_n G.1 G.2.1 d_Re_isSign_7 rfl (lv_at hl 0 rfl) ?_
  refine ugf (v := .int (sV σ a0 8)) G hP h_a0 iRe rfl 8 (by decide) rfl q595 rfl rfl d_Re_isSign_8 ?_
  refine uiald G hP (kdp (lk_6_3 h_a0) rfl) (typ (lk_6_3 h_a0) rfl) h d_Re_isSign_11 (fun x_1 h => ?_)
  refine lv_iconst (v := 3) G.1 G.2.1 d_Re_isSign_12 (by decide) ?_
  have J_37 : ∀ (s_j37 : St) (z0j37 : Int32) (H : Heap) (locs : List Loc), wj_Re_isSign_37 y Post a0 s_j37 z0j37 → va_P D CL (ws g ad y s_j37) H → va_D A (ws g ad y s_j37) → va_S A s.heap H locs → ∀ ls, lv_has ls 2 [] → W p l e ru_Re_isSign s m args below meth c H locs 0 0 Q (F0 m 37 ls [.int z0j37]) := by
    intro s_j37 z0j37 H locs h hP hD hS ls hl
    unfold wj_Re_isSign_37 at h
    exact hret _ _ _ _ _ _ _ ls (nb_n h.1) h.2 hP hD hS (Nat.le_refl _) (Nat.le_refl _) d_Re_isSign_37
  have J_36 : ∀ (s_j36 : St) (H : Heap) (locs : List Loc), wj_Re_isSign_36 y Post a0 s_j36 → va_P D CL (ws g ad y s_j36) H → va_D A (ws g ad y s_j36) → va_S A s.heap H locs → ∀ ls, lv_has ls 2 [] → W p l e ru_Re_isSign s m args below meth c H locs 0 0 Q (F0 m 36 ls []) := by
    intro s_j36 H locs h hP hD hS ls hl
    unfold wj_Re_isSign_36 at h
    refine lv_iconst (v := 0) G.1 G.2.1 d_Re_isSign_36 (by decide) ?_
    exact J_37 s_j36 0 H locs h hP hD hS ls (lv_sub hl [] rfl)
  refine lv_icmp_ne (tgt := 36) G.1 G.2.1 d_Re_isSign_13 (by decide) (fun c13 => ?_) (fun c13 => ?_)
  · skip
    have h := h.1 c13
    exact J_36 σ H locs h hP hD hS ls (lv_sub hl [] rfl)
  · skip
    have h := h.2 c13
    refine lv_aload_n G.1 G.2.1 d_Re_isSign_16 rfl (lv_at hl 0 rfl) ?_
    refine ugf (v := .ref (ad (lk a0 3))) G hP h_a0 iRe rfl 3 (by decide) rfl q590 rfl rfl d_Re_isSign_17 ?_
    refine ugf (v := .ref (yP y (lk a0 3) 1)) G hP (lk_6_3 h_a0) iWo rfl 1 (by decide) rfl q550 rfl rfl d_Re_isSign_20 ?_
    refine W.eq (g2 := F0 m 23 ls [.ref (yP y (lk a0 3) 1)]) rfl ?_
    refine lv_aload_n G.1 G.2.1 d_Re_isSign_23 rfl (lv_at hl 0 rfl) ?_
    refine ugf (v := .int (sV σ a0 8)) G hP h_a0 iRe rfl 8 (by decide) rfl q595 rfl rfl d_Re_isSign_24 ?_
    refine uiald G hP (kdp (lk_6_3 h_a0) rfl) (typ (lk_6_3 h_a0) rfl) h d_Re_isSign_27 (fun x_2 h => ?_)
    refine lv_iload_n G.1 G.2.1 d_Re_isSign_28 rfl (lv_at hl 1 rfl) ?_
    refine lv_icmp_ne (tgt := 36) G.1 G.2.1 d_Re_isSign_29 (by decide) (fun c29 => ?_) (fun c29 => ?_)
    · skip
      have h := h.1 c29
      exact J_36 σ H locs h hP hD hS ls (lv_sub hl [] rfl)
    · skip
      have h := h.2 c29
      refine lv_iconst (v := 1) G.1 G.2.1 d_Re_isSign_32 (by decide) ?_
      refine lv_goto (tgt := 37) G.1 G.2.1 d_Re_isSign_33 (by decide) ?_
      exact J_37 σ 1 H locs h hP hD hS ls (lv_sub hl [] rfl)
def y_Wd_number : MethodName := ⟨"ClassWorks$World", "number", "(I)I"⟩
abbrev b_Wd_number : ByteArray := prog_11_method_9_code
theorem q384 : Cond.fieldLink "ClassWorks$World" 98 "ClassWorks$Ints" "row" "[I" ∈ lw_ok := lw_okmem (List.mem_of_getElem? (i := 384) (by decide +kernel)) rfl
theorem d_Wd_number_0 : decode b_Wd_number 0 = .ok (.iload_n 1, 1) := by decide +kernel
theorem d_Wd_number_1 : decode b_Wd_number 1 = .ok (.ifCond .lt 28, 3) := by decide +kernel
theorem d_Wd_number_4 : decode b_Wd_number 4 = .ok (.iload_n 1, 1) := by decide +kernel
theorem d_Wd_number_5 : decode b_Wd_number 5 = .ok (.aload_n 0, 1) := by decide +kernel
theorem d_Wd_number_6 : decode b_Wd_number 6 = .ok (.getfield 60, 3) := by decide +kernel
theorem d_Wd_number_9 : decode b_Wd_number 9 = .ok (.getfield 91, 3) := by decide +kernel
theorem d_Wd_number_12 : decode b_Wd_number 12 = .ok (.if_icmp .ge 17, 3) := by decide +kernel
theorem d_Wd_number_15 : decode b_Wd_number 15 = .ok (.aload_n 0, 1) := by decide +kernel
theorem d_Wd_number_16 : decode b_Wd_number 16 = .ok (.getfield 60, 3) := by decide +kernel
theorem d_Wd_number_19 : decode b_Wd_number 19 = .ok (.getfield 98, 3) := by decide +kernel
theorem d_Wd_number_22 : decode b_Wd_number 22 = .ok (.iload_n 1, 1) := by decide +kernel
theorem d_Wd_number_23 : decode b_Wd_number 23 = .ok (.iaload, 1) := by decide +kernel
theorem d_Wd_number_24 : decode b_Wd_number 24 = .ok (.iconst 1, 1) := by decide +kernel
theorem d_Wd_number_25 : decode b_Wd_number 25 = .ok (.isub, 1) := by decide +kernel
theorem d_Wd_number_26 : decode b_Wd_number 26 = .ok (.goto 4, 3) := by decide +kernel
theorem d_Wd_number_29 : decode b_Wd_number 29 = .ok (.iconst (-1), 1) := by decide +kernel
theorem d_Wd_number_30 : decode b_Wd_number 30 = .ok (.ireturn, 1) := by decide +kernel
abbrev ru_Wd_number : Room := { frames := 0, cells := 0, slots := 0, locals := 0 }
def wj_Wd_number_30 (y : Ly) (Post : St → Int32 → Prop) (a0 : Nat) (s_j30 : St) (z0j30 : Int32) : Prop := Post s_j30 z0j30
def wj_Wd_number_29 (y : Ly) (Post : St → Int32 → Prop) (a0 : Nat) (s_j29 : St) : Prop := wj_Wd_number_30 y Post a0 s_j29 (-1)
def wu_Wd_number (y : Ly) (Post : St → Int32 → Prop) (σ : St) (a0 : Nat) (v1 : Int32) : Prop := ((v1 < 0 → wj_Wd_number_29 y Post a0 σ) ∧ (¬ (v1 < 0) → (((sV σ (lk a0 14) 1) ≤ v1 → wj_Wd_number_29 y Post a0 σ) ∧ (¬ ((sV σ (lk a0 14) 1) ≤ v1) → xA y σ (lk a0 14) 0 v1 (fun x_1 : Int32 => wj_Wd_number_30 y Post a0 σ (x_1 - 1))))))
set_option maxHeartbeats 4000000 in
set_option maxRecDepth 100000 in
theorem cu_Wd_number (l : Launch) (D : va_G) (g : Nat → ClassId) (ad : Nat → Nat) (y : Ly) (Post : St → Int32 → Prop) (σ : St) (a0 : Nat) (v1 : Int32) (sz : Nat) (h_a0 : cl a0 = 9) (h : wu_Wd_number y Post σ a0 v1) : Met l y_Wd_number (mw y_Wd_number b_Wd_number 2 (some .int)) ru_Wd_number (PC g D [] [.ref (ad a0), .int v1] sz (ws g ad y σ)) (va_Qi (fun (r : Int32) (u : St) => Post u r) (QW D (va_A (ws g ad y σ) sz) (fun u => ws g ad y u)) (va_A (ws g ad y σ) sz)) 0 0 (va_A (ws g ad y σ) sz) := by
  refine ofI (by decide +kernel) (Nat.le_of_ble_eq_true rfl) ?_
  intro p e s m args below meth c A Q ls H locs G hsz hP hD hS hl hret
  subst hsz
  have hl : lv_has ls 2 [(0, .ref (ad a0)), (1, .int v1)] := hl
  unfold wu_Wd_number at h
  refine lv_iload_n G.1 G.2.1 d_Wd_number_0 rfl (lv_at hl 1 rfl) ?_
  have J_30 : ∀ (s_j30 : St) (z0j30 : Int32) (H : Heap) (locs : List Loc), wj_Wd_number_30 y Post a0 s_j30 z0j30 → va_P D CL (ws g ad y s_j30) H → va_D A (ws g ad y s_j30) → va_S A s.heap H locs → ∀ ls, lv_has ls 2 [] → W p l e ru_Wd_number s m args below meth c H locs 0 0 Q (F0 m 30 ls [.int z0j30]) := by
    intro s_j30 z0j30 H locs h hP hD hS ls hl
    unfold wj_Wd_number_30 at h
    exact hret _ _ _ _ _ _ _ ls h hP hD hS (Nat.le_refl _) (Nat.le_refl _) d_Wd_number_30
  have J_29 : ∀ (s_j29 : St) (H : Heap) (locs : List Loc), wj_Wd_number_29 y Post a0 s_j29 → va_P D CL (ws g ad y s_j29) H → va_D A (ws g ad y s_j29) → va_S A s.heap H locs → ∀ ls, lv_has ls 2 [] → W p l e ru_Wd_number s m args below meth c H locs 0 0 Q (F0 m 29 ls []) := by
    intro s_j29 H locs h hP hD hS ls hl
    unfold wj_Wd_number_29 at h
    refine lv_iconst (v := (-1)) G.1 G.2.1 d_Wd_number_29 (by decide) ?_
    exact J_30 s_j29 (-1) H locs h hP hD hS ls (lv_sub hl [] rfl)
  refine lv_if_lt (tgt := 29) G.1 G.2.1 d_Wd_number_1 (by decide) (fun c1 => ?_) (fun c1 => ?_)
  · skip
    have h := h.1 c1
    exact J_29 σ H locs h hP hD hS ls (lv_sub hl [] rfl)
  · skip
    have h := h.2 c1
    refine lv_iload_n G.1 G.2.1 d_Wd_number_4 rfl (lv_at hl 1 rfl) ?_
    refine lv_aload_n G.1 G.2.1 d_Wd_number_5 rfl (lv_at hl 0 rfl) ?_
    refine ugf (v := .ref (ad (lk a0 14))) G hP h_a0 iWd rfl 14 (by decide) rfl q860 rfl rfl d_Wd_number_6 ?_
    refine ugf (v := .int (sV σ (lk a0 14) 1)) G hP (lk_9_14 h_a0) iIn rfl 1 (by decide) rfl q391 rfl rfl d_Wd_number_9 ?_
    refine lv_icmp_ge (tgt := 29) G.1 G.2.1 d_Wd_number_12 (by decide) (fun c12 => ?_) (fun c12 => ?_)
    · skip
      have h := h.1 c12
      exact J_29 σ H locs h hP hD hS ls (lv_sub hl [] rfl)
    · skip
      have h := h.2 c12
      refine lv_aload_n G.1 G.2.1 d_Wd_number_15 rfl (lv_at hl 0 rfl) ?_
      refine ugf (v := .ref (ad (lk a0 14))) G hP h_a0 iWd rfl 14 (by decide) rfl q860 rfl rfl d_Wd_number_16 ?_
      refine ugf (v := .ref (yP y (lk a0 14) 0)) G hP (lk_9_14 h_a0) iIn rfl 0 (by decide) rfl q384 rfl rfl d_Wd_number_19 ?_
      refine lv_iload_n G.1 G.2.1 d_Wd_number_22 rfl (lv_at hl 1 rfl) ?_
      refine W.eq (g2 := F0 m 23 ls [.int v1, .ref (yP y (lk a0 14) 0)]) rfl ?_
      refine uiald G hP (kdp (lk_9_14 h_a0) rfl) (typ (lk_9_14 h_a0) rfl) h d_Wd_number_23 (fun x_1 h => ?_)
      refine lv_iconst (v := 1) G.1 G.2.1 d_Wd_number_24 (by decide) ?_
      refine lv_isub G.1 G.2.1 d_Wd_number_25 ?_
      refine lv_goto (tgt := 30) G.1 G.2.1 d_Wd_number_26 (by decide) ?_
      exact J_30 σ (x_1 - 1) H locs h hP hD hS ls (lv_sub hl [] rfl)
def y_Re_note : MethodName := ⟨"ClassWorks$Reader", "note", "(I)V"⟩
abbrev b_Re_note : ByteArray := prog_8_method_4_code
theorem q594 : Cond.fieldLink "ClassWorks$Reader" 24 "ClassWorks$Reader" "noted" "I" ∈ lw_ok := lw_okmem (List.mem_of_getElem? (i := 594) (by decide +kernel)) rfl
theorem q1341 : Cond.methodLink "ClassWorks$Reader" 103 Lib.Math.min.name ∈ lw_ok := lw_okmem (List.mem_of_getElem? (i := 1341) (by decide +kernel)) rfl
theorem d_Re_note_0 : decode b_Re_note 0 = .ok (.aload_n 0, 1) := by decide +kernel
theorem d_Re_note_1 : decode b_Re_note 1 = .ok (.aload_n 0, 1) := by decide +kernel
theorem d_Re_note_2 : decode b_Re_note 2 = .ok (.getfield 24, 3) := by decide +kernel
theorem d_Re_note_5 : decode b_Re_note 5 = .ok (.ifCond .ne 7, 3) := by decide +kernel
theorem d_Re_note_8 : decode b_Re_note 8 = .ok (.iload_n 1, 1) := by decide +kernel
theorem d_Re_note_9 : decode b_Re_note 9 = .ok (.goto 11, 3) := by decide +kernel
theorem d_Re_note_12 : decode b_Re_note 12 = .ok (.aload_n 0, 1) := by decide +kernel
theorem d_Re_note_13 : decode b_Re_note 13 = .ok (.getfield 24, 3) := by decide +kernel
theorem d_Re_note_16 : decode b_Re_note 16 = .ok (.iload_n 1, 1) := by decide +kernel
theorem d_Re_note_17 : decode b_Re_note 17 = .ok (.invokestatic 103, 3) := by decide +kernel
theorem d_Re_note_20 : decode b_Re_note 20 = .ok (.putfield 24, 3) := by decide +kernel
theorem d_Re_note_23 : decode b_Re_note 23 = .ok (.return_, 1) := by decide +kernel
abbrev ru_Re_note : Room := { frames := 1, cells := 0, slots := 0, locals := 30 }
def wj_Re_note_20 (y : Ly) (Post : St → Prop) (a0 : Nat) (s_j20 : St) (z1j20 : Int32) : Prop := xP (uV s_j20 a0 7 z1j20) (fun s_1 : St => Post s_1)
def wu_Re_note (y : Ly) (Post : St → Prop) (σ : St) (a0 : Nat) (v1 : Int32) : Prop := ((¬ (sV σ a0 7) = 0 → wj_Re_note_20 y Post a0 σ (if v1 < (sV σ a0 7) then v1 else (sV σ a0 7))) ∧ ((sV σ a0 7) = 0 → wj_Re_note_20 y Post a0 σ v1))
set_option maxHeartbeats 4000000 in
set_option maxRecDepth 100000 in
theorem cu_Re_note (l : Launch) (D : va_G) (g : Nat → ClassId) (ad : Nat → Nat) (y : Ly) (Post : St → Prop) (σ : St) (a0 : Nat) (v1 : Int32) (sz : Nat) (h_a0 : cl a0 = 6) (h : wu_Re_note y Post σ a0 v1) : Met l y_Re_note (mw y_Re_note b_Re_note 2 (none)) ru_Re_note (PC g D [] [.ref (ad a0), .int v1] sz (ws g ad y σ)) (va_Qv (fun u : St => Post u) (QW D (va_A (ws g ad y σ) sz) (fun u => ws g ad y u)) (va_A (ws g ad y σ) sz)) 0 0 (va_A (ws g ad y σ) sz) := by
  refine ofV (by decide +kernel) (Nat.le_of_ble_eq_true rfl) ?_
  intro p e s m args below meth c A Q ls H locs G hsz hP hD hS hl hret
  subst hsz
  have hl : lv_has ls 2 [(0, .ref (ad a0)), (1, .int v1)] := hl
  unfold wu_Re_note at h
  refine lv_aload_n G.1 G.2.1 d_Re_note_0 rfl (lv_at hl 0 rfl) ?_
  refine lv_aload_n G.1 G.2.1 d_Re_note_1 rfl (lv_at hl 0 rfl) ?_
  refine ugf (v := .int (sV σ a0 7)) G hP h_a0 iRe rfl 7 (by decide) rfl q594 rfl rfl d_Re_note_2 ?_
  have J_20 : ∀ (s_j20 : St) (z1j20 : Int32) (H : Heap) (locs : List Loc), wj_Re_note_20 y Post a0 s_j20 z1j20 → va_P D CL (ws g ad y s_j20) H → va_D A (ws g ad y s_j20) → va_S A s.heap H locs → ∀ ls, lv_has ls 2 [] → W p l e ru_Re_note s m args below meth c H locs 0 0 Q (F0 m 20 ls [.int z1j20, .ref (ad a0)]) := by
    intro s_j20 z1j20 H locs h hP hD hS ls hl
    unfold wj_Re_note_20 at h
    refine upf G hP hD hS h 7 putV h_a0 iRe tRe tRe_ok nRe rfl (by decide) rfl q594 rfl rfl fV rfl rfl d_Re_note_20 (fun s_1 H locs h hP hD hS => ?_)
    exact hret _ _ _ _ _ _ ls h hP hD hS (Nat.le_refl _) (Nat.le_refl _) d_Re_note_23
  refine lv_if_ne (tgt := 12) G.1 G.2.1 d_Re_note_5 (by decide) (fun c5 => ?_) (fun c5 => ?_)
  · skip
    have h := h.1 c5
    refine lv_aload_n G.1 G.2.1 d_Re_note_12 rfl (lv_at hl 0 rfl) ?_
    refine ugf (v := .int (sV σ a0 7)) G hP h_a0 iRe rfl 7 (by decide) rfl q594 rfl rfl d_Re_note_13 ?_
    refine lv_iload_n G.1 G.2.1 d_Re_note_16 rfl (lv_at hl 1 rfl) ?_
    refine va_mmin G.1 G.2.1 (G.2.2.1.trans hl.1.symm) G.2.2.2.2.2.2.1 (G.2.2.2.2.2.1 _ q1341) (G.2.2.2.2.2.1 _ q484) (G.2.2.2.2.2.1 _ q337) (G.2.2.2.2.2.1 _ q485) (Nat.le_of_ble_eq_true rfl) (Nat.le_of_ble_eq_true rfl) (Nat.zero_le _) (Nat.zero_le _) d_Re_note_17 ?_
    exact J_20 σ (if v1 < (sV σ a0 7) then v1 else (sV σ a0 7)) H locs h hP hD hS ls (lv_sub hl [] rfl)
  · skip
    have h := h.2 c5
    refine lv_iload_n G.1 G.2.1 d_Re_note_8 rfl (lv_at hl 1 rfl) ?_
    refine lv_goto (tgt := 20) G.1 G.2.1 d_Re_note_9 (by decide) ?_
    exact J_20 σ v1 H locs h hP hD hS ls (lv_sub hl [] rfl)
def y_Wd_asks : MethodName := ⟨"ClassWorks$World", "asks", "(I)Z"⟩
abbrev b_Wd_asks : ByteArray := prog_11_method_20_code
theorem d_Wd_asks_0 : decode b_Wd_asks 0 = .ok (.aload_n 0, 1) := by decide +kernel
theorem d_Wd_asks_1 : decode b_Wd_asks 1 = .ok (.getfield 63, 3) := by decide +kernel
theorem d_Wd_asks_4 : decode b_Wd_asks 4 = .ok (.iload_n 1, 1) := by decide +kernel
theorem d_Wd_asks_5 : decode b_Wd_asks 5 = .ok (.ishr, 1) := by decide +kernel
theorem d_Wd_asks_6 : decode b_Wd_asks 6 = .ok (.iconst 1, 1) := by decide +kernel
theorem d_Wd_asks_7 : decode b_Wd_asks 7 = .ok (.iand, 1) := by decide +kernel
theorem d_Wd_asks_8 : decode b_Wd_asks 8 = .ok (.ifCond .ne 7, 3) := by decide +kernel
theorem d_Wd_asks_11 : decode b_Wd_asks 11 = .ok (.iconst 1, 1) := by decide +kernel
theorem d_Wd_asks_12 : decode b_Wd_asks 12 = .ok (.goto 4, 3) := by decide +kernel
theorem d_Wd_asks_15 : decode b_Wd_asks 15 = .ok (.iconst 0, 1) := by decide +kernel
theorem d_Wd_asks_16 : decode b_Wd_asks 16 = .ok (.ireturn, 1) := by decide +kernel
abbrev ru_Wd_asks : Room := { frames := 0, cells := 0, slots := 0, locals := 0 }
def wj_Wd_asks_16 (y : Ly) (Post : St → Int32 → Prop) (a0 : Nat) (s_j16 : St) (z0j16 : Int32) : Prop := (nb z0j16 ∧ Post s_j16 z0j16)
def wu_Wd_asks (y : Ly) (Post : St → Int32 → Prop) (σ : St) (a0 : Nat) (v1 : Int32) : Prop := ((¬ (((sV σ a0 15) >>> (v1 &&& 31)) &&& 1) = 0 → wj_Wd_asks_16 y Post a0 σ 0) ∧ ((((sV σ a0 15) >>> (v1 &&& 31)) &&& 1) = 0 → wj_Wd_asks_16 y Post a0 σ 1))
set_option maxHeartbeats 4000000 in
set_option maxRecDepth 100000 in
theorem cu_Wd_asks (l : Launch) (D : va_G) (g : Nat → ClassId) (ad : Nat → Nat) (y : Ly) (Post : St → Int32 → Prop) (σ : St) (a0 : Nat) (v1 : Int32) (sz : Nat) (h_a0 : cl a0 = 9) (h : wu_Wd_asks y Post σ a0 v1) : Met l y_Wd_asks (mw y_Wd_asks b_Wd_asks 2 (some (.boolean))) ru_Wd_asks (PC g D [] [.ref (ad a0), .int v1] sz (ws g ad y σ)) (va_Qi (fun (r : Int32) (u : St) => Post u r) (QW D (va_A (ws g ad y σ) sz) (fun u => ws g ad y u)) (va_A (ws g ad y σ) sz)) 0 0 (va_A (ws g ad y σ) sz) := by
  refine ofZ (by decide +kernel) (Nat.le_of_ble_eq_true rfl) ?_
  intro p e s m args below meth c A Q ls H locs G hsz hP hD hS hl hret
  subst hsz
  have hl : lv_has ls 2 [(0, .ref (ad a0)), (1, .int v1)] := hl
  unfold wu_Wd_asks at h
  refine lv_aload_n G.1 G.2.1 d_Wd_asks_0 rfl (lv_at hl 0 rfl) ?_
  refine ugf (v := .int (sV σ a0 15)) G hP h_a0 iWd rfl 15 (by decide) rfl q862 rfl rfl d_Wd_asks_1 ?_
  refine lv_iload_n G.1 G.2.1 d_Wd_asks_4 rfl (lv_at hl 1 rfl) ?_
  refine lv_ishr G.1 G.2.1 d_Wd_asks_5 ?_
  refine lv_iconst (v := 1) G.1 G.2.1 d_Wd_asks_6 (by decide) ?_
  refine lv_iand G.1 G.2.1 d_Wd_asks_7 ?_
  have J_16 : ∀ (s_j16 : St) (z0j16 : Int32) (H : Heap) (locs : List Loc), wj_Wd_asks_16 y Post a0 s_j16 z0j16 → va_P D CL (ws g ad y s_j16) H → va_D A (ws g ad y s_j16) → va_S A s.heap H locs → ∀ ls, lv_has ls 2 [] → W p l e ru_Wd_asks s m args below meth c H locs 0 0 Q (F0 m 16 ls [.int z0j16]) := by
    intro s_j16 z0j16 H locs h hP hD hS ls hl
    unfold wj_Wd_asks_16 at h
    exact hret _ _ _ _ _ _ _ ls (nb_n h.1) h.2 hP hD hS (Nat.le_refl _) (Nat.le_refl _) d_Wd_asks_16
  refine lv_if_ne (tgt := 15) G.1 G.2.1 d_Wd_asks_8 (by decide) (fun c8 => ?_) (fun c8 => ?_)
  · skip
    have h := h.1 c8
    refine lv_iconst (v := 0) G.1 G.2.1 d_Wd_asks_15 (by decide) ?_
    exact J_16 σ 0 H locs h hP hD hS ls (lv_sub hl [] rfl)
  · skip
    have h := h.2 c8
    refine lv_iconst (v := 1) G.1 G.2.1 d_Wd_asks_11 (by decide) ?_
    refine lv_goto (tgt := 16) G.1 G.2.1 d_Wd_asks_12 (by decide) ?_
    exact J_16 σ 1 H locs h hP hD hS ls (lv_sub hl [] rfl)
theorem q591 : Cond.fieldLink "ClassWorks$Reader" 72 "ClassWorks$Reader" "world" "LClassWorks$World;" ∈ lw_ok := lw_okmem (List.mem_of_getElem? (i := 591) (by decide +kernel)) rfl
theorem q1333 : Cond.methodLink "ClassWorks$Reader" 166 y_Wd_number ∈ lw_ok := lw_okmem (List.mem_of_getElem? (i := 1333) (by decide +kernel)) rfl
theorem q1336 : Cond.code y_Wd_number b_Wd_number 2 (some .int) ∈ lw_ok := lw_okmem (List.mem_of_getElem? (i := 1336) (by decide +kernel)) rfl
theorem q1334 : Cond.instanceMethod y_Wd_number ∈ lw_ok := lw_okmem (List.mem_of_getElem? (i := 1334) (by decide +kernel)) rfl
theorem q1335 : Cond.selects y_Wd_number.cls y_Wd_number y_Wd_number ∈ lw_ok := lw_okmem (List.mem_of_getElem? (i := 1335) (by decide +kernel)) rfl
theorem w9_Wd_number : CWv y_Wd_number b_Wd_number 2 (some .int) 1 ∧ Cond.instanceMethod y_Wd_number ∈ lw_ok ∧ Cond.selects y_Wd_number.cls y_Wd_number y_Wd_number ∈ lw_ok := ⟨⟨q1336, q345, by decide +kernel, by decide +kernel, by decide +kernel⟩, q1334, q1335⟩
theorem q1337 : Cond.methodLink "ClassWorks$Reader" 170 y_Re_note ∈ lw_ok := lw_okmem (List.mem_of_getElem? (i := 1337) (by decide +kernel)) rfl
theorem q1340 : Cond.code y_Re_note b_Re_note 2 (none) ∈ lw_ok := lw_okmem (List.mem_of_getElem? (i := 1340) (by decide +kernel)) rfl
theorem q1339 : Cond.instanceMethod y_Re_note ∈ lw_ok := lw_okmem (List.mem_of_getElem? (i := 1339) (by decide +kernel)) rfl
theorem q22 : Cond.selects y_Re_note.cls y_Re_note y_Re_note ∈ lw_ok := lw_okmem (List.mem_of_getElem? (i := 22) (by decide +kernel)) rfl
theorem w9_Re_note : CWv y_Re_note b_Re_note 2 (none) 1 ∧ Cond.instanceMethod y_Re_note ∈ lw_ok ∧ Cond.selects y_Re_note.cls y_Re_note y_Re_note ∈ lw_ok := ⟨⟨q1340, q340, by decide +kernel, by decide +kernel, by decide +kernel⟩, q1339, q22⟩
theorem q818 : Cond.fieldLink "ClassWorks$Reader" 81 "ClassWorks$World" "count" "I" ∈ lw_ok := lw_okmem (List.mem_of_getElem? (i := 818) (by decide +kernel)) rfl
theorem q1342 : Cond.methodLink "ClassWorks$Reader" 173 y_Wd_asks ∈ lw_ok := lw_okmem (List.mem_of_getElem? (i := 1342) (by decide +kernel)) rfl
theorem q1345 : Cond.code y_Wd_asks b_Wd_asks 2 (some (.boolean)) ∈ lw_ok := lw_okmem (List.mem_of_getElem? (i := 1345) (by decide +kernel)) rfl
theorem q1343 : Cond.instanceMethod y_Wd_asks ∈ lw_ok := lw_okmem (List.mem_of_getElem? (i := 1343) (by decide +kernel)) rfl
theorem q1344 : Cond.selects y_Wd_asks.cls y_Wd_asks y_Wd_asks ∈ lw_ok := lw_okmem (List.mem_of_getElem? (i := 1344) (by decide +kernel)) rfl
theorem w9_Wd_asks : CWv y_Wd_asks b_Wd_asks 2 (some (.boolean)) 1 ∧ Cond.instanceMethod y_Wd_asks ∈ lw_ok ∧ Cond.selects y_Wd_asks.cls y_Wd_asks y_Wd_asks ∈ lw_ok := ⟨⟨q1345, q345, by decide +kernel, by decide +kernel, by decide +kernel⟩, q1343, q1344⟩
def y_Re_noteClass : MethodName := ⟨"ClassWorks$Reader", "noteClass", "(IIII)V"⟩
abbrev b_Re_noteClass : ByteArray := prog_8_method_14_code
theorem d_Re_noteClass_0 : decode b_Re_noteClass 0 = .ok (.aload_n 0, 1) := by decide +kernel
theorem d_Re_noteClass_1 : decode b_Re_noteClass 1 = .ok (.getfield 72, 3) := by decide +kernel
theorem d_Re_noteClass_4 : decode b_Re_noteClass 4 = .ok (.iload_n 2, 1) := by decide +kernel
theorem d_Re_noteClass_5 : decode b_Re_noteClass 5 = .ok (.invokevirtual 166, 3) := by decide +kernel
theorem d_Re_noteClass_8 : decode b_Re_noteClass 8 = .ok (.ifCond .lt 8, 3) := by decide +kernel
theorem d_Re_noteClass_11 : decode b_Re_noteClass 11 = .ok (.aload_n 0, 1) := by decide +kernel
theorem d_Re_noteClass_12 : decode b_Re_noteClass 12 = .ok (.iconst 2, 1) := by decide +kernel
theorem d_Re_noteClass_13 : decode b_Re_noteClass 13 = .ok (.invokevirtual 170, 3) := by decide +kernel
theorem d_Re_noteClass_16 : decode b_Re_noteClass 16 = .ok (.iload_n 1, 1) := by decide +kernel
theorem d_Re_noteClass_17 : decode b_Re_noteClass 17 = .ok (.iconst 4, 1) := by decide +kernel
theorem d_Re_noteClass_18 : decode b_Re_noteClass 18 = .ok (.iand, 1) := by decide +kernel
theorem d_Re_noteClass_19 : decode b_Re_noteClass 19 = .ok (.ifCond .eq 7, 3) := by decide +kernel
theorem d_Re_noteClass_22 : decode b_Re_noteClass 22 = .ok (.iconst 1, 1) := by decide +kernel
theorem d_Re_noteClass_23 : decode b_Re_noteClass 23 = .ok (.goto 4, 3) := by decide +kernel
theorem d_Re_noteClass_26 : decode b_Re_noteClass 26 = .ok (.iconst 0, 1) := by decide +kernel
theorem d_Re_noteClass_27 : decode b_Re_noteClass 27 = .ok (.istore 5, 2) := by decide +kernel
theorem d_Re_noteClass_29 : decode b_Re_noteClass 29 = .ok (.iload_n 1, 1) := by decide +kernel
theorem d_Re_noteClass_30 : decode b_Re_noteClass 30 = .ok (.ifCond .eq 18, 3) := by decide +kernel
theorem d_Re_noteClass_33 : decode b_Re_noteClass 33 = .ok (.iload_n 1, 1) := by decide +kernel
theorem d_Re_noteClass_34 : decode b_Re_noteClass 34 = .ok (.iconst 1, 1) := by decide +kernel
theorem d_Re_noteClass_35 : decode b_Re_noteClass 35 = .ok (.if_icmp .eq 13, 3) := by decide +kernel
theorem d_Re_noteClass_38 : decode b_Re_noteClass 38 = .ok (.iload_n 1, 1) := by decide +kernel
theorem d_Re_noteClass_39 : decode b_Re_noteClass 39 = .ok (.iconst 2, 1) := by decide +kernel
theorem d_Re_noteClass_40 : decode b_Re_noteClass 40 = .ok (.if_icmp .eq 8, 3) := by decide +kernel
theorem d_Re_noteClass_43 : decode b_Re_noteClass 43 = .ok (.iload_n 1, 1) := by decide +kernel
theorem d_Re_noteClass_44 : decode b_Re_noteClass 44 = .ok (.iconst 4, 1) := by decide +kernel
theorem d_Re_noteClass_45 : decode b_Re_noteClass 45 = .ok (.if_icmp .ne 7, 3) := by decide +kernel
theorem d_Re_noteClass_48 : decode b_Re_noteClass 48 = .ok (.iconst 1, 1) := by decide +kernel
theorem d_Re_noteClass_49 : decode b_Re_noteClass 49 = .ok (.goto 4, 3) := by decide +kernel
theorem d_Re_noteClass_52 : decode b_Re_noteClass 52 = .ok (.iconst 0, 1) := by decide +kernel
theorem d_Re_noteClass_53 : decode b_Re_noteClass 53 = .ok (.istore 6, 2) := by decide +kernel
theorem d_Re_noteClass_55 : decode b_Re_noteClass 55 = .ok (.iload 6, 2) := by decide +kernel
theorem d_Re_noteClass_57 : decode b_Re_noteClass 57 = .ok (.ifCond .eq 22, 3) := by decide +kernel
theorem d_Re_noteClass_60 : decode b_Re_noteClass 60 = .ok (.iload 5, 2) := by decide +kernel
theorem d_Re_noteClass_62 : decode b_Re_noteClass 62 = .ok (.ifCond .eq 33, 3) := by decide +kernel
theorem d_Re_noteClass_65 : decode b_Re_noteClass 65 = .ok (.aload_n 0, 1) := by decide +kernel
theorem d_Re_noteClass_66 : decode b_Re_noteClass 66 = .ok (.getfield 68, 3) := by decide +kernel
theorem d_Re_noteClass_69 : decode b_Re_noteClass 69 = .ok (.getfield 137, 3) := by decide +kernel
theorem d_Re_noteClass_72 : decode b_Re_noteClass 72 = .ok (.iload_n 3, 1) := by decide +kernel
theorem d_Re_noteClass_73 : decode b_Re_noteClass 73 = .ok (.iaload, 1) := by decide +kernel
theorem d_Re_noteClass_74 : decode b_Re_noteClass 74 = .ok (.bipush 9, 2) := by decide +kernel
theorem d_Re_noteClass_76 : decode b_Re_noteClass 76 = .ok (.if_icmp .eq 19, 3) := by decide +kernel
theorem d_Re_noteClass_79 : decode b_Re_noteClass 79 = .ok (.aload_n 0, 1) := by decide +kernel
theorem d_Re_noteClass_80 : decode b_Re_noteClass 80 = .ok (.getfield 72, 3) := by decide +kernel
theorem d_Re_noteClass_83 : decode b_Re_noteClass 83 = .ok (.iconst 0, 1) := by decide +kernel
theorem d_Re_noteClass_84 : decode b_Re_noteClass 84 = .ok (.invokevirtual 173, 3) := by decide +kernel
theorem d_Re_noteClass_87 : decode b_Re_noteClass 87 = .ok (.ifCond .eq 8, 3) := by decide +kernel
theorem d_Re_noteClass_90 : decode b_Re_noteClass 90 = .ok (.aload_n 0, 1) := by decide +kernel
theorem d_Re_noteClass_91 : decode b_Re_noteClass 91 = .ok (.iconst 4, 1) := by decide +kernel
theorem d_Re_noteClass_92 : decode b_Re_noteClass 92 = .ok (.invokevirtual 170, 3) := by decide +kernel
theorem d_Re_noteClass_95 : decode b_Re_noteClass 95 = .ok (.iconst 0, 1) := by decide +kernel
theorem d_Re_noteClass_96 : decode b_Re_noteClass 96 = .ok (.istore 7, 2) := by decide +kernel
theorem d_Re_noteClass_98 : decode b_Re_noteClass 98 = .ok (.iload 7, 2) := by decide +kernel
theorem d_Re_noteClass_100 : decode b_Re_noteClass 100 = .ok (.iload 4, 2) := by decide +kernel
theorem d_Re_noteClass_102 : decode b_Re_noteClass 102 = .ok (.if_icmp .gt 96, 3) := by decide +kernel
theorem d_Re_noteClass_105 : decode b_Re_noteClass 105 = .ok (.aload_n 0, 1) := by decide +kernel
theorem d_Re_noteClass_106 : decode b_Re_noteClass 106 = .ok (.getfield 68, 3) := by decide +kernel
theorem d_Re_noteClass_109 : decode b_Re_noteClass 109 = .ok (.getfield 137, 3) := by decide +kernel
theorem d_Re_noteClass_112 : decode b_Re_noteClass 112 = .ok (.iload_n 3, 1) := by decide +kernel
theorem d_Re_noteClass_113 : decode b_Re_noteClass 113 = .ok (.iconst 2, 1) := by decide +kernel
theorem d_Re_noteClass_114 : decode b_Re_noteClass 114 = .ok (.iload 7, 2) := by decide +kernel
theorem d_Re_noteClass_116 : decode b_Re_noteClass 116 = .ok (.imul, 1) := by decide +kernel
theorem d_Re_noteClass_117 : decode b_Re_noteClass 117 = .ok (.iadd, 1) := by decide +kernel
theorem d_Re_noteClass_118 : decode b_Re_noteClass 118 = .ok (.iaload, 1) := by decide +kernel
theorem d_Re_noteClass_119 : decode b_Re_noteClass 119 = .ok (.istore 8, 2) := by decide +kernel
theorem d_Re_noteClass_121 : decode b_Re_noteClass 121 = .ok (.iload 8, 2) := by decide +kernel
theorem d_Re_noteClass_123 : decode b_Re_noteClass 123 = .ok (.iload_n 2, 1) := by decide +kernel
theorem d_Re_noteClass_124 : decode b_Re_noteClass 124 = .ok (.if_icmp .ne 7, 3) := by decide +kernel
theorem d_Re_noteClass_127 : decode b_Re_noteClass 127 = .ok (.iconst 1, 1) := by decide +kernel
theorem d_Re_noteClass_128 : decode b_Re_noteClass 128 = .ok (.goto 4, 3) := by decide +kernel
theorem d_Re_noteClass_131 : decode b_Re_noteClass 131 = .ok (.iconst 0, 1) := by decide +kernel
theorem d_Re_noteClass_132 : decode b_Re_noteClass 132 = .ok (.istore 9, 2) := by decide +kernel
theorem d_Re_noteClass_134 : decode b_Re_noteClass 134 = .ok (.iconst 0, 1) := by decide +kernel
theorem d_Re_noteClass_135 : decode b_Re_noteClass 135 = .ok (.istore 10, 2) := by decide +kernel
theorem d_Re_noteClass_137 : decode b_Re_noteClass 137 = .ok (.iload 10, 2) := by decide +kernel
theorem d_Re_noteClass_139 : decode b_Re_noteClass 139 = .ok (.iload 7, 2) := by decide +kernel
theorem d_Re_noteClass_141 : decode b_Re_noteClass 141 = .ok (.if_icmp .ge 40, 3) := by decide +kernel
theorem d_Re_noteClass_144 : decode b_Re_noteClass 144 = .ok (.iload 9, 2) := by decide +kernel
theorem d_Re_noteClass_146 : decode b_Re_noteClass 146 = .ok (.ifCond .ne 22, 3) := by decide +kernel
theorem d_Re_noteClass_149 : decode b_Re_noteClass 149 = .ok (.aload_n 0, 1) := by decide +kernel
theorem d_Re_noteClass_150 : decode b_Re_noteClass 150 = .ok (.getfield 68, 3) := by decide +kernel
theorem d_Re_noteClass_153 : decode b_Re_noteClass 153 = .ok (.getfield 137, 3) := by decide +kernel
theorem d_Re_noteClass_156 : decode b_Re_noteClass 156 = .ok (.iload_n 3, 1) := by decide +kernel
theorem d_Re_noteClass_157 : decode b_Re_noteClass 157 = .ok (.iconst 2, 1) := by decide +kernel
theorem d_Re_noteClass_158 : decode b_Re_noteClass 158 = .ok (.iload 10, 2) := by decide +kernel
theorem d_Re_noteClass_160 : decode b_Re_noteClass 160 = .ok (.imul, 1) := by decide +kernel
theorem d_Re_noteClass_161 : decode b_Re_noteClass 161 = .ok (.iadd, 1) := by decide +kernel
theorem d_Re_noteClass_162 : decode b_Re_noteClass 162 = .ok (.iaload, 1) := by decide +kernel
theorem d_Re_noteClass_163 : decode b_Re_noteClass 163 = .ok (.iload 8, 2) := by decide +kernel
theorem d_Re_noteClass_165 : decode b_Re_noteClass 165 = .ok (.if_icmp .ne 7, 3) := by decide +kernel
theorem d_Re_noteClass_168 : decode b_Re_noteClass 168 = .ok (.iconst 1, 1) := by decide +kernel
theorem d_Re_noteClass_169 : decode b_Re_noteClass 169 = .ok (.goto 4, 3) := by decide +kernel
theorem d_Re_noteClass_172 : decode b_Re_noteClass 172 = .ok (.iconst 0, 1) := by decide +kernel
theorem d_Re_noteClass_173 : decode b_Re_noteClass 173 = .ok (.istore 9, 2) := by decide +kernel
theorem d_Re_noteClass_175 : decode b_Re_noteClass 175 = .ok (.iinc 10 1, 3) := by decide +kernel
theorem d_Re_noteClass_178 : decode b_Re_noteClass 178 = .ok (.goto (-41), 3) := by decide +kernel
theorem d_Re_noteClass_181 : decode b_Re_noteClass 181 = .ok (.iload 9, 2) := by decide +kernel
theorem d_Re_noteClass_183 : decode b_Re_noteClass 183 = .ok (.ifCond .eq 9, 3) := by decide +kernel
theorem d_Re_noteClass_186 : decode b_Re_noteClass 186 = .ok (.aload_n 0, 1) := by decide +kernel
theorem d_Re_noteClass_187 : decode b_Re_noteClass 187 = .ok (.bipush 11, 2) := by decide +kernel
theorem d_Re_noteClass_189 : decode b_Re_noteClass 189 = .ok (.invokevirtual 170, 3) := by decide +kernel
theorem d_Re_noteClass_192 : decode b_Re_noteClass 192 = .ok (.iinc 7 1, 3) := by decide +kernel
theorem d_Re_noteClass_195 : decode b_Re_noteClass 195 = .ok (.goto (-97), 3) := by decide +kernel
theorem d_Re_noteClass_198 : decode b_Re_noteClass 198 = .ok (.iload 4, 2) := by decide +kernel
theorem d_Re_noteClass_200 : decode b_Re_noteClass 200 = .ok (.iconst 4, 1) := by decide +kernel
theorem d_Re_noteClass_201 : decode b_Re_noteClass 201 = .ok (.if_icmp .gt 15, 3) := by decide +kernel
theorem d_Re_noteClass_204 : decode b_Re_noteClass 204 = .ok (.aload_n 0, 1) := by decide +kernel
theorem d_Re_noteClass_205 : decode b_Re_noteClass 205 = .ok (.getfield 72, 3) := by decide +kernel
theorem d_Re_noteClass_208 : decode b_Re_noteClass 208 = .ok (.getfield 81, 3) := by decide +kernel
theorem d_Re_noteClass_211 : decode b_Re_noteClass 211 = .ok (.bipush 51, 2) := by decide +kernel
theorem d_Re_noteClass_213 : decode b_Re_noteClass 213 = .ok (.if_icmp .lt 9, 3) := by decide +kernel
theorem d_Re_noteClass_216 : decode b_Re_noteClass 216 = .ok (.aload_n 0, 1) := by decide +kernel
theorem d_Re_noteClass_217 : decode b_Re_noteClass 217 = .ok (.bipush 12, 2) := by decide +kernel
theorem d_Re_noteClass_219 : decode b_Re_noteClass 219 = .ok (.invokevirtual 170, 3) := by decide +kernel
theorem d_Re_noteClass_222 : decode b_Re_noteClass 222 = .ok (.return_, 1) := by decide +kernel
abbrev ru_Re_noteClass : Room := { frames := 2, cells := 0, slots := 0, locals := 51 }
def wj_Re_noteClass_222 (y : Ly) (Post : St → Prop) (a0 : Nat) (s_j222 : St) : Prop := Post s_j222
def wj_Re_noteClass_216 (y : Ly) (Post : St → Prop) (a0 : Nat) (s_j216 : St) : Prop := wu_Re_note y (fun (s_7 : St) => wj_Re_noteClass_222 y Post a0 s_7) s_j216 a0 12
def wj_Re_noteClass_192 (y : Ly) (Post : St → Prop) (K_98 : St → Int32 → Int32 → Int32 → Int32 → Prop) (a0 : Nat) (s_j192 : St) (x2j192 : Int32) (x3j192 : Int32) (x4j192 : Int32) (x7j192 : Int32) : Prop := K_98 s_j192 x2j192 x3j192 x4j192 (x7j192 + 1)
def wj_Re_noteClass_173 (y : Ly) (Post : St → Prop) (K_98 : St → Int32 → Int32 → Int32 → Int32 → Prop) (K_137 : St → Int32 → Int32 → Int32 → Int32 → Int32 → Int32 → Int32 → Prop) (a0 : Nat) (s_j173 : St) (x2j173 : Int32) (x3j173 : Int32) (x4j173 : Int32) (x7j173 : Int32) (x8j173 : Int32) (x10j173 : Int32) (z0j173 : Int32) : Prop := K_137 s_j173 x2j173 x3j173 x4j173 x7j173 x8j173 z0j173 (x10j173 + 1)
def wj_Re_noteClass_168 (y : Ly) (Post : St → Prop) (K_98 : St → Int32 → Int32 → Int32 → Int32 → Prop) (K_137 : St → Int32 → Int32 → Int32 → Int32 → Int32 → Int32 → Int32 → Prop) (a0 : Nat) (s_j168 : St) (x2j168 : Int32) (x3j168 : Int32) (x4j168 : Int32) (x7j168 : Int32) (x8j168 : Int32) (x10j168 : Int32) : Prop := wj_Re_noteClass_173 y Post K_98 K_137 a0 s_j168 x2j168 x3j168 x4j168 x7j168 x8j168 x10j168 1
def wb_Re_noteClass_137 (y : Ly) (Post : St → Prop) (K_98 : St → Int32 → Int32 → Int32 → Int32 → Prop) (K_137 : St → Int32 → Int32 → Int32 → Int32 → Int32 → Int32 → Int32 → Prop) (a0 : Nat) (s_h137 : St) (x2h137 : Int32) (x3h137 : Int32) (x4h137 : Int32) (x7h137 : Int32) (x8h137 : Int32) (x9h137 : Int32) (x10h137 : Int32) : Prop := ((x7h137 ≤ x10h137 → ((x9h137 = 0 → wj_Re_noteClass_192 y Post K_98 a0 s_h137 x2h137 x3h137 x4h137 x7h137) ∧ (¬ (x9h137 = 0) → wu_Re_note y (fun (s_13 : St) => wj_Re_noteClass_192 y Post K_98 a0 s_13 x2h137 x3h137 x4h137 x7h137) s_h137 a0 11))) ∧ (¬ (x7h137 ≤ x10h137) → ((¬ x9h137 = 0 → wj_Re_noteClass_168 y Post K_98 K_137 a0 s_h137 x2h137 x3h137 x4h137 x7h137 x8h137 x10h137) ∧ (x9h137 = 0 → xA y s_h137 (lk a0 3) 1 (x3h137 + (2 * x10h137)) (fun x_14 : Int32 => ((¬ x_14 = x8h137 → wj_Re_noteClass_173 y Post K_98 K_137 a0 s_h137 x2h137 x3h137 x4h137 x7h137 x8h137 x10h137 0) ∧ (x_14 = x8h137 → wj_Re_noteClass_168 y Post K_98 K_137 a0 s_h137 x2h137 x3h137 x4h137 x7h137 x8h137 x10h137)))))))
def wl_Re_noteClass_137 (y : Ly) (Post : St → Prop) (K_98 : St → Int32 → Int32 → Int32 → Int32 → Prop) (a0 : Nat) (s_h137 : St) (x2h137 : Int32) (x3h137 : Int32) (x4h137 : Int32) (x7h137 : Int32) (x8h137 : Int32) (x9h137 : Int32) (x10h137 : Int32) : Prop := ∃ (I : St → Int32 → Int32 → Int32 → Int32 → Int32 → Int32 → Int32 → Prop) (μ : St → Int32 → Int32 → Int32 → Int32 → Int32 → Int32 → Int32 → Nat), I s_h137 x2h137 x3h137 x4h137 x7h137 x8h137 x9h137 x10h137 ∧ ∀ (u : St) (t0 : Int32) (t1 : Int32) (t2 : Int32) (t3 : Int32) (t4 : Int32) (t5 : Int32) (t6 : Int32), I u t0 t1 t2 t3 t4 t5 t6 → wb_Re_noteClass_137 y Post K_98 (fun z t0q t1q t2q t3q t4q t5q t6q => I z t0q t1q t2q t3q t4q t5q t6q ∧ μ z t0q t1q t2q t3q t4q t5q t6q < μ u t0 t1 t2 t3 t4 t5 t6) a0 u t0 t1 t2 t3 t4 t5 t6
def wj_Re_noteClass_132 (y : Ly) (Post : St → Prop) (K_98 : St → Int32 → Int32 → Int32 → Int32 → Prop) (a0 : Nat) (s_j132 : St) (x2j132 : Int32) (x3j132 : Int32) (x4j132 : Int32) (x7j132 : Int32) (x8j132 : Int32) (z0j132 : Int32) : Prop := wl_Re_noteClass_137 y Post K_98 a0 s_j132 x2j132 x3j132 x4j132 x7j132 x8j132 z0j132 0
def wb_Re_noteClass_98 (y : Ly) (Post : St → Prop) (K_98 : St → Int32 → Int32 → Int32 → Int32 → Prop) (a0 : Nat) (s_h98 : St) (x2h98 : Int32) (x3h98 : Int32) (x4h98 : Int32) (x7h98 : Int32) : Prop := ((x4h98 < x7h98 → ((4 < x4h98 → wj_Re_noteClass_216 y Post a0 s_h98) ∧ (¬ (4 < x4h98) → ∃ b_8 : Nat, sO s_h98 a0 4 = some b_8 ∧ cl b_8 = 9 ∧ (((sV s_h98 b_8 2) < 51 → wj_Re_noteClass_222 y Post a0 s_h98) ∧ (¬ ((sV s_h98 b_8 2) < 51) → wj_Re_noteClass_216 y Post a0 s_h98))))) ∧ (¬ (x4h98 < x7h98) → xA y s_h98 (lk a0 3) 1 (x3h98 + (2 * x7h98)) (fun x_11 : Int32 => ((¬ x_11 = x2h98 → wj_Re_noteClass_132 y Post K_98 a0 s_h98 x2h98 x3h98 x4h98 x7h98 x_11 0) ∧ (x_11 = x2h98 → wj_Re_noteClass_132 y Post K_98 a0 s_h98 x2h98 x3h98 x4h98 x7h98 x_11 1)))))
def wl_Re_noteClass_98 (y : Ly) (Post : St → Prop) (a0 : Nat) (s_h98 : St) (x2h98 : Int32) (x3h98 : Int32) (x4h98 : Int32) (x7h98 : Int32) : Prop := ∃ (I : St → Int32 → Int32 → Int32 → Int32 → Prop) (μ : St → Int32 → Int32 → Int32 → Int32 → Nat), I s_h98 x2h98 x3h98 x4h98 x7h98 ∧ ∀ (u : St) (t0 : Int32) (t1 : Int32) (t2 : Int32) (t3 : Int32), I u t0 t1 t2 t3 → wb_Re_noteClass_98 y Post (fun z t0q t1q t2q t3q => I z t0q t1q t2q t3q ∧ μ z t0q t1q t2q t3q < μ u t0 t1 t2 t3) a0 u t0 t1 t2 t3
def wj_Re_noteClass_95 (y : Ly) (Post : St → Prop) (a0 : Nat) (s_j95 : St) (x2j95 : Int32) (x3j95 : Int32) (x4j95 : Int32) : Prop := wl_Re_noteClass_98 y Post a0 s_j95 x2j95 x3j95 x4j95 0
def wj_Re_noteClass_79 (y : Ly) (Post : St → Prop) (a0 : Nat) (s_j79 : St) (x2j79 : Int32) (x3j79 : Int32) (x4j79 : Int32) : Prop := ∃ b_15 : Nat, sO s_j79 a0 4 = some b_15 ∧ cl b_15 = 9 ∧ wu_Wd_asks y (fun (s_19 : St) (r_18 : Int32) => ((r_18 = 0 → wj_Re_noteClass_95 y Post a0 s_19 x2j79 x3j79 x4j79) ∧ (¬ (r_18 = 0) → wu_Re_note y (fun (s_21 : St) => wj_Re_noteClass_95 y Post a0 s_21 x2j79 x3j79 x4j79) s_19 a0 4))) s_j79 b_15 0
def wj_Re_noteClass_53 (y : Ly) (Post : St → Prop) (a0 : Nat) (s_j53 : St) (x2j53 : Int32) (x3j53 : Int32) (x4j53 : Int32) (x5j53 : Int32) (z0j53 : Int32) : Prop := ((z0j53 = 0 → wj_Re_noteClass_79 y Post a0 s_j53 x2j53 x3j53 x4j53) ∧ (¬ (z0j53 = 0) → ((x5j53 = 0 → wj_Re_noteClass_95 y Post a0 s_j53 x2j53 x3j53 x4j53) ∧ (¬ (x5j53 = 0) → xA y s_j53 (lk a0 3) 1 x3j53 (fun x_22 : Int32 => ((x_22 = 9 → wj_Re_noteClass_95 y Post a0 s_j53 x2j53 x3j53 x4j53) ∧ (¬ (x_22 = 9) → wj_Re_noteClass_79 y Post a0 s_j53 x2j53 x3j53 x4j53)))))))
def wj_Re_noteClass_48 (y : Ly) (Post : St → Prop) (a0 : Nat) (s_j48 : St) (x2j48 : Int32) (x3j48 : Int32) (x4j48 : Int32) (x5j48 : Int32) : Prop := wj_Re_noteClass_53 y Post a0 s_j48 x2j48 x3j48 x4j48 x5j48 1
def wj_Re_noteClass_27 (y : Ly) (Post : St → Prop) (a0 : Nat) (s_j27 : St) (x1j27 : Int32) (x2j27 : Int32) (x3j27 : Int32) (x4j27 : Int32) (z0j27 : Int32) : Prop := ((x1j27 = 0 → wj_Re_noteClass_48 y Post a0 s_j27 x2j27 x3j27 x4j27 z0j27) ∧ (¬ (x1j27 = 0) → ((x1j27 = 1 → wj_Re_noteClass_48 y Post a0 s_j27 x2j27 x3j27 x4j27 z0j27) ∧ (¬ (x1j27 = 1) → ((x1j27 = 2 → wj_Re_noteClass_48 y Post a0 s_j27 x2j27 x3j27 x4j27 z0j27) ∧ (¬ (x1j27 = 2) → ((¬ x1j27 = 4 → wj_Re_noteClass_53 y Post a0 s_j27 x2j27 x3j27 x4j27 z0j27 0) ∧ (x1j27 = 4 → wj_Re_noteClass_48 y Post a0 s_j27 x2j27 x3j27 x4j27 z0j27))))))))
def wj_Re_noteClass_16 (y : Ly) (Post : St → Prop) (a0 : Nat) (s_j16 : St) (x1j16 : Int32) (x2j16 : Int32) (x3j16 : Int32) (x4j16 : Int32) : Prop := (((x1j16 &&& 4) = 0 → wj_Re_noteClass_27 y Post a0 s_j16 x1j16 x2j16 x3j16 x4j16 0) ∧ (¬ ((x1j16 &&& 4) = 0) → wj_Re_noteClass_27 y Post a0 s_j16 x1j16 x2j16 x3j16 x4j16 1))
def wu_Re_noteClass (y : Ly) (Post : St → Prop) (σ : St) (a0 : Nat) (v1 : Int32) (v2 : Int32) (v3 : Int32) (v4 : Int32) : Prop := ∃ b_1 : Nat, sO σ a0 4 = some b_1 ∧ cl b_1 = 9 ∧ wu_Wd_number y (fun (s_5 : St) (r_4 : Int32) => ((r_4 < 0 → wj_Re_noteClass_16 y Post a0 s_5 v1 v2 v3 v4) ∧ (¬ (r_4 < 0) → wu_Re_note y (fun (s_24 : St) => wj_Re_noteClass_16 y Post a0 s_24 v1 v2 v3 v4) s_5 a0 2))) σ b_1 v2
set_option maxHeartbeats 4000000 in
set_option maxRecDepth 100000 in
theorem cu_Re_noteClass (l : Launch) (D : va_G) (g : Nat → ClassId) (ad : Nat → Nat) (y : Ly) (Post : St → Prop) (σ : St) (a0 : Nat) (v1 : Int32) (v2 : Int32) (v3 : Int32) (v4 : Int32) (sz : Nat) (h_a0 : cl a0 = 6) (h : wu_Re_noteClass y Post σ a0 v1 v2 v3 v4) : Met l y_Re_noteClass (mw y_Re_noteClass b_Re_noteClass 11 (none)) ru_Re_noteClass (PC g D [] [.ref (ad a0), .int v1, .int v2, .int v3, .int v4] sz (ws g ad y σ)) (va_Qv (fun u : St => Post u) (QW D (va_A (ws g ad y σ) sz) (fun u => ws g ad y u)) (va_A (ws g ad y σ) sz)) 0 0 (va_A (ws g ad y σ) sz) := by
  refine ofV (by decide +kernel) (Nat.le_of_ble_eq_true rfl) ?_
  intro p e s m args below meth c A Q ls H locs G hsz hP hD hS hl hret
  subst hsz
  have hl : lv_has ls 11 [(0, .ref (ad a0)), (1, .int v1), (2, .int v2), (3, .int v3), (4, .int v4)] := hl
  unfold wu_Re_noteClass at h
  refine lv_aload_n G.1 G.2.1 d_Re_noteClass_0 rfl (lv_at hl 0 rfl) ?_
  obtain ⟨b_1, e_2, c_3, h⟩ := h
  refine ugf (v := .ref (ad b_1)) G hP h_a0 iRe rfl 4 (by decide) rfl q591 rfl (by show va_rf ((sO σ a0 4).map ad) = _; rw [e_2]; rfl) d_Re_noteClass_1 ?_
  refine lv_iload_n G.1 G.2.1 d_Re_noteClass_4 rfl (lv_at hl 2 rfl) ?_
  refine ucVi (As := [.int v2]) (rest := []) G hP hD hS (cu_Wd_number l D g ad y _ σ b_1 v2 H.size c_3 h) w9_Wd_number q1333 ⟨Nat.le_of_ble_eq_true rfl, Nat.le_of_ble_eq_true rfl⟩ rfl rfl c_3 (q := (RWd, TWd, 17)) rfl rfl hl.1 rfl (Nat.le_of_ble_eq_true rfl) rfl ⟨Nat.le_refl _, Nat.le_refl _⟩ d_Re_noteClass_5 (fun r_4 s_5 H locs h hP hD hS => ?_)
  have J_16 : ∀ (s_j16 : St) (x1j16 : Int32) (x2j16 : Int32) (x3j16 : Int32) (x4j16 : Int32) (H : Heap) (locs : List Loc), wj_Re_noteClass_16 y Post a0 s_j16 x1j16 x2j16 x3j16 x4j16 → va_P D CL (ws g ad y s_j16) H → va_D A (ws g ad y s_j16) → va_S A s.heap H locs → ∀ ls, lv_has ls 11 [(0, .ref (ad a0)), (1, .int x1j16), (2, .int x2j16), (3, .int x3j16), (4, .int x4j16)] → W p l e ru_Re_noteClass s m args below meth c H locs 0 0 Q (F0 m 16 ls []) := by
    intro s_j16 x1j16 x2j16 x3j16 x4j16 H locs h hP hD hS ls hl
    unfold wj_Re_noteClass_16 at h
    refine lv_iload_n G.1 G.2.1 d_Re_noteClass_16 rfl (lv_at hl 1 rfl) ?_
    refine lv_iconst (v := 4) G.1 G.2.1 d_Re_noteClass_17 (by decide) ?_
    refine lv_iand G.1 G.2.1 d_Re_noteClass_18 ?_
    have J_27 : ∀ (s_j27 : St) (x1j27 : Int32) (x2j27 : Int32) (x3j27 : Int32) (x4j27 : Int32) (z0j27 : Int32) (H : Heap) (locs : List Loc), wj_Re_noteClass_27 y Post a0 s_j27 x1j27 x2j27 x3j27 x4j27 z0j27 → va_P D CL (ws g ad y s_j27) H → va_D A (ws g ad y s_j27) → va_S A s.heap H locs → ∀ ls, lv_has ls 11 [(0, .ref (ad a0)), (1, .int x1j27), (2, .int x2j27), (3, .int x3j27), (4, .int x4j27)] → W p l e ru_Re_noteClass s m args below meth c H locs 0 0 Q (F0 m 27 ls [.int z0j27]) := by
      intro s_j27 x1j27 x2j27 x3j27 x4j27 z0j27 H locs h hP hD hS ls hl
      unfold wj_Re_noteClass_27 at h
      refine lv_istore (lv' := [(5, .int z0j27), (0, .ref (ad a0)), (1, .int x1j27), (2, .int x2j27), (3, .int x3j27), (4, .int x4j27)]) G.1 G.2.1 d_Re_noteClass_27 hl (by decide) rfl (fun ls hl => ?_)
      refine lv_iload_n G.1 G.2.1 d_Re_noteClass_29 rfl (lv_at hl 2 rfl) ?_
      have J_53 : ∀ (s_j53 : St) (x2j53 : Int32) (x3j53 : Int32) (x4j53 : Int32) (x5j53 : Int32) (z0j53 : Int32) (H : Heap) (locs : List Loc), wj_Re_noteClass_53 y Post a0 s_j53 x2j53 x3j53 x4j53 x5j53 z0j53 → va_P D CL (ws g ad y s_j53) H → va_D A (ws g ad y s_j53) → va_S A s.heap H locs → ∀ ls, lv_has ls 11 [(0, .ref (ad a0)), (2, .int x2j53), (3, .int x3j53), (4, .int x4j53), (5, .int x5j53)] → W p l e ru_Re_noteClass s m args below meth c H locs 0 0 Q (F0 m 53 ls [.int z0j53]) := by
        intro s_j53 x2j53 x3j53 x4j53 x5j53 z0j53 H locs h hP hD hS ls hl
        unfold wj_Re_noteClass_53 at h
        refine lv_istore (lv' := [(6, .int z0j53), (0, .ref (ad a0)), (2, .int x2j53), (3, .int x3j53), (4, .int x4j53), (5, .int x5j53)]) G.1 G.2.1 d_Re_noteClass_53 hl (by decide) rfl (fun ls hl => ?_)
        refine lv_iload G.1 G.2.1 d_Re_noteClass_55 (lv_at hl 0 rfl) ?_
        have J_95 : ∀ (s_j95 : St) (x2j95 : Int32) (x3j95 : Int32) (x4j95 : Int32) (H : Heap) (locs : List Loc), wj_Re_noteClass_95 y Post a0 s_j95 x2j95 x3j95 x4j95 → va_P D CL (ws g ad y s_j95) H → va_D A (ws g ad y s_j95) → va_S A s.heap H locs → ∀ ls, lv_has ls 11 [(0, .ref (ad a0)), (2, .int x2j95), (3, .int x3j95), (4, .int x4j95)] → W p l e ru_Re_noteClass s m args below meth c H locs 0 0 Q (F0 m 95 ls []) := by
          intro s_j95 x2j95 x3j95 x4j95 H locs h hP hD hS ls hl
          unfold wj_Re_noteClass_95 at h
          refine lv_iconst (v := 0) G.1 G.2.1 d_Re_noteClass_95 (by decide) ?_
          refine lv_istore (lv' := [(7, .int 0), (0, .ref (ad a0)), (2, .int x2j95), (3, .int x3j95), (4, .int x4j95)]) G.1 G.2.1 d_Re_noteClass_96 hl (by decide) rfl (fun ls hl => ?_)
          unfold wl_Re_noteClass_98 at h
          obtain ⟨I_98, μ_98, hI_98, hB_98⟩ := h
          have L_98 : ∀ (n_98 : Nat) (s_h98 : St) (x2h98 : Int32) (x3h98 : Int32) (x4h98 : Int32) (x7h98 : Int32), μ_98 s_h98 x2h98 x3h98 x4h98 x7h98 < n_98 → I_98 s_h98 x2h98 x3h98 x4h98 x7h98 → ∀ (H : Heap) (locs : List Loc), va_P D CL (ws g ad y s_h98) H → va_D A (ws g ad y s_h98) → va_S A s.heap H locs → ∀ ls, lv_has ls 11 [(0, .ref (ad a0)), (2, .int x2h98), (3, .int x3h98), (4, .int x4h98), (7, .int x7h98)] → W p l e ru_Re_noteClass s m args below meth c H locs 0 0 Q (F0 m 98 ls []) := by
            intro n_98
            induction n_98 with
            | zero => intro s_h98 x2h98 x3h98 x4h98 x7h98 hμ; exact absurd hμ (Nat.not_lt_zero _)
            | succ n_98 ih_98 =>
              intro s_h98 x2h98 x3h98 x4h98 x7h98 hμ_98 hJ H locs hP hD hS ls hl
              obtain ⟨K_98, hK_98, h⟩ : ∃ K : St → Int32 → Int32 → Int32 → Int32 → Prop, (∀ z (t0 : Int32) (t1 : Int32) (t2 : Int32) (t3 : Int32), K z t0 t1 t2 t3 → I_98 z t0 t1 t2 t3 ∧ μ_98 z t0 t1 t2 t3 < μ_98 s_h98 x2h98 x3h98 x4h98 x7h98) ∧ wb_Re_noteClass_98 y Post K a0 s_h98 x2h98 x3h98 x4h98 x7h98 := ⟨_, fun _ _ _ _ _ h => h, hB_98 s_h98 x2h98 x3h98 x4h98 x7h98 hJ⟩
              unfold wb_Re_noteClass_98 at h
              refine lv_iload G.1 G.2.1 d_Re_noteClass_98 (lv_at hl 4 rfl) ?_
              refine lv_iload G.1 G.2.1 d_Re_noteClass_100 (lv_at hl 3 rfl) ?_
              refine lv_icmp_gt (tgt := 198) G.1 G.2.1 d_Re_noteClass_102 (by decide) (fun c102 => ?_) (fun c102 => ?_)
              · skip
                have h := h.1 c102
                refine lv_iload G.1 G.2.1 d_Re_noteClass_198 (lv_at hl 3 rfl) ?_
                refine lv_iconst (v := 4) G.1 G.2.1 d_Re_noteClass_200 (by decide) ?_
                have J_222 : ∀ (s_j222 : St) (H : Heap) (locs : List Loc), wj_Re_noteClass_222 y Post a0 s_j222 → va_P D CL (ws g ad y s_j222) H → va_D A (ws g ad y s_j222) → va_S A s.heap H locs → ∀ ls, lv_has ls 11 [] → W p l e ru_Re_noteClass s m args below meth c H locs 0 0 Q (F0 m 222 ls []) := by
                  intro s_j222 H locs h hP hD hS ls hl
                  unfold wj_Re_noteClass_222 at h
                  exact hret _ _ _ _ _ _ ls h hP hD hS (Nat.le_refl _) (Nat.le_refl _) d_Re_noteClass_222
                have J_216 : ∀ (s_j216 : St) (H : Heap) (locs : List Loc), wj_Re_noteClass_216 y Post a0 s_j216 → va_P D CL (ws g ad y s_j216) H → va_D A (ws g ad y s_j216) → va_S A s.heap H locs → ∀ ls, lv_has ls 11 [(0, .ref (ad a0))] → W p l e ru_Re_noteClass s m args below meth c H locs 0 0 Q (F0 m 216 ls []) := by
                  intro s_j216 H locs h hP hD hS ls hl
                  unfold wj_Re_noteClass_216 at h
                  refine lv_aload_n G.1 G.2.1 d_Re_noteClass_216 rfl (lv_at hl 0 rfl) ?_
                  refine lv_bipush (v := 12) G.1 G.2.1 d_Re_noteClass_217 (by decide) ?_
                  refine ucVv (As := [.int 12]) (rest := []) G hP hD hS (cu_Re_note l D g ad y _ s_j216 a0 12 H.size h_a0 h) w9_Re_note q1337 ⟨Nat.le_of_ble_eq_true rfl, Nat.le_of_ble_eq_true rfl⟩ rfl rfl h_a0 (q := (RRe, TRe, 18)) rfl rfl hl.1 rfl (Nat.le_of_ble_eq_true rfl) rfl ⟨Nat.le_refl _, Nat.le_refl _⟩ d_Re_noteClass_219 (fun s_7 H locs h hP hD hS => ?_)
                  exact J_222 s_7 H locs h hP hD hS ls (lv_sub hl [] rfl)
                refine lv_icmp_gt (tgt := 216) G.1 G.2.1 d_Re_noteClass_201 (by decide) (fun c201 => ?_) (fun c201 => ?_)
                · skip
                  have h := h.1 c201
                  exact J_216 s_h98 H locs h hP hD hS ls (lv_sub hl [0] rfl)
                · skip
                  have h := h.2 c201
                  refine lv_aload_n G.1 G.2.1 d_Re_noteClass_204 rfl (lv_at hl 0 rfl) ?_
                  obtain ⟨b_8, e_9, c_10, h⟩ := h
                  refine ugf (v := .ref (ad b_8)) G hP h_a0 iRe rfl 4 (by decide) rfl q591 rfl (by show va_rf ((sO s_h98 a0 4).map ad) = _; rw [e_9]; rfl) d_Re_noteClass_205 ?_
                  refine ugf (v := .int (sV s_h98 b_8 2)) G hP c_10 iWd rfl 2 (by decide) rfl q818 rfl rfl d_Re_noteClass_208 ?_
                  refine lv_bipush (v := 51) G.1 G.2.1 d_Re_noteClass_211 (by decide) ?_
                  refine lv_icmp_lt (tgt := 222) G.1 G.2.1 d_Re_noteClass_213 (by decide) (fun c213 => ?_) (fun c213 => ?_)
                  · skip
                    have h := h.1 c213
                    exact J_222 s_h98 H locs h hP hD hS ls (lv_sub hl [] rfl)
                  · skip
                    have h := h.2 c213
                    exact J_216 s_h98 H locs h hP hD hS ls (lv_sub hl [0] rfl)
              · skip
                have h := h.2 c102
                refine lv_aload_n G.1 G.2.1 d_Re_noteClass_105 rfl (lv_at hl 0 rfl) ?_
                refine ugf (v := .ref (ad (lk a0 3))) G hP h_a0 iRe rfl 3 (by decide) rfl q590 rfl rfl d_Re_noteClass_106 ?_
                refine ugf (v := .ref (yP y (lk a0 3) 1)) G hP (lk_6_3 h_a0) iWo rfl 1 (by decide) rfl q550 rfl rfl d_Re_noteClass_109 ?_
                refine lv_iload_n G.1 G.2.1 d_Re_noteClass_112 rfl (lv_at hl 2 rfl) ?_
                refine lv_iconst (v := 2) G.1 G.2.1 d_Re_noteClass_113 (by decide) ?_
                refine lv_iload G.1 G.2.1 d_Re_noteClass_114 (lv_at hl 4 rfl) ?_
                refine lv_imul G.1 G.2.1 d_Re_noteClass_116 ?_
                refine lv_iadd G.1 G.2.1 d_Re_noteClass_117 ?_
                refine W.eq (g2 := F0 m 118 ls [.int (x3h98 + (2 * x7h98)), .ref (yP y (lk a0 3) 1)]) rfl ?_
                refine uiald G hP (kdp (lk_6_3 h_a0) rfl) (typ (lk_6_3 h_a0) rfl) h d_Re_noteClass_118 (fun x_11 h => ?_)
                refine lv_istore (lv' := [(8, .int x_11), (0, .ref (ad a0)), (2, .int x2h98), (3, .int x3h98), (4, .int x4h98), (7, .int x7h98)]) G.1 G.2.1 d_Re_noteClass_119 hl (by decide) rfl (fun ls hl => ?_)
                refine lv_iload G.1 G.2.1 d_Re_noteClass_121 (lv_at hl 0 rfl) ?_
                refine lv_iload_n G.1 G.2.1 d_Re_noteClass_123 rfl (lv_at hl 2 rfl) ?_
                have J_132 : ∀ (s_j132 : St) (x2j132 : Int32) (x3j132 : Int32) (x4j132 : Int32) (x7j132 : Int32) (x8j132 : Int32) (z0j132 : Int32) (H : Heap) (locs : List Loc), wj_Re_noteClass_132 y Post K_98 a0 s_j132 x2j132 x3j132 x4j132 x7j132 x8j132 z0j132 → va_P D CL (ws g ad y s_j132) H → va_D A (ws g ad y s_j132) → va_S A s.heap H locs → ∀ ls, lv_has ls 11 [(0, .ref (ad a0)), (2, .int x2j132), (3, .int x3j132), (4, .int x4j132), (7, .int x7j132), (8, .int x8j132)] → W p l e ru_Re_noteClass s m args below meth c H locs 0 0 Q (F0 m 132 ls [.int z0j132]) := by
                  intro s_j132 x2j132 x3j132 x4j132 x7j132 x8j132 z0j132 H locs h hP hD hS ls hl
                  unfold wj_Re_noteClass_132 at h
                  refine lv_istore (lv' := [(9, .int z0j132), (0, .ref (ad a0)), (2, .int x2j132), (3, .int x3j132), (4, .int x4j132), (7, .int x7j132), (8, .int x8j132)]) G.1 G.2.1 d_Re_noteClass_132 hl (by decide) rfl (fun ls hl => ?_)
                  refine lv_iconst (v := 0) G.1 G.2.1 d_Re_noteClass_134 (by decide) ?_
                  refine lv_istore (lv' := [(10, .int 0), (9, .int z0j132), (0, .ref (ad a0)), (2, .int x2j132), (3, .int x3j132), (4, .int x4j132), (7, .int x7j132), (8, .int x8j132)]) G.1 G.2.1 d_Re_noteClass_135 hl (by decide) rfl (fun ls hl => ?_)
                  unfold wl_Re_noteClass_137 at h
                  obtain ⟨I_137, μ_137, hI_137, hB_137⟩ := h
                  have L_137 : ∀ (n_137 : Nat) (s_h137 : St) (x2h137 : Int32) (x3h137 : Int32) (x4h137 : Int32) (x7h137 : Int32) (x8h137 : Int32) (x9h137 : Int32) (x10h137 : Int32), μ_137 s_h137 x2h137 x3h137 x4h137 x7h137 x8h137 x9h137 x10h137 < n_137 → I_137 s_h137 x2h137 x3h137 x4h137 x7h137 x8h137 x9h137 x10h137 → ∀ (H : Heap) (locs : List Loc), va_P D CL (ws g ad y s_h137) H → va_D A (ws g ad y s_h137) → va_S A s.heap H locs → ∀ ls, lv_has ls 11 [(0, .ref (ad a0)), (2, .int x2h137), (3, .int x3h137), (4, .int x4h137), (7, .int x7h137), (8, .int x8h137), (9, .int x9h137), (10, .int x10h137)] → W p l e ru_Re_noteClass s m args below meth c H locs 0 0 Q (F0 m 137 ls []) := by
                    intro n_137
                    induction n_137 with
                    | zero => intro s_h137 x2h137 x3h137 x4h137 x7h137 x8h137 x9h137 x10h137 hμ; exact absurd hμ (Nat.not_lt_zero _)
                    | succ n_137 ih_137 =>
                      intro s_h137 x2h137 x3h137 x4h137 x7h137 x8h137 x9h137 x10h137 hμ_137 hJ H locs hP hD hS ls hl
                      obtain ⟨K_137, hK_137, h⟩ : ∃ K : St → Int32 → Int32 → Int32 → Int32 → Int32 → Int32 → Int32 → Prop, (∀ z (t0 : Int32) (t1 : Int32) (t2 : Int32) (t3 : Int32) (t4 : Int32) (t5 : Int32) (t6 : Int32), K z t0 t1 t2 t3 t4 t5 t6 → I_137 z t0 t1 t2 t3 t4 t5 t6 ∧ μ_137 z t0 t1 t2 t3 t4 t5 t6 < μ_137 s_h137 x2h137 x3h137 x4h137 x7h137 x8h137 x9h137 x10h137) ∧ wb_Re_noteClass_137 y Post K_98 K a0 s_h137 x2h137 x3h137 x4h137 x7h137 x8h137 x9h137 x10h137 := ⟨_, fun _ _ _ _ _ _ _ _ h => h, hB_137 s_h137 x2h137 x3h137 x4h137 x7h137 x8h137 x9h137 x10h137 hJ⟩
                      unfold wb_Re_noteClass_137 at h
                      refine lv_iload G.1 G.2.1 d_Re_noteClass_137 (lv_at hl 7 rfl) ?_
                      refine lv_iload G.1 G.2.1 d_Re_noteClass_139 (lv_at hl 4 rfl) ?_
                      refine lv_icmp_ge (tgt := 181) G.1 G.2.1 d_Re_noteClass_141 (by decide) (fun c141 => ?_) (fun c141 => ?_)
                      · skip
                        have h := h.1 c141
                        refine lv_iload G.1 G.2.1 d_Re_noteClass_181 (lv_at hl 6 rfl) ?_
                        have J_192 : ∀ (s_j192 : St) (x2j192 : Int32) (x3j192 : Int32) (x4j192 : Int32) (x7j192 : Int32) (H : Heap) (locs : List Loc), wj_Re_noteClass_192 y Post K_98 a0 s_j192 x2j192 x3j192 x4j192 x7j192 → va_P D CL (ws g ad y s_j192) H → va_D A (ws g ad y s_j192) → va_S A s.heap H locs → ∀ ls, lv_has ls 11 [(0, .ref (ad a0)), (2, .int x2j192), (3, .int x3j192), (4, .int x4j192), (7, .int x7j192)] → W p l e ru_Re_noteClass s m args below meth c H locs 0 0 Q (F0 m 192 ls []) := by
                          intro s_j192 x2j192 x3j192 x4j192 x7j192 H locs h hP hD hS ls hl
                          unfold wj_Re_noteClass_192 at h
                          refine lv_iinc (v := x7j192 + 1) (lv' := [(7, .int (x7j192 + 1)), (0, .ref (ad a0)), (2, .int x2j192), (3, .int x3j192), (4, .int x4j192)]) G.1 G.2.1 d_Re_noteClass_192 hl (k := 4) rfl rfl (by decide) rfl (fun ls hl => ?_)
                          refine lv_goto (tgt := 98) G.1 G.2.1 d_Re_noteClass_195 (by decide) ?_
                          have h := hK_98 s_j192 x2j192 x3j192 x4j192 (x7j192 + 1) h
                          exact ih_98 s_j192 x2j192 x3j192 x4j192 (x7j192 + 1) (Nat.lt_of_lt_of_le h.2 (Nat.le_of_lt_succ hμ_98)) h.1 H locs hP hD hS ls (lv_sub hl [1, 2, 3, 4, 0] rfl)
                        refine lv_if_eq (tgt := 192) G.1 G.2.1 d_Re_noteClass_183 (by decide) (fun c183 => ?_) (fun c183 => ?_)
                        · skip
                          have h := h.1 c183
                          exact J_192 s_h137 x2h137 x3h137 x4h137 x7h137 H locs h hP hD hS ls (lv_sub hl [0, 1, 2, 3, 4] rfl)
                        · skip
                          have h := h.2 c183
                          refine lv_aload_n G.1 G.2.1 d_Re_noteClass_186 rfl (lv_at hl 0 rfl) ?_
                          refine lv_bipush (v := 11) G.1 G.2.1 d_Re_noteClass_187 (by decide) ?_
                          refine ucVv (As := [.int 11]) (rest := []) G hP hD hS (cu_Re_note l D g ad y _ s_h137 a0 11 H.size h_a0 h) w9_Re_note q1337 ⟨Nat.le_of_ble_eq_true rfl, Nat.le_of_ble_eq_true rfl⟩ rfl rfl h_a0 (q := (RRe, TRe, 18)) rfl rfl hl.1 rfl (Nat.le_of_ble_eq_true rfl) rfl ⟨Nat.le_refl _, Nat.le_refl _⟩ d_Re_noteClass_189 (fun s_13 H locs h hP hD hS => ?_)
                          exact J_192 s_13 x2h137 x3h137 x4h137 x7h137 H locs h hP hD hS ls (lv_sub hl [0, 1, 2, 3, 4] rfl)
                      · skip
                        have h := h.2 c141
                        refine lv_iload G.1 G.2.1 d_Re_noteClass_144 (lv_at hl 6 rfl) ?_
                        have J_173 : ∀ (s_j173 : St) (x2j173 : Int32) (x3j173 : Int32) (x4j173 : Int32) (x7j173 : Int32) (x8j173 : Int32) (x10j173 : Int32) (z0j173 : Int32) (H : Heap) (locs : List Loc), wj_Re_noteClass_173 y Post K_98 K_137 a0 s_j173 x2j173 x3j173 x4j173 x7j173 x8j173 x10j173 z0j173 → va_P D CL (ws g ad y s_j173) H → va_D A (ws g ad y s_j173) → va_S A s.heap H locs → ∀ ls, lv_has ls 11 [(0, .ref (ad a0)), (2, .int x2j173), (3, .int x3j173), (4, .int x4j173), (7, .int x7j173), (8, .int x8j173), (10, .int x10j173)] → W p l e ru_Re_noteClass s m args below meth c H locs 0 0 Q (F0 m 173 ls [.int z0j173]) := by
                          intro s_j173 x2j173 x3j173 x4j173 x7j173 x8j173 x10j173 z0j173 H locs h hP hD hS ls hl
                          unfold wj_Re_noteClass_173 at h
                          refine lv_istore (lv' := [(9, .int z0j173), (0, .ref (ad a0)), (2, .int x2j173), (3, .int x3j173), (4, .int x4j173), (7, .int x7j173), (8, .int x8j173), (10, .int x10j173)]) G.1 G.2.1 d_Re_noteClass_173 hl (by decide) rfl (fun ls hl => ?_)
                          refine lv_iinc (v := x10j173 + 1) (lv' := [(10, .int (x10j173 + 1)), (9, .int z0j173), (0, .ref (ad a0)), (2, .int x2j173), (3, .int x3j173), (4, .int x4j173), (7, .int x7j173), (8, .int x8j173)]) G.1 G.2.1 d_Re_noteClass_175 hl (k := 7) rfl rfl (by decide) rfl (fun ls hl => ?_)
                          refine lv_goto (tgt := 137) G.1 G.2.1 d_Re_noteClass_178 (by decide) ?_
                          have h := hK_137 s_j173 x2j173 x3j173 x4j173 x7j173 x8j173 z0j173 (x10j173 + 1) h
                          exact ih_137 s_j173 x2j173 x3j173 x4j173 x7j173 x8j173 z0j173 (x10j173 + 1) (Nat.lt_of_lt_of_le h.2 (Nat.le_of_lt_succ hμ_137)) h.1 H locs hP hD hS ls (lv_sub hl [2, 3, 4, 5, 6, 7, 1, 0] rfl)
                        have J_168 : ∀ (s_j168 : St) (x2j168 : Int32) (x3j168 : Int32) (x4j168 : Int32) (x7j168 : Int32) (x8j168 : Int32) (x10j168 : Int32) (H : Heap) (locs : List Loc), wj_Re_noteClass_168 y Post K_98 K_137 a0 s_j168 x2j168 x3j168 x4j168 x7j168 x8j168 x10j168 → va_P D CL (ws g ad y s_j168) H → va_D A (ws g ad y s_j168) → va_S A s.heap H locs → ∀ ls, lv_has ls 11 [(0, .ref (ad a0)), (2, .int x2j168), (3, .int x3j168), (4, .int x4j168), (7, .int x7j168), (8, .int x8j168), (10, .int x10j168)] → W p l e ru_Re_noteClass s m args below meth c H locs 0 0 Q (F0 m 168 ls []) := by
                          intro s_j168 x2j168 x3j168 x4j168 x7j168 x8j168 x10j168 H locs h hP hD hS ls hl
                          unfold wj_Re_noteClass_168 at h
                          refine lv_iconst (v := 1) G.1 G.2.1 d_Re_noteClass_168 (by decide) ?_
                          refine lv_goto (tgt := 173) G.1 G.2.1 d_Re_noteClass_169 (by decide) ?_
                          exact J_173 s_j168 x2j168 x3j168 x4j168 x7j168 x8j168 x10j168 1 H locs h hP hD hS ls (lv_sub hl [0, 1, 2, 3, 4, 5, 6] rfl)
                        refine lv_if_ne (tgt := 168) G.1 G.2.1 d_Re_noteClass_146 (by decide) (fun c146 => ?_) (fun c146 => ?_)
                        · skip
                          have h := h.1 c146
                          exact J_168 s_h137 x2h137 x3h137 x4h137 x7h137 x8h137 x10h137 H locs h hP hD hS ls (lv_sub hl [0, 1, 2, 3, 4, 5, 7] rfl)
                        · skip
                          have h := h.2 c146
                          refine lv_aload_n G.1 G.2.1 d_Re_noteClass_149 rfl (lv_at hl 0 rfl) ?_
                          refine ugf (v := .ref (ad (lk a0 3))) G hP h_a0 iRe rfl 3 (by decide) rfl q590 rfl rfl d_Re_noteClass_150 ?_
                          refine ugf (v := .ref (yP y (lk a0 3) 1)) G hP (lk_6_3 h_a0) iWo rfl 1 (by decide) rfl q550 rfl rfl d_Re_noteClass_153 ?_
                          refine lv_iload_n G.1 G.2.1 d_Re_noteClass_156 rfl (lv_at hl 2 rfl) ?_
                          refine lv_iconst (v := 2) G.1 G.2.1 d_Re_noteClass_157 (by decide) ?_
                          refine lv_iload G.1 G.2.1 d_Re_noteClass_158 (lv_at hl 7 rfl) ?_
                          refine W.eq (g2 := F0 m 160 ls [.int x10h137, .int 2, .int x3h137, .ref (yP y (lk a0 3) 1)]) rfl ?_
                          refine lv_imul G.1 G.2.1 d_Re_noteClass_160 ?_
                          refine lv_iadd G.1 G.2.1 d_Re_noteClass_161 ?_
                          refine uiald G hP (kdp (lk_6_3 h_a0) rfl) (typ (lk_6_3 h_a0) rfl) h d_Re_noteClass_162 (fun x_14 h => ?_)
                          refine lv_iload G.1 G.2.1 d_Re_noteClass_163 (lv_at hl 5 rfl) ?_
                          refine lv_icmp_ne (tgt := 172) G.1 G.2.1 d_Re_noteClass_165 (by decide) (fun c165 => ?_) (fun c165 => ?_)
                          · skip
                            have h := h.1 c165
                            refine lv_iconst (v := 0) G.1 G.2.1 d_Re_noteClass_172 (by decide) ?_
                            exact J_173 s_h137 x2h137 x3h137 x4h137 x7h137 x8h137 x10h137 0 H locs h hP hD hS ls (lv_sub hl [0, 1, 2, 3, 4, 5, 7] rfl)
                          · skip
                            have h := h.2 c165
                            exact J_168 s_h137 x2h137 x3h137 x4h137 x7h137 x8h137 x10h137 H locs h hP hD hS ls (lv_sub hl [0, 1, 2, 3, 4, 5, 7] rfl)
                  exact L_137 _ s_j132 x2j132 x3j132 x4j132 x7j132 x8j132 z0j132 0 (Nat.lt_succ_self _) hI_137 H locs hP hD hS ls (lv_sub hl [2, 3, 4, 5, 6, 7, 1, 0] rfl)
                refine lv_icmp_ne (tgt := 131) G.1 G.2.1 d_Re_noteClass_124 (by decide) (fun c124 => ?_) (fun c124 => ?_)
                · skip
                  have h := h.1 c124
                  refine lv_iconst (v := 0) G.1 G.2.1 d_Re_noteClass_131 (by decide) ?_
                  exact J_132 s_h98 x2h98 x3h98 x4h98 x7h98 x_11 0 H locs h hP hD hS ls (lv_sub hl [1, 2, 3, 4, 5, 0] rfl)
                · skip
                  have h := h.2 c124
                  refine lv_iconst (v := 1) G.1 G.2.1 d_Re_noteClass_127 (by decide) ?_
                  refine lv_goto (tgt := 132) G.1 G.2.1 d_Re_noteClass_128 (by decide) ?_
                  exact J_132 s_h98 x2h98 x3h98 x4h98 x7h98 x_11 1 H locs h hP hD hS ls (lv_sub hl [1, 2, 3, 4, 5, 0] rfl)
          exact L_98 _ s_j95 x2j95 x3j95 x4j95 0 (Nat.lt_succ_self _) hI_98 H locs hP hD hS ls (lv_sub hl [1, 2, 3, 4, 0] rfl)
        have J_79 : ∀ (s_j79 : St) (x2j79 : Int32) (x3j79 : Int32) (x4j79 : Int32) (H : Heap) (locs : List Loc), wj_Re_noteClass_79 y Post a0 s_j79 x2j79 x3j79 x4j79 → va_P D CL (ws g ad y s_j79) H → va_D A (ws g ad y s_j79) → va_S A s.heap H locs → ∀ ls, lv_has ls 11 [(0, .ref (ad a0)), (2, .int x2j79), (3, .int x3j79), (4, .int x4j79)] → W p l e ru_Re_noteClass s m args below meth c H locs 0 0 Q (F0 m 79 ls []) := by
          intro s_j79 x2j79 x3j79 x4j79 H locs h hP hD hS ls hl
          unfold wj_Re_noteClass_79 at h
          refine lv_aload_n G.1 G.2.1 d_Re_noteClass_79 rfl (lv_at hl 0 rfl) ?_
          obtain ⟨b_15, e_16, c_17, h⟩ := h
          refine ugf (v := .ref (ad b_15)) G hP h_a0 iRe rfl 4 (by decide) rfl q591 rfl (by show va_rf ((sO s_j79 a0 4).map ad) = _; rw [e_16]; rfl) d_Re_noteClass_80 ?_
          refine lv_iconst (v := 0) G.1 G.2.1 d_Re_noteClass_83 (by decide) ?_
          refine ucVi (As := [.int 0]) (rest := []) G hP hD hS (cu_Wd_asks l D g ad y _ s_j79 b_15 0 H.size c_17 h) w9_Wd_asks q1342 ⟨Nat.le_of_ble_eq_true rfl, Nat.le_of_ble_eq_true rfl⟩ rfl rfl c_17 (q := (RWd, TWd, 17)) rfl rfl hl.1 rfl (Nat.le_of_ble_eq_true rfl) rfl ⟨Nat.le_refl _, Nat.le_refl _⟩ d_Re_noteClass_84 (fun r_18 s_19 H locs h hP hD hS => ?_)
          refine lv_if_eq (tgt := 95) G.1 G.2.1 d_Re_noteClass_87 (by decide) (fun c87 => ?_) (fun c87 => ?_)
          · skip
            have h := h.1 c87
            exact J_95 s_19 x2j79 x3j79 x4j79 H locs h hP hD hS ls (lv_sub hl [0, 1, 2, 3] rfl)
          · skip
            have h := h.2 c87
            refine lv_aload_n G.1 G.2.1 d_Re_noteClass_90 rfl (lv_at hl 0 rfl) ?_
            refine lv_iconst (v := 4) G.1 G.2.1 d_Re_noteClass_91 (by decide) ?_
            refine ucVv (As := [.int 4]) (rest := []) G hP hD hS (cu_Re_note l D g ad y _ s_19 a0 4 H.size h_a0 h) w9_Re_note q1337 ⟨Nat.le_of_ble_eq_true rfl, Nat.le_of_ble_eq_true rfl⟩ rfl rfl h_a0 (q := (RRe, TRe, 18)) rfl rfl hl.1 rfl (Nat.le_of_ble_eq_true rfl) rfl ⟨Nat.le_refl _, Nat.le_refl _⟩ d_Re_noteClass_92 (fun s_21 H locs h hP hD hS => ?_)
            exact J_95 s_21 x2j79 x3j79 x4j79 H locs h hP hD hS ls (lv_sub hl [0, 1, 2, 3] rfl)
        refine lv_if_eq (tgt := 79) G.1 G.2.1 d_Re_noteClass_57 (by decide) (fun c57 => ?_) (fun c57 => ?_)
        · skip
          have h := h.1 c57
          exact J_79 s_j53 x2j53 x3j53 x4j53 H locs h hP hD hS ls (lv_sub hl [1, 2, 3, 4] rfl)
        · skip
          have h := h.2 c57
          refine lv_iload G.1 G.2.1 d_Re_noteClass_60 (lv_at hl 5 rfl) ?_
          refine lv_if_eq (tgt := 95) G.1 G.2.1 d_Re_noteClass_62 (by decide) (fun c62 => ?_) (fun c62 => ?_)
          · skip
            have h := h.1 c62
            exact J_95 s_j53 x2j53 x3j53 x4j53 H locs h hP hD hS ls (lv_sub hl [1, 2, 3, 4] rfl)
          · skip
            have h := h.2 c62
            refine lv_aload_n G.1 G.2.1 d_Re_noteClass_65 rfl (lv_at hl 1 rfl) ?_
            refine ugf (v := .ref (ad (lk a0 3))) G hP h_a0 iRe rfl 3 (by decide) rfl q590 rfl rfl d_Re_noteClass_66 ?_
            refine ugf (v := .ref (yP y (lk a0 3) 1)) G hP (lk_6_3 h_a0) iWo rfl 1 (by decide) rfl q550 rfl rfl d_Re_noteClass_69 ?_
            refine lv_iload_n G.1 G.2.1 d_Re_noteClass_72 rfl (lv_at hl 3 rfl) ?_
            refine uiald G hP (kdp (lk_6_3 h_a0) rfl) (typ (lk_6_3 h_a0) rfl) h d_Re_noteClass_73 (fun x_22 h => ?_)
            refine lv_bipush (v := 9) G.1 G.2.1 d_Re_noteClass_74 (by decide) ?_
            refine W.eq (g2 := F0 m 76 ls [.int 9, .int x_22]) rfl ?_
            refine lv_icmp_eq (tgt := 95) G.1 G.2.1 d_Re_noteClass_76 (by decide) (fun c76 => ?_) (fun c76 => ?_)
            · skip
              have h := h.1 c76
              exact J_95 s_j53 x2j53 x3j53 x4j53 H locs h hP hD hS ls (lv_sub hl [1, 2, 3, 4] rfl)
            · skip
              have h := h.2 c76
              exact J_79 s_j53 x2j53 x3j53 x4j53 H locs h hP hD hS ls (lv_sub hl [1, 2, 3, 4] rfl)
      have J_48 : ∀ (s_j48 : St) (x2j48 : Int32) (x3j48 : Int32) (x4j48 : Int32) (x5j48 : Int32) (H : Heap) (locs : List Loc), wj_Re_noteClass_48 y Post a0 s_j48 x2j48 x3j48 x4j48 x5j48 → va_P D CL (ws g ad y s_j48) H → va_D A (ws g ad y s_j48) → va_S A s.heap H locs → ∀ ls, lv_has ls 11 [(0, .ref (ad a0)), (2, .int x2j48), (3, .int x3j48), (4, .int x4j48), (5, .int x5j48)] → W p l e ru_Re_noteClass s m args below meth c H locs 0 0 Q (F0 m 48 ls []) := by
        intro s_j48 x2j48 x3j48 x4j48 x5j48 H locs h hP hD hS ls hl
        unfold wj_Re_noteClass_48 at h
        refine lv_iconst (v := 1) G.1 G.2.1 d_Re_noteClass_48 (by decide) ?_
        refine lv_goto (tgt := 53) G.1 G.2.1 d_Re_noteClass_49 (by decide) ?_
        exact J_53 s_j48 x2j48 x3j48 x4j48 x5j48 1 H locs h hP hD hS ls (lv_sub hl [0, 1, 2, 3, 4] rfl)
      refine lv_if_eq (tgt := 48) G.1 G.2.1 d_Re_noteClass_30 (by decide) (fun c30 => ?_) (fun c30 => ?_)
      · skip
        have h := h.1 c30
        exact J_48 s_j27 x2j27 x3j27 x4j27 z0j27 H locs h hP hD hS ls (lv_sub hl [1, 3, 4, 5, 0] rfl)
      · skip
        have h := h.2 c30
        refine lv_iload_n G.1 G.2.1 d_Re_noteClass_33 rfl (lv_at hl 2 rfl) ?_
        refine lv_iconst (v := 1) G.1 G.2.1 d_Re_noteClass_34 (by decide) ?_
        refine lv_icmp_eq (tgt := 48) G.1 G.2.1 d_Re_noteClass_35 (by decide) (fun c35 => ?_) (fun c35 => ?_)
        · skip
          have h := h.1 c35
          exact J_48 s_j27 x2j27 x3j27 x4j27 z0j27 H locs h hP hD hS ls (lv_sub hl [1, 3, 4, 5, 0] rfl)
        · skip
          have h := h.2 c35
          refine lv_iload_n G.1 G.2.1 d_Re_noteClass_38 rfl (lv_at hl 2 rfl) ?_
          refine lv_iconst (v := 2) G.1 G.2.1 d_Re_noteClass_39 (by decide) ?_
          refine lv_icmp_eq (tgt := 48) G.1 G.2.1 d_Re_noteClass_40 (by decide) (fun c40 => ?_) (fun c40 => ?_)
          · skip
            have h := h.1 c40
            exact J_48 s_j27 x2j27 x3j27 x4j27 z0j27 H locs h hP hD hS ls (lv_sub hl [1, 3, 4, 5, 0] rfl)
          · skip
            have h := h.2 c40
            refine lv_iload_n G.1 G.2.1 d_Re_noteClass_43 rfl (lv_at hl 2 rfl) ?_
            refine lv_iconst (v := 4) G.1 G.2.1 d_Re_noteClass_44 (by decide) ?_
            refine W.eq (g2 := F0 m 45 ls [.int 4, .int x1j27]) rfl ?_
            refine lv_icmp_ne (tgt := 52) G.1 G.2.1 d_Re_noteClass_45 (by decide) (fun c45 => ?_) (fun c45 => ?_)
            · skip
              have h := h.1 c45
              refine lv_iconst (v := 0) G.1 G.2.1 d_Re_noteClass_52 (by decide) ?_
              exact J_53 s_j27 x2j27 x3j27 x4j27 z0j27 0 H locs h hP hD hS ls (lv_sub hl [1, 3, 4, 5, 0] rfl)
            · skip
              have h := h.2 c45
              exact J_48 s_j27 x2j27 x3j27 x4j27 z0j27 H locs h hP hD hS ls (lv_sub hl [1, 3, 4, 5, 0] rfl)
    refine lv_if_eq (tgt := 26) G.1 G.2.1 d_Re_noteClass_19 (by decide) (fun c19 => ?_) (fun c19 => ?_)
    · skip
      have h := h.1 c19
      refine lv_iconst (v := 0) G.1 G.2.1 d_Re_noteClass_26 (by decide) ?_
      exact J_27 s_j16 x1j16 x2j16 x3j16 x4j16 0 H locs h hP hD hS ls (lv_sub hl [0, 1, 2, 3, 4] rfl)
    · skip
      have h := h.2 c19
      refine lv_iconst (v := 1) G.1 G.2.1 d_Re_noteClass_22 (by decide) ?_
      refine lv_goto (tgt := 27) G.1 G.2.1 d_Re_noteClass_23 (by decide) ?_
      exact J_27 s_j16 x1j16 x2j16 x3j16 x4j16 1 H locs h hP hD hS ls (lv_sub hl [0, 1, 2, 3, 4] rfl)
  refine lv_if_lt (tgt := 16) G.1 G.2.1 d_Re_noteClass_8 (by decide) (fun c8 => ?_) (fun c8 => ?_)
  · skip
    have h := h.1 c8
    exact J_16 s_5 v1 v2 v3 v4 H locs h hP hD hS ls (lv_sub hl [0, 1, 2, 3, 4] rfl)
  · skip
    have h := h.2 c8
    refine lv_aload_n G.1 G.2.1 d_Re_noteClass_11 rfl (lv_at hl 0 rfl) ?_
    refine lv_iconst (v := 2) G.1 G.2.1 d_Re_noteClass_12 (by decide) ?_
    refine ucVv (As := [.int 2]) (rest := []) G hP hD hS (cu_Re_note l D g ad y _ s_5 a0 2 H.size h_a0 h) w9_Re_note q1337 ⟨Nat.le_of_ble_eq_true rfl, Nat.le_of_ble_eq_true rfl⟩ rfl rfl h_a0 (q := (RRe, TRe, 18)) rfl rfl hl.1 rfl (Nat.le_of_ble_eq_true rfl) rfl ⟨Nat.le_refl _, Nat.le_refl _⟩ d_Re_noteClass_13 (fun s_24 H locs h hP hD hS => ?_)
    exact J_16 s_24 v1 v2 v3 v4 H locs h hP hD hS ls (lv_sub hl [0, 1, 2, 3, 4] rfl)
def y_Wd_set : MethodName := ⟨"ClassWorks$World", "set", "(III)V"⟩
abbrev b_Wd_set : ByteArray := prog_11_method_8_code
theorem d_Wd_set_0 : decode b_Wd_set 0 = .ok (.aload_n 0, 1) := by decide +kernel
theorem d_Wd_set_1 : decode b_Wd_set 1 = .ok (.getfield 28, 3) := by decide +kernel
theorem d_Wd_set_4 : decode b_Wd_set 4 = .ok (.iload_n 1, 1) := by decide +kernel
theorem d_Wd_set_5 : decode b_Wd_set 5 = .ok (.bipush 19, 2) := by decide +kernel
theorem d_Wd_set_7 : decode b_Wd_set 7 = .ok (.imul, 1) := by decide +kernel
theorem d_Wd_set_8 : decode b_Wd_set 8 = .ok (.iload_n 2, 1) := by decide +kernel
theorem d_Wd_set_9 : decode b_Wd_set 9 = .ok (.iadd, 1) := by decide +kernel
theorem d_Wd_set_10 : decode b_Wd_set 10 = .ok (.iload_n 3, 1) := by decide +kernel
theorem d_Wd_set_11 : decode b_Wd_set 11 = .ok (.iastore, 1) := by decide +kernel
theorem d_Wd_set_12 : decode b_Wd_set 12 = .ok (.return_, 1) := by decide +kernel
abbrev ru_Wd_set : Room := { frames := 0, cells := 0, slots := 0, locals := 0 }
def wu_Wd_set (y : Ly) (Post : St → Prop) (σ : St) (a0 : Nat) (v1 : Int32) (v2 : Int32) (v3 : Int32) : Prop := xS y σ a0 6 ((v1 * 19) + v2) v3 (fun s_1 : St => Post s_1)
set_option maxHeartbeats 4000000 in
set_option maxRecDepth 100000 in
theorem cu_Wd_set (l : Launch) (D : va_G) (g : Nat → ClassId) (ad : Nat → Nat) (y : Ly) (Post : St → Prop) (σ : St) (a0 : Nat) (v1 : Int32) (v2 : Int32) (v3 : Int32) (sz : Nat) (h_a0 : cl a0 = 9) (h : wu_Wd_set y Post σ a0 v1 v2 v3) : Met l y_Wd_set (mw y_Wd_set b_Wd_set 4 (none)) ru_Wd_set (PC g D [] [.ref (ad a0), .int v1, .int v2, .int v3] sz (ws g ad y σ)) (va_Qv (fun u : St => Post u) (QW D (va_A (ws g ad y σ) sz) (fun u => ws g ad y u)) (va_A (ws g ad y σ) sz)) 0 0 (va_A (ws g ad y σ) sz) := by
  refine ofV (by decide +kernel) (Nat.le_of_ble_eq_true rfl) ?_
  intro p e s m args below meth c A Q ls H locs G hsz hP hD hS hl hret
  subst hsz
  have hl : lv_has ls 4 [(0, .ref (ad a0)), (1, .int v1), (2, .int v2), (3, .int v3)] := hl
  unfold wu_Wd_set at h
  refine lv_aload_n G.1 G.2.1 d_Wd_set_0 rfl (lv_at hl 0 rfl) ?_
  refine ugf (v := .ref (yP y a0 6)) G hP h_a0 iWd rfl 6 (by decide) rfl q831 rfl rfl d_Wd_set_1 ?_
  refine lv_iload_n G.1 G.2.1 d_Wd_set_4 rfl (lv_at hl 1 rfl) ?_
  refine lv_bipush (v := 19) G.1 G.2.1 d_Wd_set_5 (by decide) ?_
  refine lv_imul G.1 G.2.1 d_Wd_set_7 ?_
  refine lv_iload_n G.1 G.2.1 d_Wd_set_8 rfl (lv_at hl 2 rfl) ?_
  refine lv_iadd G.1 G.2.1 d_Wd_set_9 ?_
  refine lv_iload_n G.1 G.2.1 d_Wd_set_10 rfl (lv_at hl 3 rfl) ?_
  refine uiast G hP hD hS (kdp h_a0 rfl) (typ h_a0 rfl) h d_Wd_set_11 (fun s_1 H locs h hP hD hS => ?_)
  exact hret _ _ _ _ _ _ ls h hP hD hS (Nat.le_refl _) (Nat.le_refl _) d_Wd_set_12
def y_Na_argumentsOf : MethodName := ⟨"ClassWorks$Names", "argumentsOf", "(I)I"⟩
abbrev b_Na_argumentsOf : ByteArray := prog_7_method_12_code
theorem d_Na_argumentsOf_0 : decode b_Na_argumentsOf 0 = .ok (.aload_n 0, 1) := by decide +kernel
theorem d_Na_argumentsOf_1 : decode b_Na_argumentsOf 1 = .ok (.getfield 33, 3) := by decide +kernel
theorem d_Na_argumentsOf_4 : decode b_Na_argumentsOf 4 = .ok (.getfield 101, 3) := by decide +kernel
theorem d_Na_argumentsOf_7 : decode b_Na_argumentsOf 7 = .ok (.iload_n 1, 1) := by decide +kernel
theorem d_Na_argumentsOf_8 : decode b_Na_argumentsOf 8 = .ok (.iconst 3, 1) := by decide +kernel
theorem d_Na_argumentsOf_9 : decode b_Na_argumentsOf 9 = .ok (.iadd, 1) := by decide +kernel
theorem d_Na_argumentsOf_10 : decode b_Na_argumentsOf 10 = .ok (.iaload, 1) := by decide +kernel
theorem d_Na_argumentsOf_11 : decode b_Na_argumentsOf 11 = .ok (.ireturn, 1) := by decide +kernel
abbrev ru_Na_argumentsOf : Room := { frames := 0, cells := 0, slots := 0, locals := 0 }
def wu_Na_argumentsOf (y : Ly) (Post : St → Int32 → Prop) (σ : St) (a0 : Nat) (v1 : Int32) : Prop := xA y σ (lk a0 5) 0 (v1 + 3) (fun x_1 : Int32 => Post σ x_1)
set_option maxHeartbeats 4000000 in
set_option maxRecDepth 100000 in
theorem cu_Na_argumentsOf (l : Launch) (D : va_G) (g : Nat → ClassId) (ad : Nat → Nat) (y : Ly) (Post : St → Int32 → Prop) (σ : St) (a0 : Nat) (v1 : Int32) (sz : Nat) (h_a0 : cl a0 = 5) (h : wu_Na_argumentsOf y Post σ a0 v1) : Met l y_Na_argumentsOf (mw y_Na_argumentsOf b_Na_argumentsOf 2 (some .int)) ru_Na_argumentsOf (PC g D [] [.ref (ad a0), .int v1] sz (ws g ad y σ)) (va_Qi (fun (r : Int32) (u : St) => Post u r) (QW D (va_A (ws g ad y σ) sz) (fun u => ws g ad y u)) (va_A (ws g ad y σ) sz)) 0 0 (va_A (ws g ad y σ) sz) := by
  refine ofI (by decide +kernel) (Nat.le_of_ble_eq_true rfl) ?_
  intro p e s m args below meth c A Q ls H locs G hsz hP hD hS hl hret
  subst hsz
  have hl : lv_has ls 2 [(0, .ref (ad a0)), (1, .int v1)] := hl
  unfold wu_Na_argumentsOf at h
  refine lv_aload_n G.1 G.2.1 d_Na_argumentsOf_0 rfl (lv_at hl 0 rfl) ?_
  refine ugf (v := .ref (ad (lk a0 5))) G hP h_a0 iNa rfl 5 (by decide) rfl q509 rfl rfl d_Na_argumentsOf_1 ?_
  refine ugf (v := .ref (yP y (lk a0 5) 0)) G hP (lk_5_5 h_a0) iIn rfl 0 (by decide) rfl q381 rfl rfl d_Na_argumentsOf_4 ?_
  refine lv_iload_n G.1 G.2.1 d_Na_argumentsOf_7 rfl (lv_at hl 1 rfl) ?_
  refine lv_iconst (v := 3) G.1 G.2.1 d_Na_argumentsOf_8 (by decide) ?_
  refine lv_iadd G.1 G.2.1 d_Na_argumentsOf_9 ?_
  refine uiald G hP (kdp (lk_5_5 h_a0) rfl) (typ (lk_5_5 h_a0) rfl) h d_Na_argumentsOf_10 (fun x_1 h => ?_)
  exact hret _ _ _ _ _ _ _ ls h hP hD hS (Nat.le_refl _) (Nat.le_refl _) d_Na_argumentsOf_11
theorem q1313 : Cond.methodLink "ClassWorks$Reader" 144 y_Re_takeKey ∈ lw_ok := lw_okmem (List.mem_of_getElem? (i := 1313) (by decide +kernel)) rfl
theorem q1316 : Cond.code y_Re_takeKey b_Re_takeKey 2 (none) ∈ lw_ok := lw_okmem (List.mem_of_getElem? (i := 1316) (by decide +kernel)) rfl
theorem q1315 : Cond.instanceMethod y_Re_takeKey ∈ lw_ok := lw_okmem (List.mem_of_getElem? (i := 1315) (by decide +kernel)) rfl
theorem q17 : Cond.selects y_Re_takeKey.cls y_Re_takeKey y_Re_takeKey ∈ lw_ok := lw_okmem (List.mem_of_getElem? (i := 17) (by decide +kernel)) rfl
theorem w9_Re_takeKey : CWv y_Re_takeKey b_Re_takeKey 2 (none) 1 ∧ Cond.instanceMethod y_Re_takeKey ∈ lw_ok ∧ Cond.selects y_Re_takeKey.cls y_Re_takeKey y_Re_takeKey ∈ lw_ok := ⟨⟨q1316, q340, by decide +kernel, by decide +kernel, by decide +kernel⟩, q1315, q17⟩
theorem q1321 : Cond.methodLink "ClassWorks$Reader" 147 y_Re_take ∈ lw_ok := lw_okmem (List.mem_of_getElem? (i := 1321) (by decide +kernel)) rfl
theorem q1324 : Cond.code y_Re_take b_Re_take 7 (some .int) ∈ lw_ok := lw_okmem (List.mem_of_getElem? (i := 1324) (by decide +kernel)) rfl
theorem q1323 : Cond.instanceMethod y_Re_take ∈ lw_ok := lw_okmem (List.mem_of_getElem? (i := 1323) (by decide +kernel)) rfl
theorem q19 : Cond.selects y_Re_take.cls y_Re_take y_Re_take ∈ lw_ok := lw_okmem (List.mem_of_getElem? (i := 19) (by decide +kernel)) rfl
theorem w9_Re_take : CWv y_Re_take b_Re_take 7 (some .int) 1 ∧ Cond.instanceMethod y_Re_take ∈ lw_ok ∧ Cond.selects y_Re_take.cls y_Re_take y_Re_take ∈ lw_ok := ⟨⟨q1324, q340, by decide +kernel, by decide +kernel, by decide +kernel⟩, q1323, q19⟩
theorem q593 : Cond.fieldLink "ClassWorks$Reader" 21 "ClassWorks$Reader" "state" "I" ∈ lw_ok := lw_okmem (List.mem_of_getElem? (i := 593) (by decide +kernel)) rfl
theorem q840 : Cond.fieldLink "ClassWorks$Reader" 224 "ClassWorks$World" "methods" "LClassWorks$Ints;" ∈ lw_ok := lw_okmem (List.mem_of_getElem? (i := 840) (by decide +kernel)) rfl
theorem q387 : Cond.fieldLink "ClassWorks$Reader" 236 "ClassWorks$Ints" "row" "[I" ∈ lw_ok := lw_okmem (List.mem_of_getElem? (i := 387) (by decide +kernel)) rfl
theorem q597 : Cond.fieldLink "ClassWorks$Reader" 33 "ClassWorks$Reader" "method" "I" ∈ lw_ok := lw_okmem (List.mem_of_getElem? (i := 597) (by decide +kernel)) rfl
theorem q1359 : Cond.methodLink "ClassWorks$Reader" 242 y_In_put ∈ lw_ok := lw_okmem (List.mem_of_getElem? (i := 1359) (by decide +kernel)) rfl
theorem q589 : Cond.fieldLink "ClassWorks$Reader" 64 "ClassWorks$Reader" "names" "LClassWorks$Names;" ∈ lw_ok := lw_okmem (List.mem_of_getElem? (i := 589) (by decide +kernel)) rfl
theorem q1355 : Cond.methodLink "ClassWorks$Reader" 239 y_Na_argumentsOf ∈ lw_ok := lw_okmem (List.mem_of_getElem? (i := 1355) (by decide +kernel)) rfl
theorem q1358 : Cond.code y_Na_argumentsOf b_Na_argumentsOf 2 (some .int) ∈ lw_ok := lw_okmem (List.mem_of_getElem? (i := 1358) (by decide +kernel)) rfl
theorem q1356 : Cond.instanceMethod y_Na_argumentsOf ∈ lw_ok := lw_okmem (List.mem_of_getElem? (i := 1356) (by decide +kernel)) rfl
theorem q1357 : Cond.selects y_Na_argumentsOf.cls y_Na_argumentsOf y_Na_argumentsOf ∈ lw_ok := lw_okmem (List.mem_of_getElem? (i := 1357) (by decide +kernel)) rfl
theorem w9_Na_argumentsOf : CWv y_Na_argumentsOf b_Na_argumentsOf 2 (some .int) 1 ∧ Cond.instanceMethod y_Na_argumentsOf ∈ lw_ok ∧ Cond.selects y_Na_argumentsOf.cls y_Na_argumentsOf y_Na_argumentsOf ∈ lw_ok := ⟨⟨q1358, q330, by decide +kernel, by decide +kernel, by decide +kernel⟩, q1356, q1357⟩
def y_Re_roomLine : MethodName := ⟨"ClassWorks$Reader", "roomLine", "()V"⟩
abbrev b_Re_roomLine : ByteArray := prog_8_method_22_code
theorem d_Re_roomLine_0 : decode b_Re_roomLine 0 = .ok (.aload_n 0, 1) := by decide +kernel
theorem d_Re_roomLine_1 : decode b_Re_roomLine 1 = .ok (.bipush 33, 2) := by decide +kernel
theorem d_Re_roomLine_3 : decode b_Re_roomLine 3 = .ok (.invokevirtual 144, 3) := by decide +kernel
theorem d_Re_roomLine_6 : decode b_Re_roomLine 6 = .ok (.aload_n 0, 1) := by decide +kernel
theorem d_Re_roomLine_7 : decode b_Re_roomLine 7 = .ok (.bipush 112, 2) := by decide +kernel
theorem d_Re_roomLine_9 : decode b_Re_roomLine 9 = .ok (.invokevirtual 147, 3) := by decide +kernel
theorem d_Re_roomLine_12 : decode b_Re_roomLine 12 = .ok (.istore_n 1, 1) := by decide +kernel
theorem d_Re_roomLine_13 : decode b_Re_roomLine 13 = .ok (.aload_n 0, 1) := by decide +kernel
theorem d_Re_roomLine_14 : decode b_Re_roomLine 14 = .ok (.bipush 112, 2) := by decide +kernel
theorem d_Re_roomLine_16 : decode b_Re_roomLine 16 = .ok (.invokevirtual 147, 3) := by decide +kernel
theorem d_Re_roomLine_19 : decode b_Re_roomLine 19 = .ok (.istore_n 2, 1) := by decide +kernel
theorem d_Re_roomLine_20 : decode b_Re_roomLine 20 = .ok (.aload_n 0, 1) := by decide +kernel
theorem d_Re_roomLine_21 : decode b_Re_roomLine 21 = .ok (.bipush 36, 2) := by decide +kernel
theorem d_Re_roomLine_23 : decode b_Re_roomLine 23 = .ok (.invokevirtual 147, 3) := by decide +kernel
theorem d_Re_roomLine_26 : decode b_Re_roomLine 26 = .ok (.pop, 1) := by decide +kernel
theorem d_Re_roomLine_27 : decode b_Re_roomLine 27 = .ok (.aload_n 0, 1) := by decide +kernel
theorem d_Re_roomLine_28 : decode b_Re_roomLine 28 = .ok (.iconst 3, 1) := by decide +kernel
theorem d_Re_roomLine_29 : decode b_Re_roomLine 29 = .ok (.putfield 21, 3) := by decide +kernel
theorem d_Re_roomLine_32 : decode b_Re_roomLine 32 = .ok (.aload_n 0, 1) := by decide +kernel
theorem d_Re_roomLine_33 : decode b_Re_roomLine 33 = .ok (.getfield 72, 3) := by decide +kernel
theorem d_Re_roomLine_36 : decode b_Re_roomLine 36 = .ok (.getfield 224, 3) := by decide +kernel
theorem d_Re_roomLine_39 : decode b_Re_roomLine 39 = .ok (.getfield 236, 3) := by decide +kernel
theorem d_Re_roomLine_42 : decode b_Re_roomLine 42 = .ok (.aload_n 0, 1) := by decide +kernel
theorem d_Re_roomLine_43 : decode b_Re_roomLine 43 = .ok (.getfield 33, 3) := by decide +kernel
theorem d_Re_roomLine_46 : decode b_Re_roomLine 46 = .ok (.iconst 1, 1) := by decide +kernel
theorem d_Re_roomLine_47 : decode b_Re_roomLine 47 = .ok (.iadd, 1) := by decide +kernel
theorem d_Re_roomLine_48 : decode b_Re_roomLine 48 = .ok (.iaload, 1) := by decide +kernel
theorem d_Re_roomLine_49 : decode b_Re_roomLine 49 = .ok (.iconst 1, 1) := by decide +kernel
theorem d_Re_roomLine_50 : decode b_Re_roomLine 50 = .ok (.iand, 1) := by decide +kernel
theorem d_Re_roomLine_51 : decode b_Re_roomLine 51 = .ok (.ifCond .eq 7, 3) := by decide +kernel
theorem d_Re_roomLine_54 : decode b_Re_roomLine 54 = .ok (.iconst 0, 1) := by decide +kernel
theorem d_Re_roomLine_55 : decode b_Re_roomLine 55 = .ok (.goto 4, 3) := by decide +kernel
theorem d_Re_roomLine_58 : decode b_Re_roomLine 58 = .ok (.iconst 1, 1) := by decide +kernel
theorem d_Re_roomLine_59 : decode b_Re_roomLine 59 = .ok (.istore_n 3, 1) := by decide +kernel
theorem d_Re_roomLine_60 : decode b_Re_roomLine 60 = .ok (.aload_n 0, 1) := by decide +kernel
theorem d_Re_roomLine_61 : decode b_Re_roomLine 61 = .ok (.getfield 18, 3) := by decide +kernel
theorem d_Re_roomLine_64 : decode b_Re_roomLine 64 = .ok (.ifCond .ne 37, 3) := by decide +kernel
theorem d_Re_roomLine_67 : decode b_Re_roomLine 67 = .ok (.iload_n 2, 1) := by decide +kernel
theorem d_Re_roomLine_68 : decode b_Re_roomLine 68 = .ok (.aload_n 0, 1) := by decide +kernel
theorem d_Re_roomLine_69 : decode b_Re_roomLine 69 = .ok (.getfield 64, 3) := by decide +kernel
theorem d_Re_roomLine_72 : decode b_Re_roomLine 72 = .ok (.aload_n 0, 1) := by decide +kernel
theorem d_Re_roomLine_73 : decode b_Re_roomLine 73 = .ok (.getfield 72, 3) := by decide +kernel
theorem d_Re_roomLine_76 : decode b_Re_roomLine 76 = .ok (.getfield 224, 3) := by decide +kernel
theorem d_Re_roomLine_79 : decode b_Re_roomLine 79 = .ok (.getfield 236, 3) := by decide +kernel
theorem d_Re_roomLine_82 : decode b_Re_roomLine 82 = .ok (.aload_n 0, 1) := by decide +kernel
theorem d_Re_roomLine_83 : decode b_Re_roomLine 83 = .ok (.getfield 33, 3) := by decide +kernel
theorem d_Re_roomLine_86 : decode b_Re_roomLine 86 = .ok (.iaload, 1) := by decide +kernel
theorem d_Re_roomLine_87 : decode b_Re_roomLine 87 = .ok (.invokevirtual 239, 3) := by decide +kernel
theorem d_Re_roomLine_90 : decode b_Re_roomLine 90 = .ok (.iload_n 3, 1) := by decide +kernel
theorem d_Re_roomLine_91 : decode b_Re_roomLine 91 = .ok (.iadd, 1) := by decide +kernel
theorem d_Re_roomLine_92 : decode b_Re_roomLine 92 = .ok (.if_icmp .ge 9, 3) := by decide +kernel
theorem d_Re_roomLine_95 : decode b_Re_roomLine 95 = .ok (.aload_n 0, 1) := by decide +kernel
theorem d_Re_roomLine_96 : decode b_Re_roomLine 96 = .ok (.bipush 13, 2) := by decide +kernel
theorem d_Re_roomLine_98 : decode b_Re_roomLine 98 = .ok (.invokevirtual 170, 3) := by decide +kernel
theorem d_Re_roomLine_101 : decode b_Re_roomLine 101 = .ok (.aload_n 0, 1) := by decide +kernel
theorem d_Re_roomLine_102 : decode b_Re_roomLine 102 = .ok (.getfield 72, 3) := by decide +kernel
theorem d_Re_roomLine_105 : decode b_Re_roomLine 105 = .ok (.getfield 224, 3) := by decide +kernel
theorem d_Re_roomLine_108 : decode b_Re_roomLine 108 = .ok (.aload_n 0, 1) := by decide +kernel
theorem d_Re_roomLine_109 : decode b_Re_roomLine 109 = .ok (.getfield 33, 3) := by decide +kernel
theorem d_Re_roomLine_112 : decode b_Re_roomLine 112 = .ok (.iconst 2, 1) := by decide +kernel
theorem d_Re_roomLine_113 : decode b_Re_roomLine 113 = .ok (.iadd, 1) := by decide +kernel
theorem d_Re_roomLine_114 : decode b_Re_roomLine 114 = .ok (.iload_n 1, 1) := by decide +kernel
theorem d_Re_roomLine_115 : decode b_Re_roomLine 115 = .ok (.invokevirtual 242, 3) := by decide +kernel
theorem d_Re_roomLine_118 : decode b_Re_roomLine 118 = .ok (.aload_n 0, 1) := by decide +kernel
theorem d_Re_roomLine_119 : decode b_Re_roomLine 119 = .ok (.getfield 72, 3) := by decide +kernel
theorem d_Re_roomLine_122 : decode b_Re_roomLine 122 = .ok (.getfield 224, 3) := by decide +kernel
theorem d_Re_roomLine_125 : decode b_Re_roomLine 125 = .ok (.aload_n 0, 1) := by decide +kernel
theorem d_Re_roomLine_126 : decode b_Re_roomLine 126 = .ok (.getfield 33, 3) := by decide +kernel
theorem d_Re_roomLine_129 : decode b_Re_roomLine 129 = .ok (.iconst 3, 1) := by decide +kernel
theorem d_Re_roomLine_130 : decode b_Re_roomLine 130 = .ok (.iadd, 1) := by decide +kernel
theorem d_Re_roomLine_131 : decode b_Re_roomLine 131 = .ok (.iload_n 2, 1) := by decide +kernel
theorem d_Re_roomLine_132 : decode b_Re_roomLine 132 = .ok (.invokevirtual 242, 3) := by decide +kernel
theorem d_Re_roomLine_135 : decode b_Re_roomLine 135 = .ok (.return_, 1) := by decide +kernel
abbrev ru_Re_roomLine : Room := { frames := 2, cells := 0, slots := 0, locals := 51 }
def wj_Re_roomLine_101 (y : Ly) (Post : St → Prop) (a0 : Nat) (s_j101 : St) (x1j101 : Int32) (x2j101 : Int32) : Prop := ∃ b_14 : Nat, sO s_j101 a0 4 = some b_14 ∧ cl b_14 = 9 ∧ wu_In_put y (fun (s_18 : St) => ∃ b_19 : Nat, sO s_18 a0 4 = some b_19 ∧ cl b_19 = 9 ∧ wu_In_put y (fun (s_23 : St) => Post s_23) s_18 (lk b_19 9) ((sV s_18 a0 10) + 3) x2j101) s_j101 (lk b_14 9) ((sV s_j101 a0 10) + 2) x1j101
def wj_Re_roomLine_59 (y : Ly) (Post : St → Prop) (a0 : Nat) (s_j59 : St) (x1j59 : Int32) (x2j59 : Int32) (z0j59 : Int32) : Prop := ((¬ (sV s_j59 a0 5) = 0 → wj_Re_roomLine_101 y Post a0 s_j59 x1j59 x2j59) ∧ ((sV s_j59 a0 5) = 0 → ∃ b_24 : Nat, sO s_j59 a0 4 = some b_24 ∧ cl b_24 = 9 ∧ xA y s_j59 (lk b_24 9) 0 (sV s_j59 a0 10) (fun x_27 : Int32 => wu_Na_argumentsOf y (fun (s_29 : St) (r_28 : Int32) => (((r_28 + z0j59) ≤ x2j59 → wj_Re_roomLine_101 y Post a0 s_29 x1j59 x2j59) ∧ (¬ ((r_28 + z0j59) ≤ x2j59) → wu_Re_note y (fun (s_31 : St) => wj_Re_roomLine_101 y Post a0 s_31 x1j59 x2j59) s_29 a0 13))) s_j59 (lk a0 2) x_27)))
def wu_Re_roomLine (y : Ly) (Post : St → Prop) (σ : St) (a0 : Nat) : Prop := wu_Re_takeKey y (fun (s_2 : St) => wu_Re_take y (fun (s_4 : St) (r_3 : Int32) => wu_Re_take y (fun (s_6 : St) (r_5 : Int32) => wu_Re_take y (fun (s_8 : St) (r_7 : Int32) => xP (uV s_8 a0 6 3) (fun s_9 : St => ∃ b_10 : Nat, sO s_9 a0 4 = some b_10 ∧ cl b_10 = 9 ∧ xA y s_9 (lk b_10 9) 0 ((sV s_9 a0 10) + 1) (fun x_13 : Int32 => (((x_13 &&& 1) = 0 → wj_Re_roomLine_59 y Post a0 s_9 r_3 r_5 1) ∧ (¬ ((x_13 &&& 1) = 0) → wj_Re_roomLine_59 y Post a0 s_9 r_3 r_5 0))))) s_6 a0 36) s_4 a0 112) s_2 a0 112) σ a0 33
set_option maxHeartbeats 4000000 in
set_option maxRecDepth 100000 in
theorem cu_Re_roomLine (l : Launch) (D : va_G) (g : Nat → ClassId) (ad : Nat → Nat) (y : Ly) (Post : St → Prop) (σ : St) (a0 : Nat) (sz : Nat) (h_a0 : cl a0 = 6) (h : wu_Re_roomLine y Post σ a0) : Met l y_Re_roomLine (mw y_Re_roomLine b_Re_roomLine 4 (none)) ru_Re_roomLine (PC g D [] [.ref (ad a0)] sz (ws g ad y σ)) (va_Qv (fun u : St => Post u) (QW D (va_A (ws g ad y σ) sz) (fun u => ws g ad y u)) (va_A (ws g ad y σ) sz)) 0 0 (va_A (ws g ad y σ) sz) := by
  refine ofV (by decide +kernel) (Nat.le_of_ble_eq_true rfl) ?_
  intro p e s m args below meth c A Q ls H locs G hsz hP hD hS hl hret
  subst hsz
  have hl : lv_has ls 4 [(0, .ref (ad a0))] := hl
  unfold wu_Re_roomLine at h
  refine lv_aload_n G.1 G.2.1 d_Re_roomLine_0 rfl (lv_at hl 0 rfl) ?_
  refine lv_bipush (v := 33) G.1 G.2.1 d_Re_roomLine_1 (by decide) ?_
  refine ucVv (As := [.int 33]) (rest := []) G hP hD hS (cu_Re_takeKey l D g ad y _ σ a0 33 H.size h_a0 h) w9_Re_takeKey q1313 ⟨Nat.le_of_ble_eq_true rfl, Nat.le_of_ble_eq_true rfl⟩ rfl rfl h_a0 (q := (RRe, TRe, 18)) rfl rfl hl.1 rfl (Nat.le_of_ble_eq_true rfl) rfl ⟨Nat.le_refl _, Nat.le_refl _⟩ d_Re_roomLine_3 (fun s_2 H locs h hP hD hS => ?_)
  refine lv_aload_n G.1 G.2.1 d_Re_roomLine_6 rfl (lv_at hl 0 rfl) ?_
  refine lv_bipush (v := 112) G.1 G.2.1 d_Re_roomLine_7 (by decide) ?_
  refine ucVi (As := [.int 112]) (rest := []) G hP hD hS (cu_Re_take l D g ad y _ s_2 a0 112 H.size h_a0 h) w9_Re_take q1321 ⟨Nat.le_of_ble_eq_true rfl, Nat.le_of_ble_eq_true rfl⟩ rfl rfl h_a0 (q := (RRe, TRe, 18)) rfl rfl hl.1 rfl (Nat.le_of_ble_eq_true rfl) rfl ⟨Nat.le_refl _, Nat.le_refl _⟩ d_Re_roomLine_9 (fun r_3 s_4 H locs h hP hD hS => ?_)
  refine lv_istore_n (lv' := [(1, .int r_3), (0, .ref (ad a0))]) G.1 G.2.1 d_Re_roomLine_12 rfl hl (by decide) rfl (fun ls hl => ?_)
  refine lv_aload_n G.1 G.2.1 d_Re_roomLine_13 rfl (lv_at hl 1 rfl) ?_
  refine lv_bipush (v := 112) G.1 G.2.1 d_Re_roomLine_14 (by decide) ?_
  refine ucVi (As := [.int 112]) (rest := []) G hP hD hS (cu_Re_take l D g ad y _ s_4 a0 112 H.size h_a0 h) w9_Re_take q1321 ⟨Nat.le_of_ble_eq_true rfl, Nat.le_of_ble_eq_true rfl⟩ rfl rfl h_a0 (q := (RRe, TRe, 18)) rfl rfl hl.1 rfl (Nat.le_of_ble_eq_true rfl) rfl ⟨Nat.le_refl _, Nat.le_refl _⟩ d_Re_roomLine_16 (fun r_5 s_6 H locs h hP hD hS => ?_)
  refine lv_istore_n (lv' := [(2, .int r_5), (1, .int r_3), (0, .ref (ad a0))]) G.1 G.2.1 d_Re_roomLine_19 rfl hl (by decide) rfl (fun ls hl => ?_)
  refine W.eq (g2 := F0 m 20 ls []) rfl ?_
  refine lv_aload_n G.1 G.2.1 d_Re_roomLine_20 rfl (lv_at hl 2 rfl) ?_
  refine lv_bipush (v := 36) G.1 G.2.1 d_Re_roomLine_21 (by decide) ?_
  refine ucVi (As := [.int 36]) (rest := []) G hP hD hS (cu_Re_take l D g ad y _ s_6 a0 36 H.size h_a0 h) w9_Re_take q1321 ⟨Nat.le_of_ble_eq_true rfl, Nat.le_of_ble_eq_true rfl⟩ rfl rfl h_a0 (q := (RRe, TRe, 18)) rfl rfl hl.1 rfl (Nat.le_of_ble_eq_true rfl) rfl ⟨Nat.le_refl _, Nat.le_refl _⟩ d_Re_roomLine_23 (fun r_7 s_8 H locs h hP hD hS => ?_)
  refine lv_pop G.1 G.2.1 d_Re_roomLine_26 rfl ?_
  refine lv_aload_n G.1 G.2.1 d_Re_roomLine_27 rfl (lv_at hl 2 rfl) ?_
  refine lv_iconst (v := 3) G.1 G.2.1 d_Re_roomLine_28 (by decide) ?_
  refine upf G hP hD hS h 6 putV h_a0 iRe tRe tRe_ok nRe rfl (by decide) rfl q593 rfl rfl fV rfl rfl d_Re_roomLine_29 (fun s_9 H locs h hP hD hS => ?_)
  refine lv_aload_n G.1 G.2.1 d_Re_roomLine_32 rfl (lv_at hl 2 rfl) ?_
  obtain ⟨b_10, e_11, c_12, h⟩ := h
  refine ugf (v := .ref (ad b_10)) G hP h_a0 iRe rfl 4 (by decide) rfl q591 rfl (by show va_rf ((sO s_9 a0 4).map ad) = _; rw [e_11]; rfl) d_Re_roomLine_33 ?_
  refine ugf (v := .ref (ad (lk b_10 9))) G hP c_12 iWd rfl 9 (by decide) rfl q840 rfl rfl d_Re_roomLine_36 ?_
  refine ugf (v := .ref (yP y (lk b_10 9) 0)) G hP (lk_9_9 c_12) iIn rfl 0 (by decide) rfl q387 rfl rfl d_Re_roomLine_39 ?_
  refine lv_aload_n G.1 G.2.1 d_Re_roomLine_42 rfl (lv_at hl 2 rfl) ?_
  refine W.eq (g2 := F0 m 43 ls [.ref (ad a0), .ref (yP y (lk b_10 9) 0)]) rfl ?_
  refine ugf (v := .int (sV s_9 a0 10)) G hP h_a0 iRe rfl 10 (by decide) rfl q597 rfl rfl d_Re_roomLine_43 ?_
  refine lv_iconst (v := 1) G.1 G.2.1 d_Re_roomLine_46 (by decide) ?_
  refine lv_iadd G.1 G.2.1 d_Re_roomLine_47 ?_
  refine uiald G hP (kdp (lk_9_9 c_12) rfl) (typ (lk_9_9 c_12) rfl) h d_Re_roomLine_48 (fun x_13 h => ?_)
  refine lv_iconst (v := 1) G.1 G.2.1 d_Re_roomLine_49 (by decide) ?_
  refine lv_iand G.1 G.2.1 d_Re_roomLine_50 ?_
  have J_59 : ∀ (s_j59 : St) (x1j59 : Int32) (x2j59 : Int32) (z0j59 : Int32) (H : Heap) (locs : List Loc), wj_Re_roomLine_59 y Post a0 s_j59 x1j59 x2j59 z0j59 → va_P D CL (ws g ad y s_j59) H → va_D A (ws g ad y s_j59) → va_S A s.heap H locs → ∀ ls, lv_has ls 4 [(0, .ref (ad a0)), (1, .int x1j59), (2, .int x2j59)] → W p l e ru_Re_roomLine s m args below meth c H locs 0 0 Q (F0 m 59 ls [.int z0j59]) := by
    intro s_j59 x1j59 x2j59 z0j59 H locs h hP hD hS ls hl
    unfold wj_Re_roomLine_59 at h
    refine lv_istore_n (lv' := [(3, .int z0j59), (0, .ref (ad a0)), (1, .int x1j59), (2, .int x2j59)]) G.1 G.2.1 d_Re_roomLine_59 rfl hl (by decide) rfl (fun ls hl => ?_)
    refine lv_aload_n G.1 G.2.1 d_Re_roomLine_60 rfl (lv_at hl 1 rfl) ?_
    refine ugf (v := .int (sV s_j59 a0 5)) G hP h_a0 iRe rfl 5 (by decide) rfl q592 rfl rfl d_Re_roomLine_61 ?_
    have J_101 : ∀ (s_j101 : St) (x1j101 : Int32) (x2j101 : Int32) (H : Heap) (locs : List Loc), wj_Re_roomLine_101 y Post a0 s_j101 x1j101 x2j101 → va_P D CL (ws g ad y s_j101) H → va_D A (ws g ad y s_j101) → va_S A s.heap H locs → ∀ ls, lv_has ls 4 [(0, .ref (ad a0)), (1, .int x1j101), (2, .int x2j101)] → W p l e ru_Re_roomLine s m args below meth c H locs 0 0 Q (F0 m 101 ls []) := by
      intro s_j101 x1j101 x2j101 H locs h hP hD hS ls hl
      unfold wj_Re_roomLine_101 at h
      refine lv_aload_n G.1 G.2.1 d_Re_roomLine_101 rfl (lv_at hl 0 rfl) ?_
      obtain ⟨b_14, e_15, c_16, h⟩ := h
      refine ugf (v := .ref (ad b_14)) G hP h_a0 iRe rfl 4 (by decide) rfl q591 rfl (by show va_rf ((sO s_j101 a0 4).map ad) = _; rw [e_15]; rfl) d_Re_roomLine_102 ?_
      refine ugf (v := .ref (ad (lk b_14 9))) G hP c_16 iWd rfl 9 (by decide) rfl q840 rfl rfl d_Re_roomLine_105 ?_
      refine lv_aload_n G.1 G.2.1 d_Re_roomLine_108 rfl (lv_at hl 0 rfl) ?_
      refine ugf (v := .int (sV s_j101 a0 10)) G hP h_a0 iRe rfl 10 (by decide) rfl q597 rfl rfl d_Re_roomLine_109 ?_
      refine lv_iconst (v := 2) G.1 G.2.1 d_Re_roomLine_112 (by decide) ?_
      refine lv_iadd G.1 G.2.1 d_Re_roomLine_113 ?_
      refine lv_iload_n G.1 G.2.1 d_Re_roomLine_114 rfl (lv_at hl 1 rfl) ?_
      refine ucVv (As := [.int ((sV s_j101 a0 10) + 2), .int x1j101]) (rest := []) G hP hD hS (cu_In_put l D g ad y _ s_j101 (lk b_14 9) ((sV s_j101 a0 10) + 2) x1j101 H.size (lk_9_9 c_16) h) w9_In_put q1359 ⟨Nat.le_of_ble_eq_true rfl, Nat.le_of_ble_eq_true rfl⟩ rfl rfl (lk_9_9 c_16) (q := (RIn, TIn, 2)) rfl rfl hl.1 rfl (Nat.le_of_ble_eq_true rfl) rfl ⟨Nat.le_refl _, Nat.le_refl _⟩ d_Re_roomLine_115 (fun s_18 H locs h hP hD hS => ?_)
      refine lv_aload_n G.1 G.2.1 d_Re_roomLine_118 rfl (lv_at hl 0 rfl) ?_
      obtain ⟨b_19, e_20, c_21, h⟩ := h
      refine ugf (v := .ref (ad b_19)) G hP h_a0 iRe rfl 4 (by decide) rfl q591 rfl (by show va_rf ((sO s_18 a0 4).map ad) = _; rw [e_20]; rfl) d_Re_roomLine_119 ?_
      refine W.eq (g2 := F0 m 122 ls [.ref (ad b_19)]) rfl ?_
      refine ugf (v := .ref (ad (lk b_19 9))) G hP c_21 iWd rfl 9 (by decide) rfl q840 rfl rfl d_Re_roomLine_122 ?_
      refine lv_aload_n G.1 G.2.1 d_Re_roomLine_125 rfl (lv_at hl 0 rfl) ?_
      refine ugf (v := .int (sV s_18 a0 10)) G hP h_a0 iRe rfl 10 (by decide) rfl q597 rfl rfl d_Re_roomLine_126 ?_
      refine lv_iconst (v := 3) G.1 G.2.1 d_Re_roomLine_129 (by decide) ?_
      refine lv_iadd G.1 G.2.1 d_Re_roomLine_130 ?_
      refine lv_iload_n G.1 G.2.1 d_Re_roomLine_131 rfl (lv_at hl 2 rfl) ?_
      refine ucVv (As := [.int ((sV s_18 a0 10) + 3), .int x2j101]) (rest := []) G hP hD hS (cu_In_put l D g ad y _ s_18 (lk b_19 9) ((sV s_18 a0 10) + 3) x2j101 H.size (lk_9_9 c_21) h) w9_In_put q1359 ⟨Nat.le_of_ble_eq_true rfl, Nat.le_of_ble_eq_true rfl⟩ rfl rfl (lk_9_9 c_21) (q := (RIn, TIn, 2)) rfl rfl hl.1 rfl (Nat.le_of_ble_eq_true rfl) rfl ⟨Nat.le_refl _, Nat.le_refl _⟩ d_Re_roomLine_132 (fun s_23 H locs h hP hD hS => ?_)
      exact hret _ _ _ _ _ _ ls h hP hD hS (Nat.le_refl _) (Nat.le_refl _) d_Re_roomLine_135
    refine lv_if_ne (tgt := 101) G.1 G.2.1 d_Re_roomLine_64 (by decide) (fun c64 => ?_) (fun c64 => ?_)
    · skip
      have h := h.1 c64
      exact J_101 s_j59 x1j59 x2j59 H locs h hP hD hS ls (lv_sub hl [1, 2, 3] rfl)
    · skip
      have h := h.2 c64
      refine lv_iload_n G.1 G.2.1 d_Re_roomLine_67 rfl (lv_at hl 3 rfl) ?_
      refine lv_aload_n G.1 G.2.1 d_Re_roomLine_68 rfl (lv_at hl 1 rfl) ?_
      refine ugf (v := .ref (ad (lk a0 2))) G hP h_a0 iRe rfl 2 (by decide) rfl q589 rfl rfl d_Re_roomLine_69 ?_
      refine lv_aload_n G.1 G.2.1 d_Re_roomLine_72 rfl (lv_at hl 1 rfl) ?_
      obtain ⟨b_24, e_25, c_26, h⟩ := h
      refine ugf (v := .ref (ad b_24)) G hP h_a0 iRe rfl 4 (by decide) rfl q591 rfl (by show va_rf ((sO s_j59 a0 4).map ad) = _; rw [e_25]; rfl) d_Re_roomLine_73 ?_
      refine ugf (v := .ref (ad (lk b_24 9))) G hP c_26 iWd rfl 9 (by decide) rfl q840 rfl rfl d_Re_roomLine_76 ?_
      refine ugf (v := .ref (yP y (lk b_24 9) 0)) G hP (lk_9_9 c_26) iIn rfl 0 (by decide) rfl q387 rfl rfl d_Re_roomLine_79 ?_
      refine W.eq (g2 := F0 m 82 ls [.ref (yP y (lk b_24 9) 0), .ref (ad (lk a0 2)), .int x2j59]) rfl ?_
      refine lv_aload_n G.1 G.2.1 d_Re_roomLine_82 rfl (lv_at hl 1 rfl) ?_
      refine ugf (v := .int (sV s_j59 a0 10)) G hP h_a0 iRe rfl 10 (by decide) rfl q597 rfl rfl d_Re_roomLine_83 ?_
      refine uiald G hP (kdp (lk_9_9 c_26) rfl) (typ (lk_9_9 c_26) rfl) h d_Re_roomLine_86 (fun x_27 h => ?_)
      refine ucVi (As := [.int x_27]) (rest := [.int x2j59]) G hP hD hS (cu_Na_argumentsOf l D g ad y _ s_j59 (lk a0 2) x_27 H.size (lk_6_2 h_a0) h) w9_Na_argumentsOf q1355 ⟨Nat.le_of_ble_eq_true rfl, Nat.le_of_ble_eq_true rfl⟩ rfl rfl (lk_6_2 h_a0) (q := (RNa, TNa, 11)) rfl rfl hl.1 rfl (Nat.le_of_ble_eq_true rfl) rfl ⟨Nat.le_refl _, Nat.le_refl _⟩ d_Re_roomLine_87 (fun r_28 s_29 H locs h hP hD hS => ?_)
      refine lv_iload_n G.1 G.2.1 d_Re_roomLine_90 rfl (lv_at hl 0 rfl) ?_
      refine lv_iadd G.1 G.2.1 d_Re_roomLine_91 ?_
      refine lv_icmp_ge (tgt := 101) G.1 G.2.1 d_Re_roomLine_92 (by decide) (fun c92 => ?_) (fun c92 => ?_)
      · skip
        have h := h.1 c92
        exact J_101 s_29 x1j59 x2j59 H locs h hP hD hS ls (lv_sub hl [1, 2, 3] rfl)
      · skip
        have h := h.2 c92
        refine lv_aload_n G.1 G.2.1 d_Re_roomLine_95 rfl (lv_at hl 1 rfl) ?_
        refine lv_bipush (v := 13) G.1 G.2.1 d_Re_roomLine_96 (by decide) ?_
        refine ucVv (As := [.int 13]) (rest := []) G hP hD hS (cu_Re_note l D g ad y _ s_29 a0 13 H.size h_a0 h) w9_Re_note q1337 ⟨Nat.le_of_ble_eq_true rfl, Nat.le_of_ble_eq_true rfl⟩ rfl rfl h_a0 (q := (RRe, TRe, 18)) rfl rfl hl.1 rfl (Nat.le_of_ble_eq_true rfl) rfl ⟨Nat.le_refl _, Nat.le_refl _⟩ d_Re_roomLine_98 (fun s_31 H locs h hP hD hS => ?_)
        exact J_101 s_31 x1j59 x2j59 H locs h hP hD hS ls (lv_sub hl [1, 2, 3] rfl)
  refine lv_if_eq (tgt := 58) G.1 G.2.1 d_Re_roomLine_51 (by decide) (fun c51 => ?_) (fun c51 => ?_)
  · skip
    have h := h.1 c51
    refine lv_iconst (v := 1) G.1 G.2.1 d_Re_roomLine_58 (by decide) ?_
    exact J_59 s_9 r_3 r_5 1 H locs h hP hD hS ls (lv_sub hl [2, 1, 0] rfl)
  · skip
    have h := h.2 c51
    refine lv_iconst (v := 0) G.1 G.2.1 d_Re_roomLine_54 (by decide) ?_
    refine lv_goto (tgt := 59) G.1 G.2.1 d_Re_roomLine_55 (by decide) ?_
    exact J_59 s_9 r_3 r_5 0 H locs h hP hD hS ls (lv_sub hl [2, 1, 0] rfl)
def y_Re_isLabel : MethodName := ⟨"ClassWorks$Reader", "isLabel", "()Z"⟩
abbrev b_Re_isLabel : ByteArray := prog_8_method_8_code
theorem d_Re_isLabel_0 : decode b_Re_isLabel 0 = .ok (.aload_n 0, 1) := by decide +kernel
theorem d_Re_isLabel_1 : decode b_Re_isLabel 1 = .ok (.getfield 68, 3) := by decide +kernel
theorem d_Re_isLabel_4 : decode b_Re_isLabel 4 = .ok (.getfield 134, 3) := by decide +kernel
theorem d_Re_isLabel_7 : decode b_Re_isLabel 7 = .ok (.aload_n 0, 1) := by decide +kernel
theorem d_Re_isLabel_8 : decode b_Re_isLabel 8 = .ok (.getfield 27, 3) := by decide +kernel
theorem d_Re_isLabel_11 : decode b_Re_isLabel 11 = .ok (.iaload, 1) := by decide +kernel
theorem d_Re_isLabel_12 : decode b_Re_isLabel 12 = .ok (.iconst 1, 1) := by decide +kernel
theorem d_Re_isLabel_13 : decode b_Re_isLabel 13 = .ok (.if_icmp .ne 44, 3) := by decide +kernel
theorem d_Re_isLabel_16 : decode b_Re_isLabel 16 = .ok (.aload_n 0, 1) := by decide +kernel
theorem d_Re_isLabel_17 : decode b_Re_isLabel 17 = .ok (.getfield 68, 3) := by decide +kernel
theorem d_Re_isLabel_20 : decode b_Re_isLabel 20 = .ok (.getfield 134, 3) := by decide +kernel
theorem d_Re_isLabel_23 : decode b_Re_isLabel 23 = .ok (.aload_n 0, 1) := by decide +kernel
theorem d_Re_isLabel_24 : decode b_Re_isLabel 24 = .ok (.getfield 27, 3) := by decide +kernel
theorem d_Re_isLabel_27 : decode b_Re_isLabel 27 = .ok (.iconst 1, 1) := by decide +kernel
theorem d_Re_isLabel_28 : decode b_Re_isLabel 28 = .ok (.iadd, 1) := by decide +kernel
theorem d_Re_isLabel_29 : decode b_Re_isLabel 29 = .ok (.iaload, 1) := by decide +kernel
theorem d_Re_isLabel_30 : decode b_Re_isLabel 30 = .ok (.iconst 3, 1) := by decide +kernel
theorem d_Re_isLabel_31 : decode b_Re_isLabel 31 = .ok (.if_icmp .ne 26, 3) := by decide +kernel
theorem d_Re_isLabel_34 : decode b_Re_isLabel 34 = .ok (.aload_n 0, 1) := by decide +kernel
theorem d_Re_isLabel_35 : decode b_Re_isLabel 35 = .ok (.getfield 68, 3) := by decide +kernel
theorem d_Re_isLabel_38 : decode b_Re_isLabel 38 = .ok (.getfield 137, 3) := by decide +kernel
theorem d_Re_isLabel_41 : decode b_Re_isLabel 41 = .ok (.aload_n 0, 1) := by decide +kernel
theorem d_Re_isLabel_42 : decode b_Re_isLabel 42 = .ok (.getfield 27, 3) := by decide +kernel
theorem d_Re_isLabel_45 : decode b_Re_isLabel 45 = .ok (.iconst 1, 1) := by decide +kernel
theorem d_Re_isLabel_46 : decode b_Re_isLabel 46 = .ok (.iadd, 1) := by decide +kernel
theorem d_Re_isLabel_47 : decode b_Re_isLabel 47 = .ok (.iaload, 1) := by decide +kernel
theorem d_Re_isLabel_48 : decode b_Re_isLabel 48 = .ok (.bipush 58, 2) := by decide +kernel
theorem d_Re_isLabel_50 : decode b_Re_isLabel 50 = .ok (.if_icmp .ne 7, 3) := by decide +kernel
theorem d_Re_isLabel_53 : decode b_Re_isLabel 53 = .ok (.iconst 1, 1) := by decide +kernel
theorem d_Re_isLabel_54 : decode b_Re_isLabel 54 = .ok (.goto 4, 3) := by decide +kernel
theorem d_Re_isLabel_57 : decode b_Re_isLabel 57 = .ok (.iconst 0, 1) := by decide +kernel
theorem d_Re_isLabel_58 : decode b_Re_isLabel 58 = .ok (.ireturn, 1) := by decide +kernel
abbrev ru_Re_isLabel : Room := { frames := 0, cells := 0, slots := 0, locals := 0 }
def wj_Re_isLabel_58 (y : Ly) (Post : St → Int32 → Prop) (a0 : Nat) (s_j58 : St) (z0j58 : Int32) : Prop := (nb z0j58 ∧ Post s_j58 z0j58)
def wj_Re_isLabel_57 (y : Ly) (Post : St → Int32 → Prop) (a0 : Nat) (s_j57 : St) : Prop := wj_Re_isLabel_58 y Post a0 s_j57 0
def wu_Re_isLabel (y : Ly) (Post : St → Int32 → Prop) (σ : St) (a0 : Nat) : Prop := xA y σ (lk a0 3) 0 (sV σ a0 8) (fun x_1 : Int32 => ((¬ x_1 = 1 → wj_Re_isLabel_57 y Post a0 σ) ∧ (x_1 = 1 → xA y σ (lk a0 3) 0 ((sV σ a0 8) + 1) (fun x_2 : Int32 => ((¬ x_2 = 3 → wj_Re_isLabel_57 y Post a0 σ) ∧ (x_2 = 3 → xA y σ (lk a0 3) 1 ((sV σ a0 8) + 1) (fun x_3 : Int32 => ((¬ x_3 = 58 → wj_Re_isLabel_57 y Post a0 σ) ∧ (x_3 = 58 → wj_Re_isLabel_58 y Post a0 σ 1)))))))))
set_option maxHeartbeats 4000000 in
set_option maxRecDepth 100000 in
theorem cu_Re_isLabel (l : Launch) (D : va_G) (g : Nat → ClassId) (ad : Nat → Nat) (y : Ly) (Post : St → Int32 → Prop) (σ : St) (a0 : Nat) (sz : Nat) (h_a0 : cl a0 = 6) (h : wu_Re_isLabel y Post σ a0) : Met l y_Re_isLabel (mw y_Re_isLabel b_Re_isLabel 1 (some (.boolean))) ru_Re_isLabel (PC g D [] [.ref (ad a0)] sz (ws g ad y σ)) (va_Qi (fun (r : Int32) (u : St) => Post u r) (QW D (va_A (ws g ad y σ) sz) (fun u => ws g ad y u)) (va_A (ws g ad y σ) sz)) 0 0 (va_A (ws g ad y σ) sz) := by
  refine ofZ (by decide +kernel) (Nat.le_of_ble_eq_true rfl) ?_
  intro p e s m args below meth c A Q ls H locs G hsz hP hD hS hl hret
  subst hsz
  have hl : lv_has ls 1 [(0, .ref (ad a0))] := hl
  unfold wu_Re_isLabel at h
  refine lv_aload_n G.1 G.2.1 d_Re_isLabel_0 rfl (lv_at hl 0 rfl) ?_
  refine ugf (v := .ref (ad (lk a0 3))) G hP h_a0 iRe rfl 3 (by decide) rfl q590 rfl rfl d_Re_isLabel_1 ?_
  refine ugf (v := .ref (yP y (lk a0 3) 0)) G hP (lk_6_3 h_a0) iWo rfl 0 (by decide) rfl q548 rfl rfl d_Re_isLabel_4 ?_
  refine lv_aload_n G.1 G.2.1 d_Re_isLabel_7 rfl (lv_at hl 0 rfl) ?_
  refine ugf (v := .int (sV σ a0 8)) G hP h_a0 iRe rfl 8 (by decide) rfl q595 rfl rfl d_Re_isLabel_8 ?_
  refine uiald G hP (kdp (lk_6_3 h_a0) rfl) (typ (lk_6_3 h_a0) rfl) h d_Re_isLabel_11 (fun x_1 h => ?_)
  refine lv_iconst (v := 1) G.1 G.2.1 d_Re_isLabel_12 (by decide) ?_
  have J_58 : ∀ (s_j58 : St) (z0j58 : Int32) (H : Heap) (locs : List Loc), wj_Re_isLabel_58 y Post a0 s_j58 z0j58 → va_P D CL (ws g ad y s_j58) H → va_D A (ws g ad y s_j58) → va_S A s.heap H locs → ∀ ls, lv_has ls 1 [] → W p l e ru_Re_isLabel s m args below meth c H locs 0 0 Q (F0 m 58 ls [.int z0j58]) := by
    intro s_j58 z0j58 H locs h hP hD hS ls hl
    unfold wj_Re_isLabel_58 at h
    exact hret _ _ _ _ _ _ _ ls (nb_n h.1) h.2 hP hD hS (Nat.le_refl _) (Nat.le_refl _) d_Re_isLabel_58
  have J_57 : ∀ (s_j57 : St) (H : Heap) (locs : List Loc), wj_Re_isLabel_57 y Post a0 s_j57 → va_P D CL (ws g ad y s_j57) H → va_D A (ws g ad y s_j57) → va_S A s.heap H locs → ∀ ls, lv_has ls 1 [] → W p l e ru_Re_isLabel s m args below meth c H locs 0 0 Q (F0 m 57 ls []) := by
    intro s_j57 H locs h hP hD hS ls hl
    unfold wj_Re_isLabel_57 at h
    refine lv_iconst (v := 0) G.1 G.2.1 d_Re_isLabel_57 (by decide) ?_
    exact J_58 s_j57 0 H locs h hP hD hS ls (lv_sub hl [] rfl)
  refine lv_icmp_ne (tgt := 57) G.1 G.2.1 d_Re_isLabel_13 (by decide) (fun c13 => ?_) (fun c13 => ?_)
  · skip
    have h := h.1 c13
    exact J_57 σ H locs h hP hD hS ls (lv_sub hl [] rfl)
  · skip
    have h := h.2 c13
    refine lv_aload_n G.1 G.2.1 d_Re_isLabel_16 rfl (lv_at hl 0 rfl) ?_
    refine ugf (v := .ref (ad (lk a0 3))) G hP h_a0 iRe rfl 3 (by decide) rfl q590 rfl rfl d_Re_isLabel_17 ?_
    refine ugf (v := .ref (yP y (lk a0 3) 0)) G hP (lk_6_3 h_a0) iWo rfl 0 (by decide) rfl q548 rfl rfl d_Re_isLabel_20 ?_
    refine W.eq (g2 := F0 m 23 ls [.ref (yP y (lk a0 3) 0)]) rfl ?_
    refine lv_aload_n G.1 G.2.1 d_Re_isLabel_23 rfl (lv_at hl 0 rfl) ?_
    refine ugf (v := .int (sV σ a0 8)) G hP h_a0 iRe rfl 8 (by decide) rfl q595 rfl rfl d_Re_isLabel_24 ?_
    refine lv_iconst (v := 1) G.1 G.2.1 d_Re_isLabel_27 (by decide) ?_
    refine lv_iadd G.1 G.2.1 d_Re_isLabel_28 ?_
    refine uiald G hP (kdp (lk_6_3 h_a0) rfl) (typ (lk_6_3 h_a0) rfl) h d_Re_isLabel_29 (fun x_2 h => ?_)
    refine lv_iconst (v := 3) G.1 G.2.1 d_Re_isLabel_30 (by decide) ?_
    refine lv_icmp_ne (tgt := 57) G.1 G.2.1 d_Re_isLabel_31 (by decide) (fun c31 => ?_) (fun c31 => ?_)
    · skip
      have h := h.1 c31
      exact J_57 σ H locs h hP hD hS ls (lv_sub hl [] rfl)
    · skip
      have h := h.2 c31
      refine lv_aload_n G.1 G.2.1 d_Re_isLabel_34 rfl (lv_at hl 0 rfl) ?_
      refine ugf (v := .ref (ad (lk a0 3))) G hP h_a0 iRe rfl 3 (by decide) rfl q590 rfl rfl d_Re_isLabel_35 ?_
      refine ugf (v := .ref (yP y (lk a0 3) 1)) G hP (lk_6_3 h_a0) iWo rfl 1 (by decide) rfl q550 rfl rfl d_Re_isLabel_38 ?_
      refine lv_aload_n G.1 G.2.1 d_Re_isLabel_41 rfl (lv_at hl 0 rfl) ?_
      refine ugf (v := .int (sV σ a0 8)) G hP h_a0 iRe rfl 8 (by decide) rfl q595 rfl rfl d_Re_isLabel_42 ?_
      refine W.eq (g2 := F0 m 45 ls [.int (sV σ a0 8), .ref (yP y (lk a0 3) 1)]) rfl ?_
      refine lv_iconst (v := 1) G.1 G.2.1 d_Re_isLabel_45 (by decide) ?_
      refine lv_iadd G.1 G.2.1 d_Re_isLabel_46 ?_
      refine uiald G hP (kdp (lk_6_3 h_a0) rfl) (typ (lk_6_3 h_a0) rfl) h d_Re_isLabel_47 (fun x_3 h => ?_)
      refine lv_bipush (v := 58) G.1 G.2.1 d_Re_isLabel_48 (by decide) ?_
      refine lv_icmp_ne (tgt := 57) G.1 G.2.1 d_Re_isLabel_50 (by decide) (fun c50 => ?_) (fun c50 => ?_)
      · skip
        have h := h.1 c50
        exact J_57 σ H locs h hP hD hS ls (lv_sub hl [] rfl)
      · skip
        have h := h.2 c50
        refine lv_iconst (v := 1) G.1 G.2.1 d_Re_isLabel_53 (by decide) ?_
        refine lv_goto (tgt := 58) G.1 G.2.1 d_Re_isLabel_54 (by decide) ?_
        exact J_58 σ 1 H locs h hP hD hS ls (lv_sub hl [] rfl)
def y_Re_isMemberLine : MethodName := ⟨"ClassWorks$Reader", "isMemberLine", "()Z"⟩
abbrev b_Re_isMemberLine : ByteArray := prog_8_method_9_code
theorem d_Re_isMemberLine_0 : decode b_Re_isMemberLine 0 = .ok (.aload_n 0, 1) := by decide +kernel
theorem d_Re_isMemberLine_1 : decode b_Re_isMemberLine 1 = .ok (.getfield 68, 3) := by decide +kernel
theorem d_Re_isMemberLine_4 : decode b_Re_isMemberLine 4 = .ok (.getfield 137, 3) := by decide +kernel
theorem d_Re_isMemberLine_7 : decode b_Re_isMemberLine 7 = .ok (.iconst 0, 1) := by decide +kernel
theorem d_Re_isMemberLine_8 : decode b_Re_isMemberLine 8 = .ok (.iaload, 1) := by decide +kernel
theorem d_Re_isMemberLine_9 : decode b_Re_isMemberLine 9 = .ok (.istore_n 1, 1) := by decide +kernel
theorem d_Re_isMemberLine_10 : decode b_Re_isMemberLine 10 = .ok (.aload_n 0, 1) := by decide +kernel
theorem d_Re_isMemberLine_11 : decode b_Re_isMemberLine 11 = .ok (.getfield 68, 3) := by decide +kernel
theorem d_Re_isMemberLine_14 : decode b_Re_isMemberLine 14 = .ok (.getfield 134, 3) := by decide +kernel
theorem d_Re_isMemberLine_17 : decode b_Re_isMemberLine 17 = .ok (.iconst 0, 1) := by decide +kernel
theorem d_Re_isMemberLine_18 : decode b_Re_isMemberLine 18 = .ok (.iaload, 1) := by decide +kernel
theorem d_Re_isMemberLine_19 : decode b_Re_isMemberLine 19 = .ok (.iconst 1, 1) := by decide +kernel
theorem d_Re_isMemberLine_20 : decode b_Re_isMemberLine 20 = .ok (.if_icmp .ne 25, 3) := by decide +kernel
theorem d_Re_isMemberLine_23 : decode b_Re_isMemberLine 23 = .ok (.iload_n 1, 1) := by decide +kernel
theorem d_Re_isMemberLine_24 : decode b_Re_isMemberLine 24 = .ok (.bipush 31, 2) := by decide +kernel
theorem d_Re_isMemberLine_26 : decode b_Re_isMemberLine 26 = .ok (.if_icmp .eq 15, 3) := by decide +kernel
theorem d_Re_isMemberLine_29 : decode b_Re_isMemberLine 29 = .ok (.iload_n 1, 1) := by decide +kernel
theorem d_Re_isMemberLine_30 : decode b_Re_isMemberLine 30 = .ok (.bipush 32, 2) := by decide +kernel
theorem d_Re_isMemberLine_32 : decode b_Re_isMemberLine 32 = .ok (.if_icmp .eq 9, 3) := by decide +kernel
theorem d_Re_isMemberLine_35 : decode b_Re_isMemberLine 35 = .ok (.iload_n 1, 1) := by decide +kernel
theorem d_Re_isMemberLine_36 : decode b_Re_isMemberLine 36 = .ok (.bipush 36, 2) := by decide +kernel
theorem d_Re_isMemberLine_38 : decode b_Re_isMemberLine 38 = .ok (.if_icmp .ne 7, 3) := by decide +kernel
theorem d_Re_isMemberLine_41 : decode b_Re_isMemberLine 41 = .ok (.iconst 1, 1) := by decide +kernel
theorem d_Re_isMemberLine_42 : decode b_Re_isMemberLine 42 = .ok (.goto 4, 3) := by decide +kernel
theorem d_Re_isMemberLine_45 : decode b_Re_isMemberLine 45 = .ok (.iconst 0, 1) := by decide +kernel
theorem d_Re_isMemberLine_46 : decode b_Re_isMemberLine 46 = .ok (.ireturn, 1) := by decide +kernel
abbrev ru_Re_isMemberLine : Room := { frames := 0, cells := 0, slots := 0, locals := 0 }
def wj_Re_isMemberLine_46 (y : Ly) (Post : St → Int32 → Prop) (a0 : Nat) (s_j46 : St) (z0j46 : Int32) : Prop := (nb z0j46 ∧ Post s_j46 z0j46)
def wj_Re_isMemberLine_45 (y : Ly) (Post : St → Int32 → Prop) (a0 : Nat) (s_j45 : St) : Prop := wj_Re_isMemberLine_46 y Post a0 s_j45 0
def wj_Re_isMemberLine_41 (y : Ly) (Post : St → Int32 → Prop) (a0 : Nat) (s_j41 : St) : Prop := wj_Re_isMemberLine_46 y Post a0 s_j41 1
def wu_Re_isMemberLine (y : Ly) (Post : St → Int32 → Prop) (σ : St) (a0 : Nat) : Prop := xA y σ (lk a0 3) 1 0 (fun x_1 : Int32 => xA y σ (lk a0 3) 0 0 (fun x_2 : Int32 => ((¬ x_2 = 1 → wj_Re_isMemberLine_45 y Post a0 σ) ∧ (x_2 = 1 → ((x_1 = 31 → wj_Re_isMemberLine_41 y Post a0 σ) ∧ (¬ (x_1 = 31) → ((x_1 = 32 → wj_Re_isMemberLine_41 y Post a0 σ) ∧ (¬ (x_1 = 32) → ((¬ x_1 = 36 → wj_Re_isMemberLine_45 y Post a0 σ) ∧ (x_1 = 36 → wj_Re_isMemberLine_41 y Post a0 σ))))))))))
set_option maxHeartbeats 4000000 in
set_option maxRecDepth 100000 in
theorem cu_Re_isMemberLine (l : Launch) (D : va_G) (g : Nat → ClassId) (ad : Nat → Nat) (y : Ly) (Post : St → Int32 → Prop) (σ : St) (a0 : Nat) (sz : Nat) (h_a0 : cl a0 = 6) (h : wu_Re_isMemberLine y Post σ a0) : Met l y_Re_isMemberLine (mw y_Re_isMemberLine b_Re_isMemberLine 2 (some (.boolean))) ru_Re_isMemberLine (PC g D [] [.ref (ad a0)] sz (ws g ad y σ)) (va_Qi (fun (r : Int32) (u : St) => Post u r) (QW D (va_A (ws g ad y σ) sz) (fun u => ws g ad y u)) (va_A (ws g ad y σ) sz)) 0 0 (va_A (ws g ad y σ) sz) := by
  refine ofZ (by decide +kernel) (Nat.le_of_ble_eq_true rfl) ?_
  intro p e s m args below meth c A Q ls H locs G hsz hP hD hS hl hret
  subst hsz
  have hl : lv_has ls 2 [(0, .ref (ad a0))] := hl
  unfold wu_Re_isMemberLine at h
  refine lv_aload_n G.1 G.2.1 d_Re_isMemberLine_0 rfl (lv_at hl 0 rfl) ?_
  refine ugf (v := .ref (ad (lk a0 3))) G hP h_a0 iRe rfl 3 (by decide) rfl q590 rfl rfl d_Re_isMemberLine_1 ?_
  refine ugf (v := .ref (yP y (lk a0 3) 1)) G hP (lk_6_3 h_a0) iWo rfl 1 (by decide) rfl q550 rfl rfl d_Re_isMemberLine_4 ?_
  refine lv_iconst (v := 0) G.1 G.2.1 d_Re_isMemberLine_7 (by decide) ?_
  refine uiald G hP (kdp (lk_6_3 h_a0) rfl) (typ (lk_6_3 h_a0) rfl) h d_Re_isMemberLine_8 (fun x_1 h => ?_)
  refine lv_istore_n (lv' := [(1, .int x_1), (0, .ref (ad a0))]) G.1 G.2.1 d_Re_isMemberLine_9 rfl hl (by decide) rfl (fun ls hl => ?_)
  refine lv_aload_n G.1 G.2.1 d_Re_isMemberLine_10 rfl (lv_at hl 1 rfl) ?_
  refine ugf (v := .ref (ad (lk a0 3))) G hP h_a0 iRe rfl 3 (by decide) rfl q590 rfl rfl d_Re_isMemberLine_11 ?_
  refine ugf (v := .ref (yP y (lk a0 3) 0)) G hP (lk_6_3 h_a0) iWo rfl 0 (by decide) rfl q548 rfl rfl d_Re_isMemberLine_14 ?_
  refine lv_iconst (v := 0) G.1 G.2.1 d_Re_isMemberLine_17 (by decide) ?_
  refine uiald G hP (kdp (lk_6_3 h_a0) rfl) (typ (lk_6_3 h_a0) rfl) h d_Re_isMemberLine_18 (fun x_2 h => ?_)
  refine W.eq (g2 := F0 m 19 ls [.int x_2]) rfl ?_
  refine lv_iconst (v := 1) G.1 G.2.1 d_Re_isMemberLine_19 (by decide) ?_
  have J_46 : ∀ (s_j46 : St) (z0j46 : Int32) (H : Heap) (locs : List Loc), wj_Re_isMemberLine_46 y Post a0 s_j46 z0j46 → va_P D CL (ws g ad y s_j46) H → va_D A (ws g ad y s_j46) → va_S A s.heap H locs → ∀ ls, lv_has ls 2 [] → W p l e ru_Re_isMemberLine s m args below meth c H locs 0 0 Q (F0 m 46 ls [.int z0j46]) := by
    intro s_j46 z0j46 H locs h hP hD hS ls hl
    unfold wj_Re_isMemberLine_46 at h
    exact hret _ _ _ _ _ _ _ ls (nb_n h.1) h.2 hP hD hS (Nat.le_refl _) (Nat.le_refl _) d_Re_isMemberLine_46
  have J_45 : ∀ (s_j45 : St) (H : Heap) (locs : List Loc), wj_Re_isMemberLine_45 y Post a0 s_j45 → va_P D CL (ws g ad y s_j45) H → va_D A (ws g ad y s_j45) → va_S A s.heap H locs → ∀ ls, lv_has ls 2 [] → W p l e ru_Re_isMemberLine s m args below meth c H locs 0 0 Q (F0 m 45 ls []) := by
    intro s_j45 H locs h hP hD hS ls hl
    unfold wj_Re_isMemberLine_45 at h
    refine lv_iconst (v := 0) G.1 G.2.1 d_Re_isMemberLine_45 (by decide) ?_
    exact J_46 s_j45 0 H locs h hP hD hS ls (lv_sub hl [] rfl)
  refine lv_icmp_ne (tgt := 45) G.1 G.2.1 d_Re_isMemberLine_20 (by decide) (fun c20 => ?_) (fun c20 => ?_)
  · skip
    have h := h.1 c20
    exact J_45 σ H locs h hP hD hS ls (lv_sub hl [] rfl)
  · skip
    have h := h.2 c20
    refine lv_iload_n G.1 G.2.1 d_Re_isMemberLine_23 rfl (lv_at hl 0 rfl) ?_
    refine lv_bipush (v := 31) G.1 G.2.1 d_Re_isMemberLine_24 (by decide) ?_
    have J_41 : ∀ (s_j41 : St) (H : Heap) (locs : List Loc), wj_Re_isMemberLine_41 y Post a0 s_j41 → va_P D CL (ws g ad y s_j41) H → va_D A (ws g ad y s_j41) → va_S A s.heap H locs → ∀ ls, lv_has ls 2 [] → W p l e ru_Re_isMemberLine s m args below meth c H locs 0 0 Q (F0 m 41 ls []) := by
      intro s_j41 H locs h hP hD hS ls hl
      unfold wj_Re_isMemberLine_41 at h
      refine lv_iconst (v := 1) G.1 G.2.1 d_Re_isMemberLine_41 (by decide) ?_
      refine lv_goto (tgt := 46) G.1 G.2.1 d_Re_isMemberLine_42 (by decide) ?_
      exact J_46 s_j41 1 H locs h hP hD hS ls (lv_sub hl [] rfl)
    refine lv_icmp_eq (tgt := 41) G.1 G.2.1 d_Re_isMemberLine_26 (by decide) (fun c26 => ?_) (fun c26 => ?_)
    · skip
      have h := h.1 c26
      exact J_41 σ H locs h hP hD hS ls (lv_sub hl [] rfl)
    · skip
      have h := h.2 c26
      refine lv_iload_n G.1 G.2.1 d_Re_isMemberLine_29 rfl (lv_at hl 0 rfl) ?_
      refine lv_bipush (v := 32) G.1 G.2.1 d_Re_isMemberLine_30 (by decide) ?_
      refine lv_icmp_eq (tgt := 41) G.1 G.2.1 d_Re_isMemberLine_32 (by decide) (fun c32 => ?_) (fun c32 => ?_)
      · skip
        have h := h.1 c32
        exact J_41 σ H locs h hP hD hS ls (lv_sub hl [] rfl)
      · skip
        have h := h.2 c32
        refine lv_iload_n G.1 G.2.1 d_Re_isMemberLine_35 rfl (lv_at hl 0 rfl) ?_
        refine lv_bipush (v := 36) G.1 G.2.1 d_Re_isMemberLine_36 (by decide) ?_
        refine lv_icmp_ne (tgt := 45) G.1 G.2.1 d_Re_isMemberLine_38 (by decide) (fun c38 => ?_) (fun c38 => ?_)
        · skip
          have h := h.1 c38
          exact J_45 σ H locs h hP hD hS ls (lv_sub hl [] rfl)
        · skip
          have h := h.2 c38
          exact J_41 σ H locs h hP hD hS ls (lv_sub hl [] rfl)
def y_Re_labelAt : MethodName := ⟨"ClassWorks$Reader", "labelAt", "(I)I"⟩
abbrev b_Re_labelAt : ByteArray := prog_8_method_26_code
theorem q600 : Cond.fieldLink "ClassWorks$Reader" 48 "ClassWorks$Reader" "labels" "LClassWorks$Ints;" ∈ lw_ok := lw_okmem (List.mem_of_getElem? (i := 600) (by decide +kernel)) rfl
theorem q396 : Cond.fieldLink "ClassWorks$Reader" 230 "ClassWorks$Ints" "size" "I" ∈ lw_ok := lw_okmem (List.mem_of_getElem? (i := 396) (by decide +kernel)) rfl
theorem d_Re_labelAt_0 : decode b_Re_labelAt 0 = .ok (.iconst 0, 1) := by decide +kernel
theorem d_Re_labelAt_1 : decode b_Re_labelAt 1 = .ok (.istore_n 2, 1) := by decide +kernel
theorem d_Re_labelAt_2 : decode b_Re_labelAt 2 = .ok (.iload_n 2, 1) := by decide +kernel
theorem d_Re_labelAt_3 : decode b_Re_labelAt 3 = .ok (.aload_n 0, 1) := by decide +kernel
theorem d_Re_labelAt_4 : decode b_Re_labelAt 4 = .ok (.getfield 48, 3) := by decide +kernel
theorem d_Re_labelAt_7 : decode b_Re_labelAt 7 = .ok (.getfield 230, 3) := by decide +kernel
theorem d_Re_labelAt_10 : decode b_Re_labelAt 10 = .ok (.if_icmp .ge 34, 3) := by decide +kernel
theorem d_Re_labelAt_13 : decode b_Re_labelAt 13 = .ok (.aload_n 0, 1) := by decide +kernel
theorem d_Re_labelAt_14 : decode b_Re_labelAt 14 = .ok (.getfield 48, 3) := by decide +kernel
theorem d_Re_labelAt_17 : decode b_Re_labelAt 17 = .ok (.getfield 236, 3) := by decide +kernel
theorem d_Re_labelAt_20 : decode b_Re_labelAt 20 = .ok (.iload_n 2, 1) := by decide +kernel
theorem d_Re_labelAt_21 : decode b_Re_labelAt 21 = .ok (.iaload, 1) := by decide +kernel
theorem d_Re_labelAt_22 : decode b_Re_labelAt 22 = .ok (.iload_n 1, 1) := by decide +kernel
theorem d_Re_labelAt_23 : decode b_Re_labelAt 23 = .ok (.if_icmp .ne 15, 3) := by decide +kernel
theorem d_Re_labelAt_26 : decode b_Re_labelAt 26 = .ok (.aload_n 0, 1) := by decide +kernel
theorem d_Re_labelAt_27 : decode b_Re_labelAt 27 = .ok (.getfield 48, 3) := by decide +kernel
theorem d_Re_labelAt_30 : decode b_Re_labelAt 30 = .ok (.getfield 236, 3) := by decide +kernel
theorem d_Re_labelAt_33 : decode b_Re_labelAt 33 = .ok (.iload_n 2, 1) := by decide +kernel
theorem d_Re_labelAt_34 : decode b_Re_labelAt 34 = .ok (.iconst 1, 1) := by decide +kernel
theorem d_Re_labelAt_35 : decode b_Re_labelAt 35 = .ok (.iadd, 1) := by decide +kernel
theorem d_Re_labelAt_36 : decode b_Re_labelAt 36 = .ok (.iaload, 1) := by decide +kernel
theorem d_Re_labelAt_37 : decode b_Re_labelAt 37 = .ok (.ireturn, 1) := by decide +kernel
theorem d_Re_labelAt_38 : decode b_Re_labelAt 38 = .ok (.iinc 2 2, 3) := by decide +kernel
theorem d_Re_labelAt_41 : decode b_Re_labelAt 41 = .ok (.goto (-39), 3) := by decide +kernel
theorem d_Re_labelAt_44 : decode b_Re_labelAt 44 = .ok (.iconst (-1), 1) := by decide +kernel
theorem d_Re_labelAt_45 : decode b_Re_labelAt 45 = .ok (.ireturn, 1) := by decide +kernel
abbrev ru_Re_labelAt : Room := { frames := 0, cells := 0, slots := 0, locals := 0 }
def wb_Re_labelAt_2 (y : Ly) (Post : St → Int32 → Prop) (K_2 : St → Int32 → Int32 → Prop) (a0 : Nat) (s_h2 : St) (x1h2 : Int32) (x2h2 : Int32) : Prop := (((sV s_h2 (lk a0 13) 1) ≤ x2h2 → Post s_h2 (-1)) ∧ (¬ ((sV s_h2 (lk a0 13) 1) ≤ x2h2) → xA y s_h2 (lk a0 13) 0 x2h2 (fun x_1 : Int32 => ((¬ x_1 = x1h2 → K_2 s_h2 x1h2 (x2h2 + 2)) ∧ (x_1 = x1h2 → xA y s_h2 (lk a0 13) 0 (x2h2 + 1) (fun x_2 : Int32 => Post s_h2 x_2))))))
def wl_Re_labelAt_2 (y : Ly) (Post : St → Int32 → Prop) (a0 : Nat) (s_h2 : St) (x1h2 : Int32) (x2h2 : Int32) : Prop := ∃ (I : St → Int32 → Int32 → Prop) (μ : St → Int32 → Int32 → Nat), I s_h2 x1h2 x2h2 ∧ ∀ (u : St) (t0 : Int32) (t1 : Int32), I u t0 t1 → wb_Re_labelAt_2 y Post (fun z t0q t1q => I z t0q t1q ∧ μ z t0q t1q < μ u t0 t1) a0 u t0 t1
def wu_Re_labelAt (y : Ly) (Post : St → Int32 → Prop) (σ : St) (a0 : Nat) (v1 : Int32) : Prop := wl_Re_labelAt_2 y Post a0 σ v1 0
set_option maxHeartbeats 4000000 in
set_option maxRecDepth 100000 in
theorem cu_Re_labelAt (l : Launch) (D : va_G) (g : Nat → ClassId) (ad : Nat → Nat) (y : Ly) (Post : St → Int32 → Prop) (σ : St) (a0 : Nat) (v1 : Int32) (sz : Nat) (h_a0 : cl a0 = 6) (h : wu_Re_labelAt y Post σ a0 v1) : Met l y_Re_labelAt (mw y_Re_labelAt b_Re_labelAt 3 (some .int)) ru_Re_labelAt (PC g D [] [.ref (ad a0), .int v1] sz (ws g ad y σ)) (va_Qi (fun (r : Int32) (u : St) => Post u r) (QW D (va_A (ws g ad y σ) sz) (fun u => ws g ad y u)) (va_A (ws g ad y σ) sz)) 0 0 (va_A (ws g ad y σ) sz) := by
  refine ofI (by decide +kernel) (Nat.le_of_ble_eq_true rfl) ?_
  intro p e s m args below meth c A Q ls H locs G hsz hP hD hS hl hret
  subst hsz
  have hl : lv_has ls 3 [(0, .ref (ad a0)), (1, .int v1)] := hl
  unfold wu_Re_labelAt at h
  refine lv_iconst (v := 0) G.1 G.2.1 d_Re_labelAt_0 (by decide) ?_
  refine lv_istore_n (lv' := [(2, .int 0), (0, .ref (ad a0)), (1, .int v1)]) G.1 G.2.1 d_Re_labelAt_1 rfl hl (by decide) rfl (fun ls hl => ?_)
  unfold wl_Re_labelAt_2 at h
  obtain ⟨I_2, μ_2, hI_2, hB_2⟩ := h
  have L_2 : ∀ (n_2 : Nat) (s_h2 : St) (x1h2 : Int32) (x2h2 : Int32), μ_2 s_h2 x1h2 x2h2 < n_2 → I_2 s_h2 x1h2 x2h2 → ∀ (H : Heap) (locs : List Loc), va_P D CL (ws g ad y s_h2) H → va_D A (ws g ad y s_h2) → va_S A s.heap H locs → ∀ ls, lv_has ls 3 [(0, .ref (ad a0)), (1, .int x1h2), (2, .int x2h2)] → W p l e ru_Re_labelAt s m args below meth c H locs 0 0 Q (F0 m 2 ls []) := by
    intro n_2
    induction n_2 with
    | zero => intro s_h2 x1h2 x2h2 hμ; exact absurd hμ (Nat.not_lt_zero _)
    | succ n_2 ih_2 =>
      intro s_h2 x1h2 x2h2 hμ_2 hJ H locs hP hD hS ls hl
      obtain ⟨K_2, hK_2, h⟩ : ∃ K : St → Int32 → Int32 → Prop, (∀ z (t0 : Int32) (t1 : Int32), K z t0 t1 → I_2 z t0 t1 ∧ μ_2 z t0 t1 < μ_2 s_h2 x1h2 x2h2) ∧ wb_Re_labelAt_2 y Post K a0 s_h2 x1h2 x2h2 := ⟨_, fun _ _ _ h => h, hB_2 s_h2 x1h2 x2h2 hJ⟩
      unfold wb_Re_labelAt_2 at h
      refine lv_iload_n G.1 G.2.1 d_Re_labelAt_2 rfl (lv_at hl 2 rfl) ?_
      refine lv_aload_n G.1 G.2.1 d_Re_labelAt_3 rfl (lv_at hl 0 rfl) ?_
      refine ugf (v := .ref (ad (lk a0 13))) G hP h_a0 iRe rfl 13 (by decide) rfl q600 rfl rfl d_Re_labelAt_4 ?_
      refine ugf (v := .int (sV s_h2 (lk a0 13) 1)) G hP (lk_6_13 h_a0) iIn rfl 1 (by decide) rfl q396 rfl rfl d_Re_labelAt_7 ?_
      refine lv_icmp_ge (tgt := 44) G.1 G.2.1 d_Re_labelAt_10 (by decide) (fun c10 => ?_) (fun c10 => ?_)
      · skip
        have h := h.1 c10
        refine lv_iconst (v := (-1)) G.1 G.2.1 d_Re_labelAt_44 (by decide) ?_
        exact hret _ _ _ _ _ _ _ ls h hP hD hS (Nat.le_refl _) (Nat.le_refl _) d_Re_labelAt_45
      · skip
        have h := h.2 c10
        refine lv_aload_n G.1 G.2.1 d_Re_labelAt_13 rfl (lv_at hl 0 rfl) ?_
        refine ugf (v := .ref (ad (lk a0 13))) G hP h_a0 iRe rfl 13 (by decide) rfl q600 rfl rfl d_Re_labelAt_14 ?_
        refine ugf (v := .ref (yP y (lk a0 13) 0)) G hP (lk_6_13 h_a0) iIn rfl 0 (by decide) rfl q387 rfl rfl d_Re_labelAt_17 ?_
        refine lv_iload_n G.1 G.2.1 d_Re_labelAt_20 rfl (lv_at hl 2 rfl) ?_
        refine uiald G hP (kdp (lk_6_13 h_a0) rfl) (typ (lk_6_13 h_a0) rfl) h d_Re_labelAt_21 (fun x_1 h => ?_)
        refine lv_iload_n G.1 G.2.1 d_Re_labelAt_22 rfl (lv_at hl 1 rfl) ?_
        refine W.eq (g2 := F0 m 23 ls [.int x1h2, .int x_1]) rfl ?_
        refine lv_icmp_ne (tgt := 38) G.1 G.2.1 d_Re_labelAt_23 (by decide) (fun c23 => ?_) (fun c23 => ?_)
        · skip
          have h := h.1 c23
          refine lv_iinc (v := x2h2 + 2) (lv' := [(2, .int (x2h2 + 2)), (0, .ref (ad a0)), (1, .int x1h2)]) G.1 G.2.1 d_Re_labelAt_38 hl (k := 2) rfl rfl (by decide) rfl (fun ls hl => ?_)
          refine lv_goto (tgt := 2) G.1 G.2.1 d_Re_labelAt_41 (by decide) ?_
          have h := hK_2 s_h2 x1h2 (x2h2 + 2) h
          exact ih_2 s_h2 x1h2 (x2h2 + 2) (Nat.lt_of_lt_of_le h.2 (Nat.le_of_lt_succ hμ_2)) h.1 H locs hP hD hS ls (lv_sub hl [1, 2, 0] rfl)
        · skip
          have h := h.2 c23
          refine lv_aload_n G.1 G.2.1 d_Re_labelAt_26 rfl (lv_at hl 0 rfl) ?_
          refine ugf (v := .ref (ad (lk a0 13))) G hP h_a0 iRe rfl 13 (by decide) rfl q600 rfl rfl d_Re_labelAt_27 ?_
          refine ugf (v := .ref (yP y (lk a0 13) 0)) G hP (lk_6_13 h_a0) iIn rfl 0 (by decide) rfl q387 rfl rfl d_Re_labelAt_30 ?_
          refine lv_iload_n G.1 G.2.1 d_Re_labelAt_33 rfl (lv_at hl 2 rfl) ?_
          refine lv_iconst (v := 1) G.1 G.2.1 d_Re_labelAt_34 (by decide) ?_
          refine lv_iadd G.1 G.2.1 d_Re_labelAt_35 ?_
          refine uiald G hP (kdp (lk_6_13 h_a0) rfl) (typ (lk_6_13 h_a0) rfl) h d_Re_labelAt_36 (fun x_2 h => ?_)
          exact hret _ _ _ _ _ _ _ ls h hP hD hS (Nat.le_refl _) (Nat.le_refl _) d_Re_labelAt_37
  exact L_2 _ σ v1 0 (Nat.lt_succ_self _) hI_2 H locs hP hD hS ls (lv_sub hl [1, 2, 0] rfl)
def y_Re_isKey : MethodName := ⟨"ClassWorks$Reader", "isKey", "(I)Z"⟩
abbrev b_Re_isKey : ByteArray := prog_8_method_6_code
theorem d_Re_isKey_0 : decode b_Re_isKey 0 = .ok (.aload_n 0, 1) := by decide +kernel
theorem d_Re_isKey_1 : decode b_Re_isKey 1 = .ok (.getfield 68, 3) := by decide +kernel
theorem d_Re_isKey_4 : decode b_Re_isKey 4 = .ok (.getfield 134, 3) := by decide +kernel
theorem d_Re_isKey_7 : decode b_Re_isKey 7 = .ok (.aload_n 0, 1) := by decide +kernel
theorem d_Re_isKey_8 : decode b_Re_isKey 8 = .ok (.getfield 27, 3) := by decide +kernel
theorem d_Re_isKey_11 : decode b_Re_isKey 11 = .ok (.iaload, 1) := by decide +kernel
theorem d_Re_isKey_12 : decode b_Re_isKey 12 = .ok (.iconst 1, 1) := by decide +kernel
theorem d_Re_isKey_13 : decode b_Re_isKey 13 = .ok (.if_icmp .ne 23, 3) := by decide +kernel
theorem d_Re_isKey_16 : decode b_Re_isKey 16 = .ok (.aload_n 0, 1) := by decide +kernel
theorem d_Re_isKey_17 : decode b_Re_isKey 17 = .ok (.getfield 68, 3) := by decide +kernel
theorem d_Re_isKey_20 : decode b_Re_isKey 20 = .ok (.getfield 137, 3) := by decide +kernel
theorem d_Re_isKey_23 : decode b_Re_isKey 23 = .ok (.aload_n 0, 1) := by decide +kernel
theorem d_Re_isKey_24 : decode b_Re_isKey 24 = .ok (.getfield 27, 3) := by decide +kernel
theorem d_Re_isKey_27 : decode b_Re_isKey 27 = .ok (.iaload, 1) := by decide +kernel
theorem d_Re_isKey_28 : decode b_Re_isKey 28 = .ok (.iload_n 1, 1) := by decide +kernel
theorem d_Re_isKey_29 : decode b_Re_isKey 29 = .ok (.if_icmp .ne 7, 3) := by decide +kernel
theorem d_Re_isKey_32 : decode b_Re_isKey 32 = .ok (.iconst 1, 1) := by decide +kernel
theorem d_Re_isKey_33 : decode b_Re_isKey 33 = .ok (.goto 4, 3) := by decide +kernel
theorem d_Re_isKey_36 : decode b_Re_isKey 36 = .ok (.iconst 0, 1) := by decide +kernel
theorem d_Re_isKey_37 : decode b_Re_isKey 37 = .ok (.ireturn, 1) := by decide +kernel
abbrev ru_Re_isKey : Room := { frames := 0, cells := 0, slots := 0, locals := 0 }
def wj_Re_isKey_37 (y : Ly) (Post : St → Int32 → Prop) (a0 : Nat) (s_j37 : St) (z0j37 : Int32) : Prop := (nb z0j37 ∧ Post s_j37 z0j37)
def wj_Re_isKey_36 (y : Ly) (Post : St → Int32 → Prop) (a0 : Nat) (s_j36 : St) : Prop := wj_Re_isKey_37 y Post a0 s_j36 0
def wu_Re_isKey (y : Ly) (Post : St → Int32 → Prop) (σ : St) (a0 : Nat) (v1 : Int32) : Prop := xA y σ (lk a0 3) 0 (sV σ a0 8) (fun x_1 : Int32 => ((¬ x_1 = 1 → wj_Re_isKey_36 y Post a0 σ) ∧ (x_1 = 1 → xA y σ (lk a0 3) 1 (sV σ a0 8) (fun x_2 : Int32 => ((¬ x_2 = v1 → wj_Re_isKey_36 y Post a0 σ) ∧ (x_2 = v1 → wj_Re_isKey_37 y Post a0 σ 1))))))
set_option maxHeartbeats 4000000 in
set_option maxRecDepth 100000 in
theorem cu_Re_isKey (l : Launch) (D : va_G) (g : Nat → ClassId) (ad : Nat → Nat) (y : Ly) (Post : St → Int32 → Prop) (σ : St) (a0 : Nat) (v1 : Int32) (sz : Nat) (h_a0 : cl a0 = 6) (h : wu_Re_isKey y Post σ a0 v1) : Met l y_Re_isKey (mw y_Re_isKey b_Re_isKey 2 (some (.boolean))) ru_Re_isKey (PC g D [] [.ref (ad a0), .int v1] sz (ws g ad y σ)) (va_Qi (fun (r : Int32) (u : St) => Post u r) (QW D (va_A (ws g ad y σ) sz) (fun u => ws g ad y u)) (va_A (ws g ad y σ) sz)) 0 0 (va_A (ws g ad y σ) sz) := by
  refine ofZ (by decide +kernel) (Nat.le_of_ble_eq_true rfl) ?_
  intro p e s m args below meth c A Q ls H locs G hsz hP hD hS hl hret
  subst hsz
  have hl : lv_has ls 2 [(0, .ref (ad a0)), (1, .int v1)] := hl
  unfold wu_Re_isKey at h
  refine lv_aload_n G.1 G.2.1 d_Re_isKey_0 rfl (lv_at hl 0 rfl) ?_
  refine ugf (v := .ref (ad (lk a0 3))) G hP h_a0 iRe rfl 3 (by decide) rfl q590 rfl rfl d_Re_isKey_1 ?_
  refine ugf (v := .ref (yP y (lk a0 3) 0)) G hP (lk_6_3 h_a0) iWo rfl 0 (by decide) rfl q548 rfl rfl d_Re_isKey_4 ?_
  refine lv_aload_n G.1 G.2.1 d_Re_isKey_7 rfl (lv_at hl 0 rfl) ?_
  refine ugf (v := .int (sV σ a0 8)) G hP h_a0 iRe rfl 8 (by decide) rfl q595 rfl rfl d_Re_isKey_8 ?_
  refine uiald G hP (kdp (lk_6_3 h_a0) rfl) (typ (lk_6_3 h_a0) rfl) h d_Re_isKey_11 (fun x_1 h => ?_)
  refine lv_iconst (v := 1) G.1 G.2.1 d_Re_isKey_12 (by decide) ?_
  have J_37 : ∀ (s_j37 : St) (z0j37 : Int32) (H : Heap) (locs : List Loc), wj_Re_isKey_37 y Post a0 s_j37 z0j37 → va_P D CL (ws g ad y s_j37) H → va_D A (ws g ad y s_j37) → va_S A s.heap H locs → ∀ ls, lv_has ls 2 [] → W p l e ru_Re_isKey s m args below meth c H locs 0 0 Q (F0 m 37 ls [.int z0j37]) := by
    intro s_j37 z0j37 H locs h hP hD hS ls hl
    unfold wj_Re_isKey_37 at h
    exact hret _ _ _ _ _ _ _ ls (nb_n h.1) h.2 hP hD hS (Nat.le_refl _) (Nat.le_refl _) d_Re_isKey_37
  have J_36 : ∀ (s_j36 : St) (H : Heap) (locs : List Loc), wj_Re_isKey_36 y Post a0 s_j36 → va_P D CL (ws g ad y s_j36) H → va_D A (ws g ad y s_j36) → va_S A s.heap H locs → ∀ ls, lv_has ls 2 [] → W p l e ru_Re_isKey s m args below meth c H locs 0 0 Q (F0 m 36 ls []) := by
    intro s_j36 H locs h hP hD hS ls hl
    unfold wj_Re_isKey_36 at h
    refine lv_iconst (v := 0) G.1 G.2.1 d_Re_isKey_36 (by decide) ?_
    exact J_37 s_j36 0 H locs h hP hD hS ls (lv_sub hl [] rfl)
  refine lv_icmp_ne (tgt := 36) G.1 G.2.1 d_Re_isKey_13 (by decide) (fun c13 => ?_) (fun c13 => ?_)
  · skip
    have h := h.1 c13
    exact J_36 σ H locs h hP hD hS ls (lv_sub hl [] rfl)
  · skip
    have h := h.2 c13
    refine lv_aload_n G.1 G.2.1 d_Re_isKey_16 rfl (lv_at hl 0 rfl) ?_
    refine ugf (v := .ref (ad (lk a0 3))) G hP h_a0 iRe rfl 3 (by decide) rfl q590 rfl rfl d_Re_isKey_17 ?_
    refine ugf (v := .ref (yP y (lk a0 3) 1)) G hP (lk_6_3 h_a0) iWo rfl 1 (by decide) rfl q550 rfl rfl d_Re_isKey_20 ?_
    refine W.eq (g2 := F0 m 23 ls [.ref (yP y (lk a0 3) 1)]) rfl ?_
    refine lv_aload_n G.1 G.2.1 d_Re_isKey_23 rfl (lv_at hl 0 rfl) ?_
    refine ugf (v := .int (sV σ a0 8)) G hP h_a0 iRe rfl 8 (by decide) rfl q595 rfl rfl d_Re_isKey_24 ?_
    refine uiald G hP (kdp (lk_6_3 h_a0) rfl) (typ (lk_6_3 h_a0) rfl) h d_Re_isKey_27 (fun x_2 h => ?_)
    refine lv_iload_n G.1 G.2.1 d_Re_isKey_28 rfl (lv_at hl 1 rfl) ?_
    refine lv_icmp_ne (tgt := 36) G.1 G.2.1 d_Re_isKey_29 (by decide) (fun c29 => ?_) (fun c29 => ?_)
    · skip
      have h := h.1 c29
      exact J_36 σ H locs h hP hD hS ls (lv_sub hl [] rfl)
    · skip
      have h := h.2 c29
      refine lv_iconst (v := 1) G.1 G.2.1 d_Re_isKey_32 (by decide) ?_
      refine lv_goto (tgt := 37) G.1 G.2.1 d_Re_isKey_33 (by decide) ?_
      exact J_37 σ 1 H locs h hP hD hS ls (lv_sub hl [] rfl)
def y_Na_operation : MethodName := ⟨"ClassWorks$Names", "operation", "(I)I"⟩
abbrev b_Na_operation : ByteArray := prog_7_method_7_code
theorem q511 : Cond.fieldLink "ClassWorks$Names" 39 "ClassWorks$Names" "operationOf" "[I" ∈ lw_ok := lw_okmem (List.mem_of_getElem? (i := 511) (by decide +kernel)) rfl
theorem d_Na_operation_0 : decode b_Na_operation 0 = .ok (.iload_n 1, 1) := by decide +kernel
theorem d_Na_operation_1 : decode b_Na_operation 1 = .ok (.sipush 128, 3) := by decide +kernel
theorem d_Na_operation_4 : decode b_Na_operation 4 = .ok (.if_icmp .ge 12, 3) := by decide +kernel
theorem d_Na_operation_7 : decode b_Na_operation 7 = .ok (.aload_n 0, 1) := by decide +kernel
theorem d_Na_operation_8 : decode b_Na_operation 8 = .ok (.getfield 39, 3) := by decide +kernel
theorem d_Na_operation_11 : decode b_Na_operation 11 = .ok (.iload_n 1, 1) := by decide +kernel
theorem d_Na_operation_12 : decode b_Na_operation 12 = .ok (.iaload, 1) := by decide +kernel
theorem d_Na_operation_13 : decode b_Na_operation 13 = .ok (.goto 4, 3) := by decide +kernel
theorem d_Na_operation_16 : decode b_Na_operation 16 = .ok (.iconst (-1), 1) := by decide +kernel
theorem d_Na_operation_17 : decode b_Na_operation 17 = .ok (.ireturn, 1) := by decide +kernel
abbrev ru_Na_operation : Room := { frames := 0, cells := 0, slots := 0, locals := 0 }
def wj_Na_operation_17 (y : Ly) (Post : St → Int32 → Prop) (a0 : Nat) (s_j17 : St) (z0j17 : Int32) : Prop := Post s_j17 z0j17
def wu_Na_operation (y : Ly) (Post : St → Int32 → Prop) (σ : St) (a0 : Nat) (v1 : Int32) : Prop := ((128 ≤ v1 → wj_Na_operation_17 y Post a0 σ (-1)) ∧ (¬ (128 ≤ v1) → xA y σ a0 7 v1 (fun x_1 : Int32 => wj_Na_operation_17 y Post a0 σ x_1)))
set_option maxHeartbeats 4000000 in
set_option maxRecDepth 100000 in
theorem cu_Na_operation (l : Launch) (D : va_G) (g : Nat → ClassId) (ad : Nat → Nat) (y : Ly) (Post : St → Int32 → Prop) (σ : St) (a0 : Nat) (v1 : Int32) (sz : Nat) (h_a0 : cl a0 = 5) (h : wu_Na_operation y Post σ a0 v1) : Met l y_Na_operation (mw y_Na_operation b_Na_operation 2 (some .int)) ru_Na_operation (PC g D [] [.ref (ad a0), .int v1] sz (ws g ad y σ)) (va_Qi (fun (r : Int32) (u : St) => Post u r) (QW D (va_A (ws g ad y σ) sz) (fun u => ws g ad y u)) (va_A (ws g ad y σ) sz)) 0 0 (va_A (ws g ad y σ) sz) := by
  refine ofI (by decide +kernel) (Nat.le_of_ble_eq_true rfl) ?_
  intro p e s m args below meth c A Q ls H locs G hsz hP hD hS hl hret
  subst hsz
  have hl : lv_has ls 2 [(0, .ref (ad a0)), (1, .int v1)] := hl
  unfold wu_Na_operation at h
  refine lv_iload_n G.1 G.2.1 d_Na_operation_0 rfl (lv_at hl 1 rfl) ?_
  refine lv_sipush (v := 128) G.1 G.2.1 d_Na_operation_1 (by decide) ?_
  have J_17 : ∀ (s_j17 : St) (z0j17 : Int32) (H : Heap) (locs : List Loc), wj_Na_operation_17 y Post a0 s_j17 z0j17 → va_P D CL (ws g ad y s_j17) H → va_D A (ws g ad y s_j17) → va_S A s.heap H locs → ∀ ls, lv_has ls 2 [] → W p l e ru_Na_operation s m args below meth c H locs 0 0 Q (F0 m 17 ls [.int z0j17]) := by
    intro s_j17 z0j17 H locs h hP hD hS ls hl
    unfold wj_Na_operation_17 at h
    exact hret _ _ _ _ _ _ _ ls h hP hD hS (Nat.le_refl _) (Nat.le_refl _) d_Na_operation_17
  refine lv_icmp_ge (tgt := 16) G.1 G.2.1 d_Na_operation_4 (by decide) (fun c4 => ?_) (fun c4 => ?_)
  · skip
    have h := h.1 c4
    refine lv_iconst (v := (-1)) G.1 G.2.1 d_Na_operation_16 (by decide) ?_
    exact J_17 σ (-1) H locs h hP hD hS ls (lv_sub hl [] rfl)
  · skip
    have h := h.2 c4
    refine lv_aload_n G.1 G.2.1 d_Na_operation_7 rfl (lv_at hl 0 rfl) ?_
    refine ugf (v := .ref (yP y a0 7)) G hP h_a0 iNa rfl 7 (by decide) rfl q511 rfl rfl d_Na_operation_8 ?_
    refine lv_iload_n G.1 G.2.1 d_Na_operation_11 rfl (lv_at hl 1 rfl) ?_
    refine uiald G hP (kdp h_a0 rfl) (typ h_a0 rfl) h d_Na_operation_12 (fun x_1 h => ?_)
    refine lv_goto (tgt := 17) G.1 G.2.1 d_Na_operation_13 (by decide) ?_
    exact J_17 σ x_1 H locs h hP hD hS ls (lv_sub hl [] rfl)
theorem q599 : Cond.fieldLink "ClassWorks$Reader" 40 "ClassWorks$Reader" "typeCount" "I" ∈ lw_ok := lw_okmem (List.mem_of_getElem? (i := 599) (by decide +kernel)) rfl
theorem q1325 : Cond.methodLink "ClassWorks$Reader" 151 y_Re_isSign ∈ lw_ok := lw_okmem (List.mem_of_getElem? (i := 1325) (by decide +kernel)) rfl
theorem q1328 : Cond.code y_Re_isSign b_Re_isSign 2 (some (.boolean)) ∈ lw_ok := lw_okmem (List.mem_of_getElem? (i := 1328) (by decide +kernel)) rfl
theorem q1327 : Cond.instanceMethod y_Re_isSign ∈ lw_ok := lw_okmem (List.mem_of_getElem? (i := 1327) (by decide +kernel)) rfl
theorem q20 : Cond.selects y_Re_isSign.cls y_Re_isSign y_Re_isSign ∈ lw_ok := lw_okmem (List.mem_of_getElem? (i := 20) (by decide +kernel)) rfl
theorem w9_Re_isSign : CWv y_Re_isSign b_Re_isSign 2 (some (.boolean)) 1 ∧ Cond.instanceMethod y_Re_isSign ∈ lw_ok ∧ Cond.selects y_Re_isSign.cls y_Re_isSign y_Re_isSign ∈ lw_ok := ⟨⟨q1328, q340, by decide +kernel, by decide +kernel, by decide +kernel⟩, q1327, q20⟩
def y_Re_takeTypes : MethodName := ⟨"ClassWorks$Reader", "takeTypes", "(CZ)V"⟩
abbrev b_Re_takeTypes : ByteArray := prog_8_method_18_code
theorem q598 : Cond.fieldLink "ClassWorks$Reader" 36 "ClassWorks$Reader" "types" "[I" ∈ lw_ok := lw_okmem (List.mem_of_getElem? (i := 598) (by decide +kernel)) rfl
theorem d_Re_takeTypes_0 : decode b_Re_takeTypes 0 = .ok (.aload_n 0, 1) := by decide +kernel
theorem d_Re_takeTypes_1 : decode b_Re_takeTypes 1 = .ok (.bipush 40, 2) := by decide +kernel
theorem d_Re_takeTypes_3 : decode b_Re_takeTypes 3 = .ok (.invokevirtual 147, 3) := by decide +kernel
theorem d_Re_takeTypes_6 : decode b_Re_takeTypes 6 = .ok (.pop, 1) := by decide +kernel
theorem d_Re_takeTypes_7 : decode b_Re_takeTypes 7 = .ok (.aload_n 0, 1) := by decide +kernel
theorem d_Re_takeTypes_8 : decode b_Re_takeTypes 8 = .ok (.iconst 0, 1) := by decide +kernel
theorem d_Re_takeTypes_9 : decode b_Re_takeTypes 9 = .ok (.putfield 40, 3) := by decide +kernel
theorem d_Re_takeTypes_12 : decode b_Re_takeTypes 12 = .ok (.aload_n 0, 1) := by decide +kernel
theorem d_Re_takeTypes_13 : decode b_Re_takeTypes 13 = .ok (.bipush 41, 2) := by decide +kernel
theorem d_Re_takeTypes_15 : decode b_Re_takeTypes 15 = .ok (.invokevirtual 151, 3) := by decide +kernel
theorem d_Re_takeTypes_18 : decode b_Re_takeTypes 18 = .ok (.ifCond .ne 7, 3) := by decide +kernel
theorem d_Re_takeTypes_21 : decode b_Re_takeTypes 21 = .ok (.iconst 1, 1) := by decide +kernel
theorem d_Re_takeTypes_22 : decode b_Re_takeTypes 22 = .ok (.goto 4, 3) := by decide +kernel
theorem d_Re_takeTypes_25 : decode b_Re_takeTypes 25 = .ok (.iconst 0, 1) := by decide +kernel
theorem d_Re_takeTypes_26 : decode b_Re_takeTypes 26 = .ok (.istore_n 3, 1) := by decide +kernel
theorem d_Re_takeTypes_27 : decode b_Re_takeTypes 27 = .ok (.iconst 0, 1) := by decide +kernel
theorem d_Re_takeTypes_28 : decode b_Re_takeTypes 28 = .ok (.istore 4, 2) := by decide +kernel
theorem d_Re_takeTypes_30 : decode b_Re_takeTypes 30 = .ok (.iload 4, 2) := by decide +kernel
theorem d_Re_takeTypes_32 : decode b_Re_takeTypes 32 = .ok (.sipush 6000, 3) := by decide +kernel
theorem d_Re_takeTypes_35 : decode b_Re_takeTypes 35 = .ok (.if_icmp .ge 119, 3) := by decide +kernel
theorem d_Re_takeTypes_38 : decode b_Re_takeTypes 38 = .ok (.iload_n 3, 1) := by decide +kernel
theorem d_Re_takeTypes_39 : decode b_Re_takeTypes 39 = .ok (.ifCond .eq 115, 3) := by decide +kernel
theorem d_Re_takeTypes_42 : decode b_Re_takeTypes 42 = .ok (.aload_n 0, 1) := by decide +kernel
theorem d_Re_takeTypes_43 : decode b_Re_takeTypes 43 = .ok (.getfield 18, 3) := by decide +kernel
theorem d_Re_takeTypes_46 : decode b_Re_takeTypes 46 = .ok (.ifCond .ne 108, 3) := by decide +kernel
theorem d_Re_takeTypes_49 : decode b_Re_takeTypes 49 = .ok (.aload_n 0, 1) := by decide +kernel
theorem d_Re_takeTypes_50 : decode b_Re_takeTypes 50 = .ok (.getfield 68, 3) := by decide +kernel
theorem d_Re_takeTypes_53 : decode b_Re_takeTypes 53 = .ok (.getfield 131, 3) := by decide +kernel
theorem d_Re_takeTypes_56 : decode b_Re_takeTypes 56 = .ok (.aload_n 0, 1) := by decide +kernel
theorem d_Re_takeTypes_57 : decode b_Re_takeTypes 57 = .ok (.getfield 27, 3) := by decide +kernel
theorem d_Re_takeTypes_60 : decode b_Re_takeTypes 60 = .ok (.iaload, 1) := by decide +kernel
theorem d_Re_takeTypes_61 : decode b_Re_takeTypes 61 = .ok (.istore 5, 2) := by decide +kernel
theorem d_Re_takeTypes_63 : decode b_Re_takeTypes 63 = .ok (.aload_n 0, 1) := by decide +kernel
theorem d_Re_takeTypes_64 : decode b_Re_takeTypes 64 = .ok (.iload_n 1, 1) := by decide +kernel
theorem d_Re_takeTypes_65 : decode b_Re_takeTypes 65 = .ok (.invokevirtual 147, 3) := by decide +kernel
theorem d_Re_takeTypes_68 : decode b_Re_takeTypes 68 = .ok (.istore 6, 2) := by decide +kernel
theorem d_Re_takeTypes_70 : decode b_Re_takeTypes 70 = .ok (.aload_n 0, 1) := by decide +kernel
theorem d_Re_takeTypes_71 : decode b_Re_takeTypes 71 = .ok (.getfield 40, 3) := by decide +kernel
theorem d_Re_takeTypes_74 : decode b_Re_takeTypes 74 = .ok (.bipush 6, 2) := by decide +kernel
theorem d_Re_takeTypes_76 : decode b_Re_takeTypes 76 = .ok (.if_icmp .ge 17, 3) := by decide +kernel
theorem d_Re_takeTypes_79 : decode b_Re_takeTypes 79 = .ok (.aload_n 0, 1) := by decide +kernel
theorem d_Re_takeTypes_80 : decode b_Re_takeTypes 80 = .ok (.getfield 36, 3) := by decide +kernel
theorem d_Re_takeTypes_83 : decode b_Re_takeTypes 83 = .ok (.aload_n 0, 1) := by decide +kernel
theorem d_Re_takeTypes_84 : decode b_Re_takeTypes 84 = .ok (.getfield 40, 3) := by decide +kernel
theorem d_Re_takeTypes_87 : decode b_Re_takeTypes 87 = .ok (.iload 6, 2) := by decide +kernel
theorem d_Re_takeTypes_89 : decode b_Re_takeTypes 89 = .ok (.iastore, 1) := by decide +kernel
theorem d_Re_takeTypes_90 : decode b_Re_takeTypes 90 = .ok (.goto 23, 3) := by decide +kernel
theorem d_Re_takeTypes_93 : decode b_Re_takeTypes 93 = .ok (.iload_n 2, 1) := by decide +kernel
theorem d_Re_takeTypes_94 : decode b_Re_takeTypes 94 = .ok (.ifCond .eq 12, 3) := by decide +kernel
theorem d_Re_takeTypes_97 : decode b_Re_takeTypes 97 = .ok (.aload_n 0, 1) := by decide +kernel
theorem d_Re_takeTypes_98 : decode b_Re_takeTypes 98 = .ok (.bipush 12, 2) := by decide +kernel
theorem d_Re_takeTypes_100 : decode b_Re_takeTypes 100 = .ok (.invokevirtual 170, 3) := by decide +kernel
theorem d_Re_takeTypes_103 : decode b_Re_takeTypes 103 = .ok (.goto 10, 3) := by decide +kernel
theorem d_Re_takeTypes_106 : decode b_Re_takeTypes 106 = .ok (.aload_n 0, 1) := by decide +kernel
theorem d_Re_takeTypes_107 : decode b_Re_takeTypes 107 = .ok (.iconst 1, 1) := by decide +kernel
theorem d_Re_takeTypes_108 : decode b_Re_takeTypes 108 = .ok (.iload 5, 2) := by decide +kernel
theorem d_Re_takeTypes_110 : decode b_Re_takeTypes 110 = .ok (.invokevirtual 96, 3) := by decide +kernel
theorem d_Re_takeTypes_113 : decode b_Re_takeTypes 113 = .ok (.aload_n 0, 1) := by decide +kernel
theorem d_Re_takeTypes_114 : decode b_Re_takeTypes 114 = .ok (.dup, 1) := by decide +kernel
theorem d_Re_takeTypes_115 : decode b_Re_takeTypes 115 = .ok (.getfield 40, 3) := by decide +kernel
theorem d_Re_takeTypes_118 : decode b_Re_takeTypes 118 = .ok (.iconst 1, 1) := by decide +kernel
theorem d_Re_takeTypes_119 : decode b_Re_takeTypes 119 = .ok (.iadd, 1) := by decide +kernel
theorem d_Re_takeTypes_120 : decode b_Re_takeTypes 120 = .ok (.putfield 40, 3) := by decide +kernel
theorem d_Re_takeTypes_123 : decode b_Re_takeTypes 123 = .ok (.aload_n 0, 1) := by decide +kernel
theorem d_Re_takeTypes_124 : decode b_Re_takeTypes 124 = .ok (.bipush 44, 2) := by decide +kernel
theorem d_Re_takeTypes_126 : decode b_Re_takeTypes 126 = .ok (.invokevirtual 151, 3) := by decide +kernel
theorem d_Re_takeTypes_129 : decode b_Re_takeTypes 129 = .ok (.istore_n 3, 1) := by decide +kernel
theorem d_Re_takeTypes_130 : decode b_Re_takeTypes 130 = .ok (.aload_n 0, 1) := by decide +kernel
theorem d_Re_takeTypes_131 : decode b_Re_takeTypes 131 = .ok (.dup, 1) := by decide +kernel
theorem d_Re_takeTypes_132 : decode b_Re_takeTypes 132 = .ok (.getfield 27, 3) := by decide +kernel
theorem d_Re_takeTypes_135 : decode b_Re_takeTypes 135 = .ok (.iload_n 3, 1) := by decide +kernel
theorem d_Re_takeTypes_136 : decode b_Re_takeTypes 136 = .ok (.ifCond .eq 7, 3) := by decide +kernel
theorem d_Re_takeTypes_139 : decode b_Re_takeTypes 139 = .ok (.iconst 1, 1) := by decide +kernel
theorem d_Re_takeTypes_140 : decode b_Re_takeTypes 140 = .ok (.goto 4, 3) := by decide +kernel
theorem d_Re_takeTypes_143 : decode b_Re_takeTypes 143 = .ok (.iconst 0, 1) := by decide +kernel
theorem d_Re_takeTypes_144 : decode b_Re_takeTypes 144 = .ok (.iadd, 1) := by decide +kernel
theorem d_Re_takeTypes_145 : decode b_Re_takeTypes 145 = .ok (.putfield 27, 3) := by decide +kernel
theorem d_Re_takeTypes_148 : decode b_Re_takeTypes 148 = .ok (.iinc 4 1, 3) := by decide +kernel
theorem d_Re_takeTypes_151 : decode b_Re_takeTypes 151 = .ok (.goto (-121), 3) := by decide +kernel
theorem d_Re_takeTypes_154 : decode b_Re_takeTypes 154 = .ok (.aload_n 0, 1) := by decide +kernel
theorem d_Re_takeTypes_155 : decode b_Re_takeTypes 155 = .ok (.bipush 41, 2) := by decide +kernel
theorem d_Re_takeTypes_157 : decode b_Re_takeTypes 157 = .ok (.invokevirtual 147, 3) := by decide +kernel
theorem d_Re_takeTypes_160 : decode b_Re_takeTypes 160 = .ok (.pop, 1) := by decide +kernel
theorem d_Re_takeTypes_161 : decode b_Re_takeTypes 161 = .ok (.return_, 1) := by decide +kernel
abbrev ru_Re_takeTypes : Room := { frames := 2, cells := 0, slots := 0, locals := 51 }
def wj_Re_takeTypes_154 (y : Ly) (Post : St → Prop) (a0 : Nat) (s_j154 : St) : Prop := wu_Re_take y (fun (s_7 : St) (r_6 : Int32) => Post s_7) s_j154 a0 41
def wj_Re_takeTypes_144 (y : Ly) (Post : St → Prop) (K_30 : St → Int32 → Int32 → Int32 → Int32 → Prop) (a0 : Nat) (s_j144 : St) (x1j144 : Int32) (x2j144 : Int32) (x3j144 : Int32) (x4j144 : Int32) (z1j144 : Int32) (z2j144 : Int32) : Prop := xP (uV s_j144 a0 8 (z1j144 + z2j144)) (fun s_14 : St => K_30 s_14 x1j144 x2j144 x3j144 (x4j144 + 1))
def wj_Re_takeTypes_113 (y : Ly) (Post : St → Prop) (K_30 : St → Int32 → Int32 → Int32 → Int32 → Prop) (a0 : Nat) (s_j113 : St) (x1j113 : Int32) (x2j113 : Int32) (x4j113 : Int32) : Prop := xP (uV s_j113 a0 12 ((sV s_j113 a0 12) + 1)) (fun s_11 : St => wu_Re_isSign y (fun (s_13 : St) (r_12 : Int32) => ((r_12 = 0 → wj_Re_takeTypes_144 y Post K_30 a0 s_13 x1j113 x2j113 r_12 x4j113 (sV s_13 a0 8) 0) ∧ (¬ (r_12 = 0) → wj_Re_takeTypes_144 y Post K_30 a0 s_13 x1j113 x2j113 r_12 x4j113 (sV s_13 a0 8) 1))) s_11 a0 44)
def wb_Re_takeTypes_30 (y : Ly) (Post : St → Prop) (K_30 : St → Int32 → Int32 → Int32 → Int32 → Prop) (a0 : Nat) (s_h30 : St) (x1h30 : Int32) (x2h30 : Int32) (x3h30 : Int32) (x4h30 : Int32) : Prop := ((6000 ≤ x4h30 → wj_Re_takeTypes_154 y Post a0 s_h30) ∧ (¬ (6000 ≤ x4h30) → ((x3h30 = 0 → wj_Re_takeTypes_154 y Post a0 s_h30) ∧ (¬ (x3h30 = 0) → ((¬ (sV s_h30 a0 5) = 0 → wj_Re_takeTypes_154 y Post a0 s_h30) ∧ ((sV s_h30 a0 5) = 0 → xA y s_h30 (lk a0 3) 2 (sV s_h30 a0 8) (fun x_8 : Int32 => wu_Re_take y (fun (s_10 : St) (r_9 : Int32) => ((6 ≤ (sV s_10 a0 12) → ((x2h30 = 0 → wu_Re_refuse y (fun (s_16 : St) => wj_Re_takeTypes_113 y Post K_30 a0 s_16 x1h30 x2h30 x4h30) s_10 a0 1 x_8) ∧ (¬ (x2h30 = 0) → wu_Re_note y (fun (s_18 : St) => wj_Re_takeTypes_113 y Post K_30 a0 s_18 x1h30 x2h30 x4h30) s_10 a0 12))) ∧ (¬ (6 ≤ (sV s_10 a0 12)) → xS y s_10 a0 11 (sV s_10 a0 12) r_9 (fun s_19 : St => wj_Re_takeTypes_113 y Post K_30 a0 s_19 x1h30 x2h30 x4h30)))) s_h30 a0 x1h30)))))))
def wl_Re_takeTypes_30 (y : Ly) (Post : St → Prop) (a0 : Nat) (s_h30 : St) (x1h30 : Int32) (x2h30 : Int32) (x3h30 : Int32) (x4h30 : Int32) : Prop := ∃ (I : St → Int32 → Int32 → Int32 → Int32 → Prop) (μ : St → Int32 → Int32 → Int32 → Int32 → Nat), I s_h30 x1h30 x2h30 x3h30 x4h30 ∧ ∀ (u : St) (t0 : Int32) (t1 : Int32) (t2 : Int32) (t3 : Int32), I u t0 t1 t2 t3 → wb_Re_takeTypes_30 y Post (fun z t0q t1q t2q t3q => I z t0q t1q t2q t3q ∧ μ z t0q t1q t2q t3q < μ u t0 t1 t2 t3) a0 u t0 t1 t2 t3
def wj_Re_takeTypes_26 (y : Ly) (Post : St → Prop) (a0 : Nat) (s_j26 : St) (x1j26 : Int32) (x2j26 : Int32) (z0j26 : Int32) : Prop := wl_Re_takeTypes_30 y Post a0 s_j26 x1j26 x2j26 z0j26 0
def wu_Re_takeTypes (y : Ly) (Post : St → Prop) (σ : St) (a0 : Nat) (v1 : Int32) (v2 : Int32) : Prop := wu_Re_take y (fun (s_2 : St) (r_1 : Int32) => xP (uV s_2 a0 12 0) (fun s_3 : St => wu_Re_isSign y (fun (s_5 : St) (r_4 : Int32) => ((¬ r_4 = 0 → wj_Re_takeTypes_26 y Post a0 s_5 v1 v2 0) ∧ (r_4 = 0 → wj_Re_takeTypes_26 y Post a0 s_5 v1 v2 1))) s_3 a0 41)) σ a0 40
set_option maxHeartbeats 4000000 in
set_option maxRecDepth 100000 in
theorem cu_Re_takeTypes (l : Launch) (D : va_G) (g : Nat → ClassId) (ad : Nat → Nat) (y : Ly) (Post : St → Prop) (σ : St) (a0 : Nat) (v1 : Int32) (v2 : Int32) (sz : Nat) (h_a0 : cl a0 = 6) (h : wu_Re_takeTypes y Post σ a0 v1 v2) : Met l y_Re_takeTypes (mw y_Re_takeTypes b_Re_takeTypes 7 (none)) ru_Re_takeTypes (PC g D [] [.ref (ad a0), .int v1, .int v2] sz (ws g ad y σ)) (va_Qv (fun u : St => Post u) (QW D (va_A (ws g ad y σ) sz) (fun u => ws g ad y u)) (va_A (ws g ad y σ) sz)) 0 0 (va_A (ws g ad y σ) sz) := by
  refine ofV (by decide +kernel) (Nat.le_of_ble_eq_true rfl) ?_
  intro p e s m args below meth c A Q ls H locs G hsz hP hD hS hl hret
  subst hsz
  have hl : lv_has ls 7 [(0, .ref (ad a0)), (1, .int v1), (2, .int v2)] := hl
  unfold wu_Re_takeTypes at h
  refine lv_aload_n G.1 G.2.1 d_Re_takeTypes_0 rfl (lv_at hl 0 rfl) ?_
  refine lv_bipush (v := 40) G.1 G.2.1 d_Re_takeTypes_1 (by decide) ?_
  refine ucVi (As := [.int 40]) (rest := []) G hP hD hS (cu_Re_take l D g ad y _ σ a0 40 H.size h_a0 h) w9_Re_take q1321 ⟨Nat.le_of_ble_eq_true rfl, Nat.le_of_ble_eq_true rfl⟩ rfl rfl h_a0 (q := (RRe, TRe, 18)) rfl rfl hl.1 rfl (Nat.le_of_ble_eq_true rfl) rfl ⟨Nat.le_refl _, Nat.le_refl _⟩ d_Re_takeTypes_3 (fun r_1 s_2 H locs h hP hD hS => ?_)
  refine lv_pop G.1 G.2.1 d_Re_takeTypes_6 rfl ?_
  refine lv_aload_n G.1 G.2.1 d_Re_takeTypes_7 rfl (lv_at hl 0 rfl) ?_
  refine lv_iconst (v := 0) G.1 G.2.1 d_Re_takeTypes_8 (by decide) ?_
  refine upf G hP hD hS h 12 putV h_a0 iRe tRe tRe_ok nRe rfl (by decide) rfl q599 rfl rfl fV rfl rfl d_Re_takeTypes_9 (fun s_3 H locs h hP hD hS => ?_)
  refine lv_aload_n G.1 G.2.1 d_Re_takeTypes_12 rfl (lv_at hl 0 rfl) ?_
  refine lv_bipush (v := 41) G.1 G.2.1 d_Re_takeTypes_13 (by decide) ?_
  refine ucVi (As := [.int 41]) (rest := []) G hP hD hS (cu_Re_isSign l D g ad y _ s_3 a0 41 H.size h_a0 h) w9_Re_isSign q1325 ⟨Nat.le_of_ble_eq_true rfl, Nat.le_of_ble_eq_true rfl⟩ rfl rfl h_a0 (q := (RRe, TRe, 18)) rfl rfl hl.1 rfl (Nat.le_of_ble_eq_true rfl) rfl ⟨Nat.le_refl _, Nat.le_refl _⟩ d_Re_takeTypes_15 (fun r_4 s_5 H locs h hP hD hS => ?_)
  have J_26 : ∀ (s_j26 : St) (x1j26 : Int32) (x2j26 : Int32) (z0j26 : Int32) (H : Heap) (locs : List Loc), wj_Re_takeTypes_26 y Post a0 s_j26 x1j26 x2j26 z0j26 → va_P D CL (ws g ad y s_j26) H → va_D A (ws g ad y s_j26) → va_S A s.heap H locs → ∀ ls, lv_has ls 7 [(0, .ref (ad a0)), (1, .int x1j26), (2, .int x2j26)] → W p l e ru_Re_takeTypes s m args below meth c H locs 0 0 Q (F0 m 26 ls [.int z0j26]) := by
    intro s_j26 x1j26 x2j26 z0j26 H locs h hP hD hS ls hl
    unfold wj_Re_takeTypes_26 at h
    refine lv_istore_n (lv' := [(3, .int z0j26), (0, .ref (ad a0)), (1, .int x1j26), (2, .int x2j26)]) G.1 G.2.1 d_Re_takeTypes_26 rfl hl (by decide) rfl (fun ls hl => ?_)
    refine lv_iconst (v := 0) G.1 G.2.1 d_Re_takeTypes_27 (by decide) ?_
    refine lv_istore (lv' := [(4, .int 0), (3, .int z0j26), (0, .ref (ad a0)), (1, .int x1j26), (2, .int x2j26)]) G.1 G.2.1 d_Re_takeTypes_28 hl (by decide) rfl (fun ls hl => ?_)
    unfold wl_Re_takeTypes_30 at h
    obtain ⟨I_30, μ_30, hI_30, hB_30⟩ := h
    have L_30 : ∀ (n_30 : Nat) (s_h30 : St) (x1h30 : Int32) (x2h30 : Int32) (x3h30 : Int32) (x4h30 : Int32), μ_30 s_h30 x1h30 x2h30 x3h30 x4h30 < n_30 → I_30 s_h30 x1h30 x2h30 x3h30 x4h30 → ∀ (H : Heap) (locs : List Loc), va_P D CL (ws g ad y s_h30) H → va_D A (ws g ad y s_h30) → va_S A s.heap H locs → ∀ ls, lv_has ls 7 [(0, .ref (ad a0)), (1, .int x1h30), (2, .int x2h30), (3, .int x3h30), (4, .int x4h30)] → W p l e ru_Re_takeTypes s m args below meth c H locs 0 0 Q (F0 m 30 ls []) := by
      intro n_30
      induction n_30 with
      | zero => intro s_h30 x1h30 x2h30 x3h30 x4h30 hμ; exact absurd hμ (Nat.not_lt_zero _)
      | succ n_30 ih_30 =>
        intro s_h30 x1h30 x2h30 x3h30 x4h30 hμ_30 hJ H locs hP hD hS ls hl
        obtain ⟨K_30, hK_30, h⟩ : ∃ K : St → Int32 → Int32 → Int32 → Int32 → Prop, (∀ z (t0 : Int32) (t1 : Int32) (t2 : Int32) (t3 : Int32), K z t0 t1 t2 t3 → I_30 z t0 t1 t2 t3 ∧ μ_30 z t0 t1 t2 t3 < μ_30 s_h30 x1h30 x2h30 x3h30 x4h30) ∧ wb_Re_takeTypes_30 y Post K a0 s_h30 x1h30 x2h30 x3h30 x4h30 := ⟨_, fun _ _ _ _ _ h => h, hB_30 s_h30 x1h30 x2h30 x3h30 x4h30 hJ⟩
        unfold wb_Re_takeTypes_30 at h
        refine lv_iload G.1 G.2.1 d_Re_takeTypes_30 (lv_at hl 4 rfl) ?_
        refine lv_sipush (v := 6000) G.1 G.2.1 d_Re_takeTypes_32 (by decide) ?_
        have J_154 : ∀ (s_j154 : St) (H : Heap) (locs : List Loc), wj_Re_takeTypes_154 y Post a0 s_j154 → va_P D CL (ws g ad y s_j154) H → va_D A (ws g ad y s_j154) → va_S A s.heap H locs → ∀ ls, lv_has ls 7 [(0, .ref (ad a0))] → W p l e ru_Re_takeTypes s m args below meth c H locs 0 0 Q (F0 m 154 ls []) := by
          intro s_j154 H locs h hP hD hS ls hl
          unfold wj_Re_takeTypes_154 at h
          refine lv_aload_n G.1 G.2.1 d_Re_takeTypes_154 rfl (lv_at hl 0 rfl) ?_
          refine lv_bipush (v := 41) G.1 G.2.1 d_Re_takeTypes_155 (by decide) ?_
          refine ucVi (As := [.int 41]) (rest := []) G hP hD hS (cu_Re_take l D g ad y _ s_j154 a0 41 H.size h_a0 h) w9_Re_take q1321 ⟨Nat.le_of_ble_eq_true rfl, Nat.le_of_ble_eq_true rfl⟩ rfl rfl h_a0 (q := (RRe, TRe, 18)) rfl rfl hl.1 rfl (Nat.le_of_ble_eq_true rfl) rfl ⟨Nat.le_refl _, Nat.le_refl _⟩ d_Re_takeTypes_157 (fun r_6 s_7 H locs h hP hD hS => ?_)
          refine lv_pop G.1 G.2.1 d_Re_takeTypes_160 rfl ?_
          exact hret _ _ _ _ _ _ ls h hP hD hS (Nat.le_refl _) (Nat.le_refl _) d_Re_takeTypes_161
        refine lv_icmp_ge (tgt := 154) G.1 G.2.1 d_Re_takeTypes_35 (by decide) (fun c35 => ?_) (fun c35 => ?_)
        · skip
          have h := h.1 c35
          exact J_154 s_h30 H locs h hP hD hS ls (lv_sub hl [0] rfl)
        · skip
          have h := h.2 c35
          refine lv_iload_n G.1 G.2.1 d_Re_takeTypes_38 rfl (lv_at hl 3 rfl) ?_
          refine lv_if_eq (tgt := 154) G.1 G.2.1 d_Re_takeTypes_39 (by decide) (fun c39 => ?_) (fun c39 => ?_)
          · skip
            have h := h.1 c39
            exact J_154 s_h30 H locs h hP hD hS ls (lv_sub hl [0] rfl)
          · skip
            have h := h.2 c39
            refine lv_aload_n G.1 G.2.1 d_Re_takeTypes_42 rfl (lv_at hl 0 rfl) ?_
            refine ugf (v := .int (sV s_h30 a0 5)) G hP h_a0 iRe rfl 5 (by decide) rfl q592 rfl rfl d_Re_takeTypes_43 ?_
            refine lv_if_ne (tgt := 154) G.1 G.2.1 d_Re_takeTypes_46 (by decide) (fun c46 => ?_) (fun c46 => ?_)
            · skip
              have h := h.1 c46
              exact J_154 s_h30 H locs h hP hD hS ls (lv_sub hl [0] rfl)
            · skip
              have h := h.2 c46
              refine lv_aload_n G.1 G.2.1 d_Re_takeTypes_49 rfl (lv_at hl 0 rfl) ?_
              refine ugf (v := .ref (ad (lk a0 3))) G hP h_a0 iRe rfl 3 (by decide) rfl q590 rfl rfl d_Re_takeTypes_50 ?_
              refine ugf (v := .ref (yP y (lk a0 3) 2)) G hP (lk_6_3 h_a0) iWo rfl 2 (by decide) rfl q552 rfl rfl d_Re_takeTypes_53 ?_
              refine W.eq (g2 := F0 m 56 ls [.ref (yP y (lk a0 3) 2)]) rfl ?_
              refine lv_aload_n G.1 G.2.1 d_Re_takeTypes_56 rfl (lv_at hl 0 rfl) ?_
              refine ugf (v := .int (sV s_h30 a0 8)) G hP h_a0 iRe rfl 8 (by decide) rfl q595 rfl rfl d_Re_takeTypes_57 ?_
              refine uiald G hP (kdp (lk_6_3 h_a0) rfl) (typ (lk_6_3 h_a0) rfl) h d_Re_takeTypes_60 (fun x_8 h => ?_)
              refine lv_istore (lv' := [(5, .int x_8), (0, .ref (ad a0)), (1, .int x1h30), (2, .int x2h30), (3, .int x3h30), (4, .int x4h30)]) G.1 G.2.1 d_Re_takeTypes_61 hl (by decide) rfl (fun ls hl => ?_)
              refine lv_aload_n G.1 G.2.1 d_Re_takeTypes_63 rfl (lv_at hl 1 rfl) ?_
              refine lv_iload_n G.1 G.2.1 d_Re_takeTypes_64 rfl (lv_at hl 2 rfl) ?_
              refine ucVi (As := [.int x1h30]) (rest := []) G hP hD hS (cu_Re_take l D g ad y _ s_h30 a0 x1h30 H.size h_a0 h) w9_Re_take q1321 ⟨Nat.le_of_ble_eq_true rfl, Nat.le_of_ble_eq_true rfl⟩ rfl rfl h_a0 (q := (RRe, TRe, 18)) rfl rfl hl.1 rfl (Nat.le_of_ble_eq_true rfl) rfl ⟨Nat.le_refl _, Nat.le_refl _⟩ d_Re_takeTypes_65 (fun r_9 s_10 H locs h hP hD hS => ?_)
              refine lv_istore (lv' := [(6, .int r_9), (5, .int x_8), (0, .ref (ad a0)), (1, .int x1h30), (2, .int x2h30), (3, .int x3h30), (4, .int x4h30)]) G.1 G.2.1 d_Re_takeTypes_68 hl (by decide) rfl (fun ls hl => ?_)
              refine lv_aload_n G.1 G.2.1 d_Re_takeTypes_70 rfl (lv_at hl 2 rfl) ?_
              refine ugf (v := .int (sV s_10 a0 12)) G hP h_a0 iRe rfl 12 (by decide) rfl q599 rfl rfl d_Re_takeTypes_71 ?_
              refine lv_bipush (v := 6) G.1 G.2.1 d_Re_takeTypes_74 (by decide) ?_
              have J_113 : ∀ (s_j113 : St) (x1j113 : Int32) (x2j113 : Int32) (x4j113 : Int32) (H : Heap) (locs : List Loc), wj_Re_takeTypes_113 y Post K_30 a0 s_j113 x1j113 x2j113 x4j113 → va_P D CL (ws g ad y s_j113) H → va_D A (ws g ad y s_j113) → va_S A s.heap H locs → ∀ ls, lv_has ls 7 [(0, .ref (ad a0)), (1, .int x1j113), (2, .int x2j113), (4, .int x4j113)] → W p l e ru_Re_takeTypes s m args below meth c H locs 0 0 Q (F0 m 113 ls []) := by
                intro s_j113 x1j113 x2j113 x4j113 H locs h hP hD hS ls hl
                unfold wj_Re_takeTypes_113 at h
                refine lv_aload_n G.1 G.2.1 d_Re_takeTypes_113 rfl (lv_at hl 0 rfl) ?_
                refine lv_dup G.1 G.2.1 d_Re_takeTypes_114 rfl ?_
                refine ugf (v := .int (sV s_j113 a0 12)) G hP h_a0 iRe rfl 12 (by decide) rfl q599 rfl rfl d_Re_takeTypes_115 ?_
                refine lv_iconst (v := 1) G.1 G.2.1 d_Re_takeTypes_118 (by decide) ?_
                refine lv_iadd G.1 G.2.1 d_Re_takeTypes_119 ?_
                refine upf G hP hD hS h 12 putV h_a0 iRe tRe tRe_ok nRe rfl (by decide) rfl q599 rfl rfl fV rfl rfl d_Re_takeTypes_120 (fun s_11 H locs h hP hD hS => ?_)
                refine lv_aload_n G.1 G.2.1 d_Re_takeTypes_123 rfl (lv_at hl 0 rfl) ?_
                refine lv_bipush (v := 44) G.1 G.2.1 d_Re_takeTypes_124 (by decide) ?_
                refine ucVi (As := [.int 44]) (rest := []) G hP hD hS (cu_Re_isSign l D g ad y _ s_11 a0 44 H.size h_a0 h) w9_Re_isSign q1325 ⟨Nat.le_of_ble_eq_true rfl, Nat.le_of_ble_eq_true rfl⟩ rfl rfl h_a0 (q := (RRe, TRe, 18)) rfl rfl hl.1 rfl (Nat.le_of_ble_eq_true rfl) rfl ⟨Nat.le_refl _, Nat.le_refl _⟩ d_Re_takeTypes_126 (fun r_12 s_13 H locs h hP hD hS => ?_)
                refine lv_istore_n (lv' := [(3, .int r_12), (0, .ref (ad a0)), (1, .int x1j113), (2, .int x2j113), (4, .int x4j113)]) G.1 G.2.1 d_Re_takeTypes_129 rfl hl (by decide) rfl (fun ls hl => ?_)
                refine lv_aload_n G.1 G.2.1 d_Re_takeTypes_130 rfl (lv_at hl 1 rfl) ?_
                refine W.eq (g2 := F0 m 131 ls [.ref (ad a0)]) rfl ?_
                refine lv_dup G.1 G.2.1 d_Re_takeTypes_131 rfl ?_
                refine ugf (v := .int (sV s_13 a0 8)) G hP h_a0 iRe rfl 8 (by decide) rfl q595 rfl rfl d_Re_takeTypes_132 ?_
                refine lv_iload_n G.1 G.2.1 d_Re_takeTypes_135 rfl (lv_at hl 0 rfl) ?_
                have J_144 : ∀ (s_j144 : St) (x1j144 : Int32) (x2j144 : Int32) (x3j144 : Int32) (x4j144 : Int32) (z1j144 : Int32) (z2j144 : Int32) (H : Heap) (locs : List Loc), wj_Re_takeTypes_144 y Post K_30 a0 s_j144 x1j144 x2j144 x3j144 x4j144 z1j144 z2j144 → va_P D CL (ws g ad y s_j144) H → va_D A (ws g ad y s_j144) → va_S A s.heap H locs → ∀ ls, lv_has ls 7 [(0, .ref (ad a0)), (1, .int x1j144), (2, .int x2j144), (3, .int x3j144), (4, .int x4j144)] → W p l e ru_Re_takeTypes s m args below meth c H locs 0 0 Q (F0 m 144 ls [.int z2j144, .int z1j144, .ref (ad a0)]) := by
                  intro s_j144 x1j144 x2j144 x3j144 x4j144 z1j144 z2j144 H locs h hP hD hS ls hl
                  unfold wj_Re_takeTypes_144 at h
                  refine lv_iadd G.1 G.2.1 d_Re_takeTypes_144 ?_
                  refine upf G hP hD hS h 8 putV h_a0 iRe tRe tRe_ok nRe rfl (by decide) rfl q595 rfl rfl fV rfl rfl d_Re_takeTypes_145 (fun s_14 H locs h hP hD hS => ?_)
                  refine lv_iinc (v := x4j144 + 1) (lv' := [(4, .int (x4j144 + 1)), (0, .ref (ad a0)), (1, .int x1j144), (2, .int x2j144), (3, .int x3j144)]) G.1 G.2.1 d_Re_takeTypes_148 hl (k := 4) rfl rfl (by decide) rfl (fun ls hl => ?_)
                  refine lv_goto (tgt := 30) G.1 G.2.1 d_Re_takeTypes_151 (by decide) ?_
                  have h := hK_30 s_14 x1j144 x2j144 x3j144 (x4j144 + 1) h
                  exact ih_30 s_14 x1j144 x2j144 x3j144 (x4j144 + 1) (Nat.lt_of_lt_of_le h.2 (Nat.le_of_lt_succ hμ_30)) h.1 H locs hP hD hS ls (lv_sub hl [1, 2, 3, 4, 0] rfl)
                refine lv_if_eq (tgt := 143) G.1 G.2.1 d_Re_takeTypes_136 (by decide) (fun c136 => ?_) (fun c136 => ?_)
                · skip
                  have h := h.1 c136
                  refine lv_iconst (v := 0) G.1 G.2.1 d_Re_takeTypes_143 (by decide) ?_
                  exact J_144 s_13 x1j113 x2j113 r_12 x4j113 (sV s_13 a0 8) 0 H locs h hP hD hS ls (lv_sub hl [1, 2, 3, 0, 4] rfl)
                · skip
                  have h := h.2 c136
                  refine lv_iconst (v := 1) G.1 G.2.1 d_Re_takeTypes_139 (by decide) ?_
                  refine lv_goto (tgt := 144) G.1 G.2.1 d_Re_takeTypes_140 (by decide) ?_
                  exact J_144 s_13 x1j113 x2j113 r_12 x4j113 (sV s_13 a0 8) 1 H locs h hP hD hS ls (lv_sub hl [1, 2, 3, 0, 4] rfl)
              refine lv_icmp_ge (tgt := 93) G.1 G.2.1 d_Re_takeTypes_76 (by decide) (fun c76 => ?_) (fun c76 => ?_)
              · skip
                have h := h.1 c76
                refine W.eq (g2 := F0 m 93 ls []) rfl ?_
                refine lv_iload_n G.1 G.2.1 d_Re_takeTypes_93 rfl (lv_at hl 4 rfl) ?_
                refine lv_if_eq (tgt := 106) G.1 G.2.1 d_Re_takeTypes_94 (by decide) (fun c94 => ?_) (fun c94 => ?_)
                · skip
                  have h := h.1 c94
                  refine lv_aload_n G.1 G.2.1 d_Re_takeTypes_106 rfl (lv_at hl 2 rfl) ?_
                  refine lv_iconst (v := 1) G.1 G.2.1 d_Re_takeTypes_107 (by decide) ?_
                  refine lv_iload G.1 G.2.1 d_Re_takeTypes_108 (lv_at hl 1 rfl) ?_
                  refine ucVv (As := [.int 1, .int x_8]) (rest := []) G hP hD hS (cu_Re_refuse l D g ad y _ s_10 a0 1 x_8 H.size h_a0 h) w9_Re_refuse q1317 ⟨Nat.le_of_ble_eq_true rfl, Nat.le_of_ble_eq_true rfl⟩ rfl rfl h_a0 (q := (RRe, TRe, 18)) rfl rfl hl.1 rfl (Nat.le_of_ble_eq_true rfl) rfl ⟨Nat.le_refl _, Nat.le_refl _⟩ d_Re_takeTypes_110 (fun s_16 H locs h hP hD hS => ?_)
                  exact J_113 s_16 x1h30 x2h30 x4h30 H locs h hP hD hS ls (lv_sub hl [2, 3, 4, 6] rfl)
                · skip
                  have h := h.2 c94
                  refine lv_aload_n G.1 G.2.1 d_Re_takeTypes_97 rfl (lv_at hl 2 rfl) ?_
                  refine lv_bipush (v := 12) G.1 G.2.1 d_Re_takeTypes_98 (by decide) ?_
                  refine ucVv (As := [.int 12]) (rest := []) G hP hD hS (cu_Re_note l D g ad y _ s_10 a0 12 H.size h_a0 h) w9_Re_note q1337 ⟨Nat.le_of_ble_eq_true rfl, Nat.le_of_ble_eq_true rfl⟩ rfl rfl h_a0 (q := (RRe, TRe, 18)) rfl rfl hl.1 rfl (Nat.le_of_ble_eq_true rfl) rfl ⟨Nat.le_refl _, Nat.le_refl _⟩ d_Re_takeTypes_100 (fun s_18 H locs h hP hD hS => ?_)
                  refine lv_goto (tgt := 113) G.1 G.2.1 d_Re_takeTypes_103 (by decide) ?_
                  exact J_113 s_18 x1h30 x2h30 x4h30 H locs h hP hD hS ls (lv_sub hl [2, 3, 4, 6] rfl)
              · skip
                have h := h.2 c76
                refine W.eq (g2 := F0 m 79 ls []) rfl ?_
                refine lv_aload_n G.1 G.2.1 d_Re_takeTypes_79 rfl (lv_at hl 2 rfl) ?_
                refine ugf (v := .ref (yP y a0 11)) G hP h_a0 iRe rfl 11 (by decide) rfl q598 rfl rfl d_Re_takeTypes_80 ?_
                refine lv_aload_n G.1 G.2.1 d_Re_takeTypes_83 rfl (lv_at hl 2 rfl) ?_
                refine ugf (v := .int (sV s_10 a0 12)) G hP h_a0 iRe rfl 12 (by decide) rfl q599 rfl rfl d_Re_takeTypes_84 ?_
                refine lv_iload G.1 G.2.1 d_Re_takeTypes_87 (lv_at hl 0 rfl) ?_
                refine uiast G hP hD hS (kdp h_a0 rfl) (typ h_a0 rfl) h d_Re_takeTypes_89 (fun s_19 H locs h hP hD hS => ?_)
                refine lv_goto (tgt := 113) G.1 G.2.1 d_Re_takeTypes_90 (by decide) ?_
                exact J_113 s_19 x1h30 x2h30 x4h30 H locs h hP hD hS ls (lv_sub hl [2, 3, 4, 6] rfl)
    exact L_30 _ s_j26 x1j26 x2j26 z0j26 0 (Nat.lt_succ_self _) hI_30 H locs hP hD hS ls (lv_sub hl [2, 3, 4, 1, 0] rfl)
  refine lv_if_ne (tgt := 25) G.1 G.2.1 d_Re_takeTypes_18 (by decide) (fun c18 => ?_) (fun c18 => ?_)
  · skip
    have h := h.1 c18
    refine W.eq (g2 := F0 m 25 ls []) rfl ?_
    refine lv_iconst (v := 0) G.1 G.2.1 d_Re_takeTypes_25 (by decide) ?_
    exact J_26 s_5 v1 v2 0 H locs h hP hD hS ls (lv_sub hl [0, 1, 2] rfl)
  · skip
    have h := h.2 c18
    refine W.eq (g2 := F0 m 21 ls []) rfl ?_
    refine lv_iconst (v := 1) G.1 G.2.1 d_Re_takeTypes_21 (by decide) ?_
    refine lv_goto (tgt := 26) G.1 G.2.1 d_Re_takeTypes_22 (by decide) ?_
    exact J_26 s_5 v1 v2 1 H locs h hP hD hS ls (lv_sub hl [0, 1, 2] rfl)
theorem q602 : Cond.fieldLink "ClassWorks$Reader" 55 "ClassWorks$Reader" "toldTwice" "I" ∈ lw_ok := lw_okmem (List.mem_of_getElem? (i := 602) (by decide +kernel)) rfl
theorem q603 : Cond.fieldLink "ClassWorks$Reader" 58 "ClassWorks$Reader" "frame" "I" ∈ lw_ok := lw_okmem (List.mem_of_getElem? (i := 603) (by decide +kernel)) rfl
theorem q601 : Cond.fieldLink "ClassWorks$Reader" 52 "ClassWorks$Reader" "uses" "LClassWorks$Ints;" ∈ lw_ok := lw_okmem (List.mem_of_getElem? (i := 601) (by decide +kernel)) rfl
theorem q1424 : Cond.constant "ClassWorks$Reader" 285 (2147483647) ∈ lw_ok := lw_okmem (List.mem_of_getElem? (i := 1424) (by decide +kernel)) rfl
theorem q851 : Cond.fieldLink "ClassWorks$Reader" 233 "ClassWorks$World" "handlers" "LClassWorks$Ints;" ∈ lw_ok := lw_okmem (List.mem_of_getElem? (i := 851) (by decide +kernel)) rfl
theorem q1376 : Cond.methodLink "ClassWorks$Reader" 272 y_Re_labelAt ∈ lw_ok := lw_okmem (List.mem_of_getElem? (i := 1376) (by decide +kernel)) rfl
theorem q1379 : Cond.code y_Re_labelAt b_Re_labelAt 3 (some .int) ∈ lw_ok := lw_okmem (List.mem_of_getElem? (i := 1379) (by decide +kernel)) rfl
theorem q1378 : Cond.instanceMethod y_Re_labelAt ∈ lw_ok := lw_okmem (List.mem_of_getElem? (i := 1378) (by decide +kernel)) rfl
theorem q28 : Cond.selects y_Re_labelAt.cls y_Re_labelAt y_Re_labelAt ∈ lw_ok := lw_okmem (List.mem_of_getElem? (i := 28) (by decide +kernel)) rfl
theorem w9_Re_labelAt : CWv y_Re_labelAt b_Re_labelAt 3 (some .int) 1 ∧ Cond.instanceMethod y_Re_labelAt ∈ lw_ok ∧ Cond.selects y_Re_labelAt.cls y_Re_labelAt y_Re_labelAt ∈ lw_ok := ⟨⟨q1379, q340, by decide +kernel, by decide +kernel, by decide +kernel⟩, q1378, q28⟩
def y_Re_endMethod : MethodName := ⟨"ClassWorks$Reader", "endMethod", "()V"⟩
abbrev b_Re_endMethod : ByteArray := prog_8_method_32_code
theorem q856 : Cond.fieldLink "ClassWorks$Reader" 275 "ClassWorks$World" "extra" "LClassWorks$Ints;" ∈ lw_ok := lw_okmem (List.mem_of_getElem? (i := 856) (by decide +kernel)) rfl
theorem q847 : Cond.fieldLink "ClassWorks$Reader" 227 "ClassWorks$World" "codes" "LClassWorks$Ints;" ∈ lw_ok := lw_okmem (List.mem_of_getElem? (i := 847) (by decide +kernel)) rfl
theorem q604 : Cond.fieldLink "ClassWorks$Reader" 61 "ClassWorks$Reader" "framePlace" "I" ∈ lw_ok := lw_okmem (List.mem_of_getElem? (i := 604) (by decide +kernel)) rfl
theorem d_Re_endMethod_0 : decode b_Re_endMethod 0 = .ok (.aload_n 0, 1) := by decide +kernel
theorem d_Re_endMethod_1 : decode b_Re_endMethod 1 = .ok (.getfield 72, 3) := by decide +kernel
theorem d_Re_endMethod_4 : decode b_Re_endMethod 4 = .ok (.getfield 224, 3) := by decide +kernel
theorem d_Re_endMethod_7 : decode b_Re_endMethod 7 = .ok (.getfield 236, 3) := by decide +kernel
theorem d_Re_endMethod_10 : decode b_Re_endMethod 10 = .ok (.aload_n 0, 1) := by decide +kernel
theorem d_Re_endMethod_11 : decode b_Re_endMethod 11 = .ok (.getfield 33, 3) := by decide +kernel
theorem d_Re_endMethod_14 : decode b_Re_endMethod 14 = .ok (.iconst 5, 1) := by decide +kernel
theorem d_Re_endMethod_15 : decode b_Re_endMethod 15 = .ok (.iadd, 1) := by decide +kernel
theorem d_Re_endMethod_16 : decode b_Re_endMethod 16 = .ok (.iaload, 1) := by decide +kernel
theorem d_Re_endMethod_17 : decode b_Re_endMethod 17 = .ok (.istore_n 1, 1) := by decide +kernel
theorem d_Re_endMethod_18 : decode b_Re_endMethod 18 = .ok (.aload_n 0, 1) := by decide +kernel
theorem d_Re_endMethod_19 : decode b_Re_endMethod 19 = .ok (.getfield 55, 3) := by decide +kernel
theorem d_Re_endMethod_22 : decode b_Re_endMethod 22 = .ok (.ifCond .ge 9, 3) := by decide +kernel
theorem d_Re_endMethod_25 : decode b_Re_endMethod 25 = .ok (.ldc_w 285, 3) := by decide +kernel
theorem d_Re_endMethod_28 : decode b_Re_endMethod 28 = .ok (.goto 7, 3) := by decide +kernel
theorem d_Re_endMethod_31 : decode b_Re_endMethod 31 = .ok (.aload_n 0, 1) := by decide +kernel
theorem d_Re_endMethod_32 : decode b_Re_endMethod 32 = .ok (.getfield 55, 3) := by decide +kernel
theorem d_Re_endMethod_35 : decode b_Re_endMethod 35 = .ok (.istore_n 2, 1) := by decide +kernel
theorem d_Re_endMethod_36 : decode b_Re_endMethod 36 = .ok (.aload_n 0, 1) := by decide +kernel
theorem d_Re_endMethod_37 : decode b_Re_endMethod 37 = .ok (.getfield 58, 3) := by decide +kernel
theorem d_Re_endMethod_40 : decode b_Re_endMethod 40 = .ok (.ifCond .lt 12, 3) := by decide +kernel
theorem d_Re_endMethod_43 : decode b_Re_endMethod 43 = .ok (.iload_n 2, 1) := by decide +kernel
theorem d_Re_endMethod_44 : decode b_Re_endMethod 44 = .ok (.aload_n 0, 1) := by decide +kernel
theorem d_Re_endMethod_45 : decode b_Re_endMethod 45 = .ok (.getfield 61, 3) := by decide +kernel
theorem d_Re_endMethod_48 : decode b_Re_endMethod 48 = .ok (.invokestatic 103, 3) := by decide +kernel
theorem d_Re_endMethod_51 : decode b_Re_endMethod 51 = .ok (.istore_n 2, 1) := by decide +kernel
theorem d_Re_endMethod_52 : decode b_Re_endMethod 52 = .ok (.iconst 0, 1) := by decide +kernel
theorem d_Re_endMethod_53 : decode b_Re_endMethod 53 = .ok (.istore_n 3, 1) := by decide +kernel
theorem d_Re_endMethod_54 : decode b_Re_endMethod 54 = .ok (.iload_n 3, 1) := by decide +kernel
theorem d_Re_endMethod_55 : decode b_Re_endMethod 55 = .ok (.aload_n 0, 1) := by decide +kernel
theorem d_Re_endMethod_56 : decode b_Re_endMethod 56 = .ok (.getfield 52, 3) := by decide +kernel
theorem d_Re_endMethod_59 : decode b_Re_endMethod 59 = .ok (.getfield 230, 3) := by decide +kernel
theorem d_Re_endMethod_62 : decode b_Re_endMethod 62 = .ok (.if_icmp .ge 152, 3) := by decide +kernel
theorem d_Re_endMethod_65 : decode b_Re_endMethod 65 = .ok (.aload_n 0, 1) := by decide +kernel
theorem d_Re_endMethod_66 : decode b_Re_endMethod 66 = .ok (.aload_n 0, 1) := by decide +kernel
theorem d_Re_endMethod_67 : decode b_Re_endMethod 67 = .ok (.getfield 52, 3) := by decide +kernel
theorem d_Re_endMethod_70 : decode b_Re_endMethod 70 = .ok (.getfield 236, 3) := by decide +kernel
theorem d_Re_endMethod_73 : decode b_Re_endMethod 73 = .ok (.iload_n 3, 1) := by decide +kernel
theorem d_Re_endMethod_74 : decode b_Re_endMethod 74 = .ok (.iaload, 1) := by decide +kernel
theorem d_Re_endMethod_75 : decode b_Re_endMethod 75 = .ok (.invokevirtual 272, 3) := by decide +kernel
theorem d_Re_endMethod_78 : decode b_Re_endMethod 78 = .ok (.istore 4, 2) := by decide +kernel
theorem d_Re_endMethod_80 : decode b_Re_endMethod 80 = .ok (.aload_n 0, 1) := by decide +kernel
theorem d_Re_endMethod_81 : decode b_Re_endMethod 81 = .ok (.getfield 52, 3) := by decide +kernel
theorem d_Re_endMethod_84 : decode b_Re_endMethod 84 = .ok (.getfield 236, 3) := by decide +kernel
theorem d_Re_endMethod_87 : decode b_Re_endMethod 87 = .ok (.iload_n 3, 1) := by decide +kernel
theorem d_Re_endMethod_88 : decode b_Re_endMethod 88 = .ok (.iconst 2, 1) := by decide +kernel
theorem d_Re_endMethod_89 : decode b_Re_endMethod 89 = .ok (.iadd, 1) := by decide +kernel
theorem d_Re_endMethod_90 : decode b_Re_endMethod 90 = .ok (.iaload, 1) := by decide +kernel
theorem d_Re_endMethod_91 : decode b_Re_endMethod 91 = .ok (.istore 5, 2) := by decide +kernel
theorem d_Re_endMethod_93 : decode b_Re_endMethod 93 = .ok (.aload_n 0, 1) := by decide +kernel
theorem d_Re_endMethod_94 : decode b_Re_endMethod 94 = .ok (.getfield 52, 3) := by decide +kernel
theorem d_Re_endMethod_97 : decode b_Re_endMethod 97 = .ok (.getfield 236, 3) := by decide +kernel
theorem d_Re_endMethod_100 : decode b_Re_endMethod 100 = .ok (.iload_n 3, 1) := by decide +kernel
theorem d_Re_endMethod_101 : decode b_Re_endMethod 101 = .ok (.iconst 3, 1) := by decide +kernel
theorem d_Re_endMethod_102 : decode b_Re_endMethod 102 = .ok (.iadd, 1) := by decide +kernel
theorem d_Re_endMethod_103 : decode b_Re_endMethod 103 = .ok (.iaload, 1) := by decide +kernel
theorem d_Re_endMethod_104 : decode b_Re_endMethod 104 = .ok (.istore 6, 2) := by decide +kernel
theorem d_Re_endMethod_106 : decode b_Re_endMethod 106 = .ok (.iload 5, 2) := by decide +kernel
theorem d_Re_endMethod_108 : decode b_Re_endMethod 108 = .ok (.iconst 2, 1) := by decide +kernel
theorem d_Re_endMethod_109 : decode b_Re_endMethod 109 = .ok (.if_icmp .ne 15, 3) := by decide +kernel
theorem d_Re_endMethod_112 : decode b_Re_endMethod 112 = .ok (.iload 6, 2) := by decide +kernel
theorem d_Re_endMethod_114 : decode b_Re_endMethod 114 = .ok (.iconst 4, 1) := by decide +kernel
theorem d_Re_endMethod_115 : decode b_Re_endMethod 115 = .ok (.irem, 1) := by decide +kernel
theorem d_Re_endMethod_116 : decode b_Re_endMethod 116 = .ok (.iconst 1, 1) := by decide +kernel
theorem d_Re_endMethod_117 : decode b_Re_endMethod 117 = .ok (.if_icmp .ne 7, 3) := by decide +kernel
theorem d_Re_endMethod_120 : decode b_Re_endMethod 120 = .ok (.iconst 1, 1) := by decide +kernel
theorem d_Re_endMethod_121 : decode b_Re_endMethod 121 = .ok (.goto 4, 3) := by decide +kernel
theorem d_Re_endMethod_124 : decode b_Re_endMethod 124 = .ok (.iconst 0, 1) := by decide +kernel
theorem d_Re_endMethod_125 : decode b_Re_endMethod 125 = .ok (.istore 7, 2) := by decide +kernel
theorem d_Re_endMethod_127 : decode b_Re_endMethod 127 = .ok (.iload 4, 2) := by decide +kernel
theorem d_Re_endMethod_129 : decode b_Re_endMethod 129 = .ok (.ifCond .lt 14, 3) := by decide +kernel
theorem d_Re_endMethod_132 : decode b_Re_endMethod 132 = .ok (.iload 4, 2) := by decide +kernel
theorem d_Re_endMethod_134 : decode b_Re_endMethod 134 = .ok (.iload_n 1, 1) := by decide +kernel
theorem d_Re_endMethod_135 : decode b_Re_endMethod 135 = .ok (.if_icmp .ne 24, 3) := by decide +kernel
theorem d_Re_endMethod_138 : decode b_Re_endMethod 138 = .ok (.iload 7, 2) := by decide +kernel
theorem d_Re_endMethod_140 : decode b_Re_endMethod 140 = .ok (.ifCond .ne 19, 3) := by decide +kernel
theorem d_Re_endMethod_143 : decode b_Re_endMethod 143 = .ok (.iload_n 2, 1) := by decide +kernel
theorem d_Re_endMethod_144 : decode b_Re_endMethod 144 = .ok (.aload_n 0, 1) := by decide +kernel
theorem d_Re_endMethod_145 : decode b_Re_endMethod 145 = .ok (.getfield 52, 3) := by decide +kernel
theorem d_Re_endMethod_148 : decode b_Re_endMethod 148 = .ok (.getfield 236, 3) := by decide +kernel
theorem d_Re_endMethod_151 : decode b_Re_endMethod 151 = .ok (.iload_n 3, 1) := by decide +kernel
theorem d_Re_endMethod_152 : decode b_Re_endMethod 152 = .ok (.iconst 1, 1) := by decide +kernel
theorem d_Re_endMethod_153 : decode b_Re_endMethod 153 = .ok (.iadd, 1) := by decide +kernel
theorem d_Re_endMethod_154 : decode b_Re_endMethod 154 = .ok (.iaload, 1) := by decide +kernel
theorem d_Re_endMethod_155 : decode b_Re_endMethod 155 = .ok (.invokestatic 103, 3) := by decide +kernel
theorem d_Re_endMethod_158 : decode b_Re_endMethod 158 = .ok (.istore_n 2, 1) := by decide +kernel
theorem d_Re_endMethod_159 : decode b_Re_endMethod 159 = .ok (.iload 5, 2) := by decide +kernel
theorem d_Re_endMethod_161 : decode b_Re_endMethod 161 = .ok (.ifCond .ne 13, 3) := by decide +kernel
theorem d_Re_endMethod_164 : decode b_Re_endMethod 164 = .ok (.aload_n 0, 1) := by decide +kernel
theorem d_Re_endMethod_165 : decode b_Re_endMethod 165 = .ok (.getfield 72, 3) := by decide +kernel
theorem d_Re_endMethod_168 : decode b_Re_endMethod 168 = .ok (.getfield 227, 3) := by decide +kernel
theorem d_Re_endMethod_171 : decode b_Re_endMethod 171 = .ok (.goto 26, 3) := by decide +kernel
theorem d_Re_endMethod_174 : decode b_Re_endMethod 174 = .ok (.iload 5, 2) := by decide +kernel
theorem d_Re_endMethod_176 : decode b_Re_endMethod 176 = .ok (.iconst 1, 1) := by decide +kernel
theorem d_Re_endMethod_177 : decode b_Re_endMethod 177 = .ok (.if_icmp .ne 13, 3) := by decide +kernel
theorem d_Re_endMethod_180 : decode b_Re_endMethod 180 = .ok (.aload_n 0, 1) := by decide +kernel
theorem d_Re_endMethod_181 : decode b_Re_endMethod 181 = .ok (.getfield 72, 3) := by decide +kernel
theorem d_Re_endMethod_184 : decode b_Re_endMethod 184 = .ok (.getfield 275, 3) := by decide +kernel
theorem d_Re_endMethod_187 : decode b_Re_endMethod 187 = .ok (.goto 10, 3) := by decide +kernel
theorem d_Re_endMethod_190 : decode b_Re_endMethod 190 = .ok (.aload_n 0, 1) := by decide +kernel
theorem d_Re_endMethod_191 : decode b_Re_endMethod 191 = .ok (.getfield 72, 3) := by decide +kernel
theorem d_Re_endMethod_194 : decode b_Re_endMethod 194 = .ok (.getfield 233, 3) := by decide +kernel
theorem d_Re_endMethod_197 : decode b_Re_endMethod 197 = .ok (.astore 8, 2) := by decide +kernel
theorem d_Re_endMethod_199 : decode b_Re_endMethod 199 = .ok (.aload 8, 2) := by decide +kernel
theorem d_Re_endMethod_201 : decode b_Re_endMethod 201 = .ok (.iload 6, 2) := by decide +kernel
theorem d_Re_endMethod_203 : decode b_Re_endMethod 203 = .ok (.iload 4, 2) := by decide +kernel
theorem d_Re_endMethod_205 : decode b_Re_endMethod 205 = .ok (.invokevirtual 242, 3) := by decide +kernel
theorem d_Re_endMethod_208 : decode b_Re_endMethod 208 = .ok (.iinc 3 4, 3) := by decide +kernel
theorem d_Re_endMethod_211 : decode b_Re_endMethod 211 = .ok (.goto (-157), 3) := by decide +kernel
theorem d_Re_endMethod_214 : decode b_Re_endMethod 214 = .ok (.iload_n 2, 1) := by decide +kernel
theorem d_Re_endMethod_215 : decode b_Re_endMethod 215 = .ok (.ldc_w 285, 3) := by decide +kernel
theorem d_Re_endMethod_218 : decode b_Re_endMethod 218 = .ok (.if_icmp .ge 10, 3) := by decide +kernel
theorem d_Re_endMethod_221 : decode b_Re_endMethod 221 = .ok (.aload_n 0, 1) := by decide +kernel
theorem d_Re_endMethod_222 : decode b_Re_endMethod 222 = .ok (.bipush 9, 2) := by decide +kernel
theorem d_Re_endMethod_224 : decode b_Re_endMethod 224 = .ok (.iload_n 2, 1) := by decide +kernel
theorem d_Re_endMethod_225 : decode b_Re_endMethod 225 = .ok (.invokevirtual 96, 3) := by decide +kernel
theorem d_Re_endMethod_228 : decode b_Re_endMethod 228 = .ok (.iconst 0, 1) := by decide +kernel
theorem d_Re_endMethod_229 : decode b_Re_endMethod 229 = .ok (.istore_n 3, 1) := by decide +kernel
theorem d_Re_endMethod_230 : decode b_Re_endMethod 230 = .ok (.iload_n 3, 1) := by decide +kernel
theorem d_Re_endMethod_231 : decode b_Re_endMethod 231 = .ok (.aload_n 0, 1) := by decide +kernel
theorem d_Re_endMethod_232 : decode b_Re_endMethod 232 = .ok (.getfield 52, 3) := by decide +kernel
theorem d_Re_endMethod_235 : decode b_Re_endMethod 235 = .ok (.getfield 230, 3) := by decide +kernel
theorem d_Re_endMethod_238 : decode b_Re_endMethod 238 = .ok (.if_icmp .ge 104, 3) := by decide +kernel
theorem d_Re_endMethod_241 : decode b_Re_endMethod 241 = .ok (.aload_n 0, 1) := by decide +kernel
theorem d_Re_endMethod_242 : decode b_Re_endMethod 242 = .ok (.getfield 52, 3) := by decide +kernel
theorem d_Re_endMethod_245 : decode b_Re_endMethod 245 = .ok (.getfield 236, 3) := by decide +kernel
theorem d_Re_endMethod_248 : decode b_Re_endMethod 248 = .ok (.iload_n 3, 1) := by decide +kernel
theorem d_Re_endMethod_249 : decode b_Re_endMethod 249 = .ok (.iconst 3, 1) := by decide +kernel
theorem d_Re_endMethod_250 : decode b_Re_endMethod 250 = .ok (.iadd, 1) := by decide +kernel
theorem d_Re_endMethod_251 : decode b_Re_endMethod 251 = .ok (.iaload, 1) := by decide +kernel
theorem d_Re_endMethod_252 : decode b_Re_endMethod 252 = .ok (.istore 4, 2) := by decide +kernel
theorem d_Re_endMethod_254 : decode b_Re_endMethod 254 = .ok (.aload_n 0, 1) := by decide +kernel
theorem d_Re_endMethod_255 : decode b_Re_endMethod 255 = .ok (.getfield 52, 3) := by decide +kernel
theorem d_Re_endMethod_258 : decode b_Re_endMethod 258 = .ok (.getfield 236, 3) := by decide +kernel
theorem d_Re_endMethod_261 : decode b_Re_endMethod 261 = .ok (.iload_n 3, 1) := by decide +kernel
theorem d_Re_endMethod_262 : decode b_Re_endMethod 262 = .ok (.iconst 2, 1) := by decide +kernel
theorem d_Re_endMethod_263 : decode b_Re_endMethod 263 = .ok (.iadd, 1) := by decide +kernel
theorem d_Re_endMethod_264 : decode b_Re_endMethod 264 = .ok (.iaload, 1) := by decide +kernel
theorem d_Re_endMethod_265 : decode b_Re_endMethod 265 = .ok (.iconst 2, 1) := by decide +kernel
theorem d_Re_endMethod_266 : decode b_Re_endMethod 266 = .ok (.if_icmp .ne 14, 3) := by decide +kernel
theorem d_Re_endMethod_269 : decode b_Re_endMethod 269 = .ok (.iload 4, 2) := by decide +kernel
theorem d_Re_endMethod_271 : decode b_Re_endMethod 271 = .ok (.iconst 4, 1) := by decide +kernel
theorem d_Re_endMethod_272 : decode b_Re_endMethod 272 = .ok (.irem, 1) := by decide +kernel
theorem d_Re_endMethod_273 : decode b_Re_endMethod 273 = .ok (.ifCond .ne 7, 3) := by decide +kernel
theorem d_Re_endMethod_276 : decode b_Re_endMethod 276 = .ok (.iconst 1, 1) := by decide +kernel
theorem d_Re_endMethod_277 : decode b_Re_endMethod 277 = .ok (.goto 4, 3) := by decide +kernel
theorem d_Re_endMethod_280 : decode b_Re_endMethod 280 = .ok (.iconst 0, 1) := by decide +kernel
theorem d_Re_endMethod_281 : decode b_Re_endMethod 281 = .ok (.istore 5, 2) := by decide +kernel
theorem d_Re_endMethod_283 : decode b_Re_endMethod 283 = .ok (.iload 5, 2) := by decide +kernel
theorem d_Re_endMethod_285 : decode b_Re_endMethod 285 = .ok (.ifCond .eq 51, 3) := by decide +kernel
theorem d_Re_endMethod_288 : decode b_Re_endMethod 288 = .ok (.aload_n 0, 1) := by decide +kernel
theorem d_Re_endMethod_289 : decode b_Re_endMethod 289 = .ok (.getfield 72, 3) := by decide +kernel
theorem d_Re_endMethod_292 : decode b_Re_endMethod 292 = .ok (.getfield 233, 3) := by decide +kernel
theorem d_Re_endMethod_295 : decode b_Re_endMethod 295 = .ok (.getfield 236, 3) := by decide +kernel
theorem d_Re_endMethod_298 : decode b_Re_endMethod 298 = .ok (.iload 4, 2) := by decide +kernel
theorem d_Re_endMethod_300 : decode b_Re_endMethod 300 = .ok (.iaload, 1) := by decide +kernel
theorem d_Re_endMethod_301 : decode b_Re_endMethod 301 = .ok (.aload_n 0, 1) := by decide +kernel
theorem d_Re_endMethod_302 : decode b_Re_endMethod 302 = .ok (.getfield 72, 3) := by decide +kernel
theorem d_Re_endMethod_305 : decode b_Re_endMethod 305 = .ok (.getfield 233, 3) := by decide +kernel
theorem d_Re_endMethod_308 : decode b_Re_endMethod 308 = .ok (.getfield 236, 3) := by decide +kernel
theorem d_Re_endMethod_311 : decode b_Re_endMethod 311 = .ok (.iload 4, 2) := by decide +kernel
theorem d_Re_endMethod_313 : decode b_Re_endMethod 313 = .ok (.iconst 1, 1) := by decide +kernel
theorem d_Re_endMethod_314 : decode b_Re_endMethod 314 = .ok (.iadd, 1) := by decide +kernel
theorem d_Re_endMethod_315 : decode b_Re_endMethod 315 = .ok (.iaload, 1) := by decide +kernel
theorem d_Re_endMethod_316 : decode b_Re_endMethod 316 = .ok (.if_icmp .lt 20, 3) := by decide +kernel
theorem d_Re_endMethod_319 : decode b_Re_endMethod 319 = .ok (.aload_n 0, 1) := by decide +kernel
theorem d_Re_endMethod_320 : decode b_Re_endMethod 320 = .ok (.bipush 10, 2) := by decide +kernel
theorem d_Re_endMethod_322 : decode b_Re_endMethod 322 = .ok (.aload_n 0, 1) := by decide +kernel
theorem d_Re_endMethod_323 : decode b_Re_endMethod 323 = .ok (.getfield 52, 3) := by decide +kernel
theorem d_Re_endMethod_326 : decode b_Re_endMethod 326 = .ok (.getfield 236, 3) := by decide +kernel
theorem d_Re_endMethod_329 : decode b_Re_endMethod 329 = .ok (.iload_n 3, 1) := by decide +kernel
theorem d_Re_endMethod_330 : decode b_Re_endMethod 330 = .ok (.iconst 1, 1) := by decide +kernel
theorem d_Re_endMethod_331 : decode b_Re_endMethod 331 = .ok (.iadd, 1) := by decide +kernel
theorem d_Re_endMethod_332 : decode b_Re_endMethod 332 = .ok (.iaload, 1) := by decide +kernel
theorem d_Re_endMethod_333 : decode b_Re_endMethod 333 = .ok (.invokevirtual 96, 3) := by decide +kernel
theorem d_Re_endMethod_336 : decode b_Re_endMethod 336 = .ok (.iinc 3 4, 3) := by decide +kernel
theorem d_Re_endMethod_339 : decode b_Re_endMethod 339 = .ok (.goto (-109), 3) := by decide +kernel
theorem d_Re_endMethod_342 : decode b_Re_endMethod 342 = .ok (.iload_n 1, 1) := by decide +kernel
theorem d_Re_endMethod_343 : decode b_Re_endMethod 343 = .ok (.ifCond .ne 18, 3) := by decide +kernel
theorem d_Re_endMethod_346 : decode b_Re_endMethod 346 = .ok (.aload_n 0, 1) := by decide +kernel
theorem d_Re_endMethod_347 : decode b_Re_endMethod 347 = .ok (.bipush 8, 2) := by decide +kernel
theorem d_Re_endMethod_349 : decode b_Re_endMethod 349 = .ok (.aload_n 0, 1) := by decide +kernel
theorem d_Re_endMethod_350 : decode b_Re_endMethod 350 = .ok (.getfield 68, 3) := by decide +kernel
theorem d_Re_endMethod_353 : decode b_Re_endMethod 353 = .ok (.getfield 131, 3) := by decide +kernel
theorem d_Re_endMethod_356 : decode b_Re_endMethod 356 = .ok (.iconst 0, 1) := by decide +kernel
theorem d_Re_endMethod_357 : decode b_Re_endMethod 357 = .ok (.iaload, 1) := by decide +kernel
theorem d_Re_endMethod_358 : decode b_Re_endMethod 358 = .ok (.invokevirtual 96, 3) := by decide +kernel
theorem d_Re_endMethod_361 : decode b_Re_endMethod 361 = .ok (.return_, 1) := by decide +kernel
abbrev ru_Re_endMethod : Room := { frames := 1, cells := 0, slots := 0, locals := 30 }
def wj_Re_endMethod_361 (y : Ly) (Post : St → Prop) (a0 : Nat) (s_j361 : St) : Prop := Post s_j361
def wj_Re_endMethod_336 (y : Ly) (Post : St → Prop) (K_230 : St → Int32 → Int32 → Prop) (a0 : Nat) (s_j336 : St) (x1j336 : Int32) (x3j336 : Int32) : Prop := K_230 s_j336 x1j336 (x3j336 + 4)
def wj_Re_endMethod_281 (y : Ly) (Post : St → Prop) (K_230 : St → Int32 → Int32 → Prop) (a0 : Nat) (s_j281 : St) (x1j281 : Int32) (x3j281 : Int32) (x4j281 : Int32) (z0j281 : Int32) : Prop := ((z0j281 = 0 → wj_Re_endMethod_336 y Post K_230 a0 s_j281 x1j281 x3j281) ∧ (¬ (z0j281 = 0) → ∃ b_10 : Nat, sO s_j281 a0 4 = some b_10 ∧ cl b_10 = 9 ∧ xA y s_j281 (lk b_10 11) 0 x4j281 (fun x_13 : Int32 => ∃ b_14 : Nat, sO s_j281 a0 4 = some b_14 ∧ cl b_14 = 9 ∧ xA y s_j281 (lk b_14 11) 0 (x4j281 + 1) (fun x_17 : Int32 => ((x_13 < x_17 → wj_Re_endMethod_336 y Post K_230 a0 s_j281 x1j281 x3j281) ∧ (¬ (x_13 < x_17) → xA y s_j281 (lk a0 14) 0 (x3j281 + 1) (fun x_18 : Int32 => wu_Re_refuse y (fun (s_20 : St) => wj_Re_endMethod_336 y Post K_230 a0 s_20 x1j281 x3j281) s_j281 a0 10 x_18)))))))
def wj_Re_endMethod_280 (y : Ly) (Post : St → Prop) (K_230 : St → Int32 → Int32 → Prop) (a0 : Nat) (s_j280 : St) (x1j280 : Int32) (x3j280 : Int32) (x4j280 : Int32) : Prop := wj_Re_endMethod_281 y Post K_230 a0 s_j280 x1j280 x3j280 x4j280 0
def wb_Re_endMethod_230 (y : Ly) (Post : St → Prop) (K_230 : St → Int32 → Int32 → Prop) (a0 : Nat) (s_h230 : St) (x1h230 : Int32) (x3h230 : Int32) : Prop := (((sV s_h230 (lk a0 14) 1) ≤ x3h230 → ((¬ x1h230 = 0 → wj_Re_endMethod_361 y Post a0 s_h230) ∧ (x1h230 = 0 → xA y s_h230 (lk a0 3) 2 0 (fun x_5 : Int32 => wu_Re_refuse y (fun (s_7 : St) => wj_Re_endMethod_361 y Post a0 s_7) s_h230 a0 8 x_5)))) ∧ (¬ ((sV s_h230 (lk a0 14) 1) ≤ x3h230) → xA y s_h230 (lk a0 14) 0 (x3h230 + 3) (fun x_8 : Int32 => xA y s_h230 (lk a0 14) 0 (x3h230 + 2) (fun x_9 : Int32 => ((¬ x_9 = 2 → wj_Re_endMethod_280 y Post K_230 a0 s_h230 x1h230 x3h230 x_8) ∧ (x_9 = 2 → ((¬ (x_8 - x_8 / 4 * 4) = 0 → wj_Re_endMethod_280 y Post K_230 a0 s_h230 x1h230 x3h230 x_8) ∧ ((x_8 - x_8 / 4 * 4) = 0 → wj_Re_endMethod_281 y Post K_230 a0 s_h230 x1h230 x3h230 x_8 1))))))))
def wl_Re_endMethod_230 (y : Ly) (Post : St → Prop) (a0 : Nat) (s_h230 : St) (x1h230 : Int32) (x3h230 : Int32) : Prop := ∃ (I : St → Int32 → Int32 → Prop) (μ : St → Int32 → Int32 → Nat), I s_h230 x1h230 x3h230 ∧ ∀ (u : St) (t0 : Int32) (t1 : Int32), I u t0 t1 → wb_Re_endMethod_230 y Post (fun z t0q t1q => I z t0q t1q ∧ μ z t0q t1q < μ u t0 t1) a0 u t0 t1
def wj_Re_endMethod_228 (y : Ly) (Post : St → Prop) (a0 : Nat) (s_j228 : St) (x1j228 : Int32) : Prop := wl_Re_endMethod_230 y Post a0 s_j228 x1j228 0
def wj_Re_endMethod_197 (y : Ly) (Post : St → Prop) (K_54 : St → Int32 → Int32 → Int32 → Prop) (a0 : Nat) (s_j197 : St) (x1j197 : Int32) (x2j197 : Int32) (x3j197 : Int32) (x4j197 : Int32) (x6j197 : Int32) (z0j197 : Nat) : Prop := cl z0j197 = 3 ∧ wu_In_put y (fun (s_29 : St) => K_54 s_29 x1j197 x2j197 (x3j197 + 4)) s_j197 z0j197 x6j197 x4j197
def wj_Re_endMethod_159 (y : Ly) (Post : St → Prop) (K_54 : St → Int32 → Int32 → Int32 → Prop) (a0 : Nat) (s_j159 : St) (x1j159 : Int32) (x2j159 : Int32) (x3j159 : Int32) (x4j159 : Int32) (x5j159 : Int32) (x6j159 : Int32) : Prop := ((¬ x5j159 = 0 → ((¬ x5j159 = 1 → ∃ b_30 : Nat, sO s_j159 a0 4 = some b_30 ∧ cl b_30 = 9 ∧ wj_Re_endMethod_197 y Post K_54 a0 s_j159 x1j159 x2j159 x3j159 x4j159 x6j159 (lk b_30 11)) ∧ (x5j159 = 1 → ∃ b_33 : Nat, sO s_j159 a0 4 = some b_33 ∧ cl b_33 = 9 ∧ wj_Re_endMethod_197 y Post K_54 a0 s_j159 x1j159 x2j159 x3j159 x4j159 x6j159 (lk b_33 12)))) ∧ (x5j159 = 0 → ∃ b_36 : Nat, sO s_j159 a0 4 = some b_36 ∧ cl b_36 = 9 ∧ wj_Re_endMethod_197 y Post K_54 a0 s_j159 x1j159 x2j159 x3j159 x4j159 x6j159 (lk b_36 10)))
def wj_Re_endMethod_143 (y : Ly) (Post : St → Prop) (K_54 : St → Int32 → Int32 → Int32 → Prop) (a0 : Nat) (s_j143 : St) (x1j143 : Int32) (x2j143 : Int32) (x3j143 : Int32) (x4j143 : Int32) (x5j143 : Int32) (x6j143 : Int32) : Prop := xA y s_j143 (lk a0 14) 0 (x3j143 + 1) (fun x_39 : Int32 => wj_Re_endMethod_159 y Post K_54 a0 s_j143 x1j143 (if x_39 < x2j143 then x_39 else x2j143) x3j143 x4j143 x5j143 x6j143)
def wj_Re_endMethod_125 (y : Ly) (Post : St → Prop) (K_54 : St → Int32 → Int32 → Int32 → Prop) (a0 : Nat) (s_j125 : St) (x1j125 : Int32) (x2j125 : Int32) (x3j125 : Int32) (x4j125 : Int32) (x5j125 : Int32) (x6j125 : Int32) (z0j125 : Int32) : Prop := ((x4j125 < 0 → wj_Re_endMethod_143 y Post K_54 a0 s_j125 x1j125 x2j125 x3j125 x4j125 x5j125 x6j125) ∧ (¬ (x4j125 < 0) → ((¬ x4j125 = x1j125 → wj_Re_endMethod_159 y Post K_54 a0 s_j125 x1j125 x2j125 x3j125 x4j125 x5j125 x6j125) ∧ (x4j125 = x1j125 → ((¬ z0j125 = 0 → wj_Re_endMethod_159 y Post K_54 a0 s_j125 x1j125 x2j125 x3j125 x4j125 x5j125 x6j125) ∧ (z0j125 = 0 → wj_Re_endMethod_143 y Post K_54 a0 s_j125 x1j125 x2j125 x3j125 x4j125 x5j125 x6j125))))))
def wj_Re_endMethod_124 (y : Ly) (Post : St → Prop) (K_54 : St → Int32 → Int32 → Int32 → Prop) (a0 : Nat) (s_j124 : St) (x1j124 : Int32) (x2j124 : Int32) (x3j124 : Int32) (x4j124 : Int32) (x5j124 : Int32) (x6j124 : Int32) : Prop := wj_Re_endMethod_125 y Post K_54 a0 s_j124 x1j124 x2j124 x3j124 x4j124 x5j124 x6j124 0
def wb_Re_endMethod_54 (y : Ly) (Post : St → Prop) (K_54 : St → Int32 → Int32 → Int32 → Prop) (a0 : Nat) (s_h54 : St) (x1h54 : Int32) (x2h54 : Int32) (x3h54 : Int32) : Prop := (((sV s_h54 (lk a0 14) 1) ≤ x3h54 → ((2147483647 ≤ x2h54 → wj_Re_endMethod_228 y Post a0 s_h54 x1h54) ∧ (¬ (2147483647 ≤ x2h54) → wu_Re_refuse y (fun (s_22 : St) => wj_Re_endMethod_228 y Post a0 s_22 x1h54) s_h54 a0 9 x2h54))) ∧ (¬ ((sV s_h54 (lk a0 14) 1) ≤ x3h54) → xA y s_h54 (lk a0 14) 0 x3h54 (fun x_23 : Int32 => wu_Re_labelAt y (fun (s_25 : St) (r_24 : Int32) => xA y s_25 (lk a0 14) 0 (x3h54 + 2) (fun x_26 : Int32 => xA y s_25 (lk a0 14) 0 (x3h54 + 3) (fun x_27 : Int32 => ((¬ x_26 = 2 → wj_Re_endMethod_124 y Post K_54 a0 s_25 x1h54 x2h54 x3h54 r_24 x_26 x_27) ∧ (x_26 = 2 → ((¬ (x_27 - x_27 / 4 * 4) = 1 → wj_Re_endMethod_124 y Post K_54 a0 s_25 x1h54 x2h54 x3h54 r_24 x_26 x_27) ∧ ((x_27 - x_27 / 4 * 4) = 1 → wj_Re_endMethod_125 y Post K_54 a0 s_25 x1h54 x2h54 x3h54 r_24 x_26 x_27 1))))))) s_h54 a0 x_23)))
def wl_Re_endMethod_54 (y : Ly) (Post : St → Prop) (a0 : Nat) (s_h54 : St) (x1h54 : Int32) (x2h54 : Int32) (x3h54 : Int32) : Prop := ∃ (I : St → Int32 → Int32 → Int32 → Prop) (μ : St → Int32 → Int32 → Int32 → Nat), I s_h54 x1h54 x2h54 x3h54 ∧ ∀ (u : St) (t0 : Int32) (t1 : Int32) (t2 : Int32), I u t0 t1 t2 → wb_Re_endMethod_54 y Post (fun z t0q t1q t2q => I z t0q t1q t2q ∧ μ z t0q t1q t2q < μ u t0 t1 t2) a0 u t0 t1 t2
def wj_Re_endMethod_52 (y : Ly) (Post : St → Prop) (a0 : Nat) (s_j52 : St) (x1j52 : Int32) (x2j52 : Int32) : Prop := wl_Re_endMethod_54 y Post a0 s_j52 x1j52 x2j52 0
def wj_Re_endMethod_35 (y : Ly) (Post : St → Prop) (a0 : Nat) (s_j35 : St) (x1j35 : Int32) (z0j35 : Int32) : Prop := (((sV s_j35 a0 16) < 0 → wj_Re_endMethod_52 y Post a0 s_j35 x1j35 z0j35) ∧ (¬ ((sV s_j35 a0 16) < 0) → wj_Re_endMethod_52 y Post a0 s_j35 x1j35 (if (sV s_j35 a0 17) < z0j35 then (sV s_j35 a0 17) else z0j35)))
def wu_Re_endMethod (y : Ly) (Post : St → Prop) (σ : St) (a0 : Nat) : Prop := ∃ b_1 : Nat, sO σ a0 4 = some b_1 ∧ cl b_1 = 9 ∧ xA y σ (lk b_1 9) 0 ((sV σ a0 10) + 5) (fun x_4 : Int32 => ((0 ≤ (sV σ a0 15) → wj_Re_endMethod_35 y Post a0 σ x_4 (sV σ a0 15)) ∧ (¬ (0 ≤ (sV σ a0 15)) → wj_Re_endMethod_35 y Post a0 σ x_4 2147483647)))
set_option maxHeartbeats 4000000 in
set_option maxRecDepth 100000 in
theorem cu_Re_endMethod (l : Launch) (D : va_G) (g : Nat → ClassId) (ad : Nat → Nat) (y : Ly) (Post : St → Prop) (σ : St) (a0 : Nat) (sz : Nat) (h_a0 : cl a0 = 6) (h : wu_Re_endMethod y Post σ a0) : Met l y_Re_endMethod (mw y_Re_endMethod b_Re_endMethod 9 (none)) ru_Re_endMethod (PC g D [] [.ref (ad a0)] sz (ws g ad y σ)) (va_Qv (fun u : St => Post u) (QW D (va_A (ws g ad y σ) sz) (fun u => ws g ad y u)) (va_A (ws g ad y σ) sz)) 0 0 (va_A (ws g ad y σ) sz) := by
  refine ofV (by decide +kernel) (Nat.le_of_ble_eq_true rfl) ?_
  intro p e s m args below meth c A Q ls H locs G hsz hP hD hS hl hret
  subst hsz
  have hl : lv_has ls 9 [(0, .ref (ad a0))] := hl
  unfold wu_Re_endMethod at h
  refine lv_aload_n G.1 G.2.1 d_Re_endMethod_0 rfl (lv_at hl 0 rfl) ?_
  obtain ⟨b_1, e_2, c_3, h⟩ := h
  refine ugf (v := .ref (ad b_1)) G hP h_a0 iRe rfl 4 (by decide) rfl q591 rfl (by show va_rf ((sO σ a0 4).map ad) = _; rw [e_2]; rfl) d_Re_endMethod_1 ?_
  refine ugf (v := .ref (ad (lk b_1 9))) G hP c_3 iWd rfl 9 (by decide) rfl q840 rfl rfl d_Re_endMethod_4 ?_
  refine ugf (v := .ref (yP y (lk b_1 9) 0)) G hP (lk_9_9 c_3) iIn rfl 0 (by decide) rfl q387 rfl rfl d_Re_endMethod_7 ?_
  refine lv_aload_n G.1 G.2.1 d_Re_endMethod_10 rfl (lv_at hl 0 rfl) ?_
  refine ugf (v := .int (sV σ a0 10)) G hP h_a0 iRe rfl 10 (by decide) rfl q597 rfl rfl d_Re_endMethod_11 ?_
  refine lv_iconst (v := 5) G.1 G.2.1 d_Re_endMethod_14 (by decide) ?_
  refine lv_iadd G.1 G.2.1 d_Re_endMethod_15 ?_
  refine uiald G hP (kdp (lk_9_9 c_3) rfl) (typ (lk_9_9 c_3) rfl) h d_Re_endMethod_16 (fun x_4 h => ?_)
  refine lv_istore_n (lv' := [(1, .int x_4), (0, .ref (ad a0))]) G.1 G.2.1 d_Re_endMethod_17 rfl hl (by decide) rfl (fun ls hl => ?_)
  refine lv_aload_n G.1 G.2.1 d_Re_endMethod_18 rfl (lv_at hl 1 rfl) ?_
  refine W.eq (g2 := F0 m 19 ls [.ref (ad a0)]) rfl ?_
  refine ugf (v := .int (sV σ a0 15)) G hP h_a0 iRe rfl 15 (by decide) rfl q602 rfl rfl d_Re_endMethod_19 ?_
  have J_35 : ∀ (s_j35 : St) (x1j35 : Int32) (z0j35 : Int32) (H : Heap) (locs : List Loc), wj_Re_endMethod_35 y Post a0 s_j35 x1j35 z0j35 → va_P D CL (ws g ad y s_j35) H → va_D A (ws g ad y s_j35) → va_S A s.heap H locs → ∀ ls, lv_has ls 9 [(0, .ref (ad a0)), (1, .int x1j35)] → W p l e ru_Re_endMethod s m args below meth c H locs 0 0 Q (F0 m 35 ls [.int z0j35]) := by
    intro s_j35 x1j35 z0j35 H locs h hP hD hS ls hl
    unfold wj_Re_endMethod_35 at h
    refine lv_istore_n (lv' := [(2, .int z0j35), (0, .ref (ad a0)), (1, .int x1j35)]) G.1 G.2.1 d_Re_endMethod_35 rfl hl (by decide) rfl (fun ls hl => ?_)
    refine lv_aload_n G.1 G.2.1 d_Re_endMethod_36 rfl (lv_at hl 1 rfl) ?_
    refine ugf (v := .int (sV s_j35 a0 16)) G hP h_a0 iRe rfl 16 (by decide) rfl q603 rfl rfl d_Re_endMethod_37 ?_
    have J_52 : ∀ (s_j52 : St) (x1j52 : Int32) (x2j52 : Int32) (H : Heap) (locs : List Loc), wj_Re_endMethod_52 y Post a0 s_j52 x1j52 x2j52 → va_P D CL (ws g ad y s_j52) H → va_D A (ws g ad y s_j52) → va_S A s.heap H locs → ∀ ls, lv_has ls 9 [(0, .ref (ad a0)), (1, .int x1j52), (2, .int x2j52)] → W p l e ru_Re_endMethod s m args below meth c H locs 0 0 Q (F0 m 52 ls []) := by
      intro s_j52 x1j52 x2j52 H locs h hP hD hS ls hl
      unfold wj_Re_endMethod_52 at h
      refine lv_iconst (v := 0) G.1 G.2.1 d_Re_endMethod_52 (by decide) ?_
      refine lv_istore_n (lv' := [(3, .int 0), (0, .ref (ad a0)), (1, .int x1j52), (2, .int x2j52)]) G.1 G.2.1 d_Re_endMethod_53 rfl hl (by decide) rfl (fun ls hl => ?_)
      unfold wl_Re_endMethod_54 at h
      obtain ⟨I_54, μ_54, hI_54, hB_54⟩ := h
      have L_54 : ∀ (n_54 : Nat) (s_h54 : St) (x1h54 : Int32) (x2h54 : Int32) (x3h54 : Int32), μ_54 s_h54 x1h54 x2h54 x3h54 < n_54 → I_54 s_h54 x1h54 x2h54 x3h54 → ∀ (H : Heap) (locs : List Loc), va_P D CL (ws g ad y s_h54) H → va_D A (ws g ad y s_h54) → va_S A s.heap H locs → ∀ ls, lv_has ls 9 [(0, .ref (ad a0)), (1, .int x1h54), (2, .int x2h54), (3, .int x3h54)] → W p l e ru_Re_endMethod s m args below meth c H locs 0 0 Q (F0 m 54 ls []) := by
        intro n_54
        induction n_54 with
        | zero => intro s_h54 x1h54 x2h54 x3h54 hμ; exact absurd hμ (Nat.not_lt_zero _)
        | succ n_54 ih_54 =>
          intro s_h54 x1h54 x2h54 x3h54 hμ_54 hJ H locs hP hD hS ls hl
          obtain ⟨K_54, hK_54, h⟩ : ∃ K : St → Int32 → Int32 → Int32 → Prop, (∀ z (t0 : Int32) (t1 : Int32) (t2 : Int32), K z t0 t1 t2 → I_54 z t0 t1 t2 ∧ μ_54 z t0 t1 t2 < μ_54 s_h54 x1h54 x2h54 x3h54) ∧ wb_Re_endMethod_54 y Post K a0 s_h54 x1h54 x2h54 x3h54 := ⟨_, fun _ _ _ _ h => h, hB_54 s_h54 x1h54 x2h54 x3h54 hJ⟩
          unfold wb_Re_endMethod_54 at h
          refine lv_iload_n G.1 G.2.1 d_Re_endMethod_54 rfl (lv_at hl 3 rfl) ?_
          refine lv_aload_n G.1 G.2.1 d_Re_endMethod_55 rfl (lv_at hl 0 rfl) ?_
          refine ugf (v := .ref (ad (lk a0 14))) G hP h_a0 iRe rfl 14 (by decide) rfl q601 rfl rfl d_Re_endMethod_56 ?_
          refine ugf (v := .int (sV s_h54 (lk a0 14) 1)) G hP (lk_6_14 h_a0) iIn rfl 1 (by decide) rfl q396 rfl rfl d_Re_endMethod_59 ?_
          refine lv_icmp_ge (tgt := 214) G.1 G.2.1 d_Re_endMethod_62 (by decide) (fun c62 => ?_) (fun c62 => ?_)
          · skip
            have h := h.1 c62
            refine lv_iload_n G.1 G.2.1 d_Re_endMethod_214 rfl (lv_at hl 2 rfl) ?_
            refine lv_ldcw (v := 2147483647) G.1 G.2.1 G.2.2.2.2.2.2.1 (G.2.2.2.2.2.1 _ q1424) d_Re_endMethod_215 ?_
            have J_228 : ∀ (s_j228 : St) (x1j228 : Int32) (H : Heap) (locs : List Loc), wj_Re_endMethod_228 y Post a0 s_j228 x1j228 → va_P D CL (ws g ad y s_j228) H → va_D A (ws g ad y s_j228) → va_S A s.heap H locs → ∀ ls, lv_has ls 9 [(0, .ref (ad a0)), (1, .int x1j228)] → W p l e ru_Re_endMethod s m args below meth c H locs 0 0 Q (F0 m 228 ls []) := by
              intro s_j228 x1j228 H locs h hP hD hS ls hl
              unfold wj_Re_endMethod_228 at h
              refine lv_iconst (v := 0) G.1 G.2.1 d_Re_endMethod_228 (by decide) ?_
              refine lv_istore_n (lv' := [(3, .int 0), (0, .ref (ad a0)), (1, .int x1j228)]) G.1 G.2.1 d_Re_endMethod_229 rfl hl (by decide) rfl (fun ls hl => ?_)
              unfold wl_Re_endMethod_230 at h
              obtain ⟨I_230, μ_230, hI_230, hB_230⟩ := h
              have L_230 : ∀ (n_230 : Nat) (s_h230 : St) (x1h230 : Int32) (x3h230 : Int32), μ_230 s_h230 x1h230 x3h230 < n_230 → I_230 s_h230 x1h230 x3h230 → ∀ (H : Heap) (locs : List Loc), va_P D CL (ws g ad y s_h230) H → va_D A (ws g ad y s_h230) → va_S A s.heap H locs → ∀ ls, lv_has ls 9 [(0, .ref (ad a0)), (1, .int x1h230), (3, .int x3h230)] → W p l e ru_Re_endMethod s m args below meth c H locs 0 0 Q (F0 m 230 ls []) := by
                intro n_230
                induction n_230 with
                | zero => intro s_h230 x1h230 x3h230 hμ; exact absurd hμ (Nat.not_lt_zero _)
                | succ n_230 ih_230 =>
                  intro s_h230 x1h230 x3h230 hμ_230 hJ H locs hP hD hS ls hl
                  obtain ⟨K_230, hK_230, h⟩ : ∃ K : St → Int32 → Int32 → Prop, (∀ z (t0 : Int32) (t1 : Int32), K z t0 t1 → I_230 z t0 t1 ∧ μ_230 z t0 t1 < μ_230 s_h230 x1h230 x3h230) ∧ wb_Re_endMethod_230 y Post K a0 s_h230 x1h230 x3h230 := ⟨_, fun _ _ _ h => h, hB_230 s_h230 x1h230 x3h230 hJ⟩
                  unfold wb_Re_endMethod_230 at h
                  refine lv_iload_n G.1 G.2.1 d_Re_endMethod_230 rfl (lv_at hl 2 rfl) ?_
                  refine lv_aload_n G.1 G.2.1 d_Re_endMethod_231 rfl (lv_at hl 0 rfl) ?_
                  refine ugf (v := .ref (ad (lk a0 14))) G hP h_a0 iRe rfl 14 (by decide) rfl q601 rfl rfl d_Re_endMethod_232 ?_
                  refine ugf (v := .int (sV s_h230 (lk a0 14) 1)) G hP (lk_6_14 h_a0) iIn rfl 1 (by decide) rfl q396 rfl rfl d_Re_endMethod_235 ?_
                  refine lv_icmp_ge (tgt := 342) G.1 G.2.1 d_Re_endMethod_238 (by decide) (fun c238 => ?_) (fun c238 => ?_)
                  · skip
                    have h := h.1 c238
                    refine lv_iload_n G.1 G.2.1 d_Re_endMethod_342 rfl (lv_at hl 1 rfl) ?_
                    have J_361 : ∀ (s_j361 : St) (H : Heap) (locs : List Loc), wj_Re_endMethod_361 y Post a0 s_j361 → va_P D CL (ws g ad y s_j361) H → va_D A (ws g ad y s_j361) → va_S A s.heap H locs → ∀ ls, lv_has ls 9 [] → W p l e ru_Re_endMethod s m args below meth c H locs 0 0 Q (F0 m 361 ls []) := by
                      intro s_j361 H locs h hP hD hS ls hl
                      unfold wj_Re_endMethod_361 at h
                      exact hret _ _ _ _ _ _ ls h hP hD hS (Nat.le_refl _) (Nat.le_refl _) d_Re_endMethod_361
                    refine lv_if_ne (tgt := 361) G.1 G.2.1 d_Re_endMethod_343 (by decide) (fun c343 => ?_) (fun c343 => ?_)
                    · skip
                      have h := h.1 c343
                      exact J_361 s_h230 H locs h hP hD hS ls (lv_sub hl [] rfl)
                    · skip
                      have h := h.2 c343
                      refine lv_aload_n G.1 G.2.1 d_Re_endMethod_346 rfl (lv_at hl 0 rfl) ?_
                      refine lv_bipush (v := 8) G.1 G.2.1 d_Re_endMethod_347 (by decide) ?_
                      refine lv_aload_n G.1 G.2.1 d_Re_endMethod_349 rfl (lv_at hl 0 rfl) ?_
                      refine ugf (v := .ref (ad (lk a0 3))) G hP h_a0 iRe rfl 3 (by decide) rfl q590 rfl rfl d_Re_endMethod_350 ?_
                      refine W.eq (g2 := F0 m 353 ls [.ref (ad (lk a0 3)), .int 8, .ref (ad a0)]) rfl ?_
                      refine ugf (v := .ref (yP y (lk a0 3) 2)) G hP (lk_6_3 h_a0) iWo rfl 2 (by decide) rfl q552 rfl rfl d_Re_endMethod_353 ?_
                      refine lv_iconst (v := 0) G.1 G.2.1 d_Re_endMethod_356 (by decide) ?_
                      refine uiald G hP (kdp (lk_6_3 h_a0) rfl) (typ (lk_6_3 h_a0) rfl) h d_Re_endMethod_357 (fun x_5 h => ?_)
                      refine ucVv (As := [.int 8, .int x_5]) (rest := []) G hP hD hS (cu_Re_refuse l D g ad y _ s_h230 a0 8 x_5 H.size h_a0 h) w9_Re_refuse q1317 ⟨Nat.le_of_ble_eq_true rfl, Nat.le_of_ble_eq_true rfl⟩ rfl rfl h_a0 (q := (RRe, TRe, 18)) rfl rfl hl.1 rfl (Nat.le_of_ble_eq_true rfl) rfl ⟨Nat.le_refl _, Nat.le_refl _⟩ d_Re_endMethod_358 (fun s_7 H locs h hP hD hS => ?_)
                      exact J_361 s_7 H locs h hP hD hS ls (lv_sub hl [] rfl)
                  · skip
                    have h := h.2 c238
                    refine lv_aload_n G.1 G.2.1 d_Re_endMethod_241 rfl (lv_at hl 0 rfl) ?_
                    refine ugf (v := .ref (ad (lk a0 14))) G hP h_a0 iRe rfl 14 (by decide) rfl q601 rfl rfl d_Re_endMethod_242 ?_
                    refine ugf (v := .ref (yP y (lk a0 14) 0)) G hP (lk_6_14 h_a0) iIn rfl 0 (by decide) rfl q387 rfl rfl d_Re_endMethod_245 ?_
                    refine lv_iload_n G.1 G.2.1 d_Re_endMethod_248 rfl (lv_at hl 2 rfl) ?_
                    refine lv_iconst (v := 3) G.1 G.2.1 d_Re_endMethod_249 (by decide) ?_
                    refine lv_iadd G.1 G.2.1 d_Re_endMethod_250 ?_
                    refine W.eq (g2 := F0 m 251 ls [.int (x3h230 + 3), .ref (yP y (lk a0 14) 0)]) rfl ?_
                    refine uiald G hP (kdp (lk_6_14 h_a0) rfl) (typ (lk_6_14 h_a0) rfl) h d_Re_endMethod_251 (fun x_8 h => ?_)
                    refine lv_istore (lv' := [(4, .int x_8), (0, .ref (ad a0)), (1, .int x1h230), (3, .int x3h230)]) G.1 G.2.1 d_Re_endMethod_252 hl (by decide) rfl (fun ls hl => ?_)
                    refine lv_aload_n G.1 G.2.1 d_Re_endMethod_254 rfl (lv_at hl 1 rfl) ?_
                    refine ugf (v := .ref (ad (lk a0 14))) G hP h_a0 iRe rfl 14 (by decide) rfl q601 rfl rfl d_Re_endMethod_255 ?_
                    refine ugf (v := .ref (yP y (lk a0 14) 0)) G hP (lk_6_14 h_a0) iIn rfl 0 (by decide) rfl q387 rfl rfl d_Re_endMethod_258 ?_
                    refine lv_iload_n G.1 G.2.1 d_Re_endMethod_261 rfl (lv_at hl 3 rfl) ?_
                    refine lv_iconst (v := 2) G.1 G.2.1 d_Re_endMethod_262 (by decide) ?_
                    refine lv_iadd G.1 G.2.1 d_Re_endMethod_263 ?_
                    refine uiald G hP (kdp (lk_6_14 h_a0) rfl) (typ (lk_6_14 h_a0) rfl) h d_Re_endMethod_264 (fun x_9 h => ?_)
                    refine lv_iconst (v := 2) G.1 G.2.1 d_Re_endMethod_265 (by decide) ?_
                    have J_281 : ∀ (s_j281 : St) (x1j281 : Int32) (x3j281 : Int32) (x4j281 : Int32) (z0j281 : Int32) (H : Heap) (locs : List Loc), wj_Re_endMethod_281 y Post K_230 a0 s_j281 x1j281 x3j281 x4j281 z0j281 → va_P D CL (ws g ad y s_j281) H → va_D A (ws g ad y s_j281) → va_S A s.heap H locs → ∀ ls, lv_has ls 9 [(0, .ref (ad a0)), (1, .int x1j281), (3, .int x3j281), (4, .int x4j281)] → W p l e ru_Re_endMethod s m args below meth c H locs 0 0 Q (F0 m 281 ls [.int z0j281]) := by
                      intro s_j281 x1j281 x3j281 x4j281 z0j281 H locs h hP hD hS ls hl
                      unfold wj_Re_endMethod_281 at h
                      refine lv_istore (lv' := [(5, .int z0j281), (0, .ref (ad a0)), (1, .int x1j281), (3, .int x3j281), (4, .int x4j281)]) G.1 G.2.1 d_Re_endMethod_281 hl (by decide) rfl (fun ls hl => ?_)
                      refine lv_iload G.1 G.2.1 d_Re_endMethod_283 (lv_at hl 0 rfl) ?_
                      have J_336 : ∀ (s_j336 : St) (x1j336 : Int32) (x3j336 : Int32) (H : Heap) (locs : List Loc), wj_Re_endMethod_336 y Post K_230 a0 s_j336 x1j336 x3j336 → va_P D CL (ws g ad y s_j336) H → va_D A (ws g ad y s_j336) → va_S A s.heap H locs → ∀ ls, lv_has ls 9 [(0, .ref (ad a0)), (1, .int x1j336), (3, .int x3j336)] → W p l e ru_Re_endMethod s m args below meth c H locs 0 0 Q (F0 m 336 ls []) := by
                        intro s_j336 x1j336 x3j336 H locs h hP hD hS ls hl
                        unfold wj_Re_endMethod_336 at h
                        refine lv_iinc (v := x3j336 + 4) (lv' := [(3, .int (x3j336 + 4)), (0, .ref (ad a0)), (1, .int x1j336)]) G.1 G.2.1 d_Re_endMethod_336 hl (k := 2) rfl rfl (by decide) rfl (fun ls hl => ?_)
                        refine lv_goto (tgt := 230) G.1 G.2.1 d_Re_endMethod_339 (by decide) ?_
                        have h := hK_230 s_j336 x1j336 (x3j336 + 4) h
                        exact ih_230 s_j336 x1j336 (x3j336 + 4) (Nat.lt_of_lt_of_le h.2 (Nat.le_of_lt_succ hμ_230)) h.1 H locs hP hD hS ls (lv_sub hl [1, 2, 0] rfl)
                      refine lv_if_eq (tgt := 336) G.1 G.2.1 d_Re_endMethod_285 (by decide) (fun c285 => ?_) (fun c285 => ?_)
                      · skip
                        have h := h.1 c285
                        exact J_336 s_j281 x1j281 x3j281 H locs h hP hD hS ls (lv_sub hl [1, 2, 3] rfl)
                      · skip
                        have h := h.2 c285
                        refine lv_aload_n G.1 G.2.1 d_Re_endMethod_288 rfl (lv_at hl 1 rfl) ?_
                        obtain ⟨b_10, e_11, c_12, h⟩ := h
                        refine ugf (v := .ref (ad b_10)) G hP h_a0 iRe rfl 4 (by decide) rfl q591 rfl (by show va_rf ((sO s_j281 a0 4).map ad) = _; rw [e_11]; rfl) d_Re_endMethod_289 ?_
                        refine ugf (v := .ref (ad (lk b_10 11))) G hP c_12 iWd rfl 11 (by decide) rfl q851 rfl rfl d_Re_endMethod_292 ?_
                        refine ugf (v := .ref (yP y (lk b_10 11) 0)) G hP (lk_9_11 c_12) iIn rfl 0 (by decide) rfl q387 rfl rfl d_Re_endMethod_295 ?_
                        refine lv_iload G.1 G.2.1 d_Re_endMethod_298 (lv_at hl 4 rfl) ?_
                        refine uiald G hP (kdp (lk_9_11 c_12) rfl) (typ (lk_9_11 c_12) rfl) h d_Re_endMethod_300 (fun x_13 h => ?_)
                        refine lv_aload_n G.1 G.2.1 d_Re_endMethod_301 rfl (lv_at hl 1 rfl) ?_
                        obtain ⟨b_14, e_15, c_16, h⟩ := h
                        refine ugf (v := .ref (ad b_14)) G hP h_a0 iRe rfl 4 (by decide) rfl q591 rfl (by show va_rf ((sO s_j281 a0 4).map ad) = _; rw [e_15]; rfl) d_Re_endMethod_302 ?_
                        refine W.eq (g2 := F0 m 305 ls [.ref (ad b_14), .int x_13]) rfl ?_
                        refine ugf (v := .ref (ad (lk b_14 11))) G hP c_16 iWd rfl 11 (by decide) rfl q851 rfl rfl d_Re_endMethod_305 ?_
                        refine ugf (v := .ref (yP y (lk b_14 11) 0)) G hP (lk_9_11 c_16) iIn rfl 0 (by decide) rfl q387 rfl rfl d_Re_endMethod_308 ?_
                        refine lv_iload G.1 G.2.1 d_Re_endMethod_311 (lv_at hl 4 rfl) ?_
                        refine lv_iconst (v := 1) G.1 G.2.1 d_Re_endMethod_313 (by decide) ?_
                        refine lv_iadd G.1 G.2.1 d_Re_endMethod_314 ?_
                        refine uiald G hP (kdp (lk_9_11 c_16) rfl) (typ (lk_9_11 c_16) rfl) h d_Re_endMethod_315 (fun x_17 h => ?_)
                        refine lv_icmp_lt (tgt := 336) G.1 G.2.1 d_Re_endMethod_316 (by decide) (fun c316 => ?_) (fun c316 => ?_)
                        · skip
                          have h := h.1 c316
                          exact J_336 s_j281 x1j281 x3j281 H locs h hP hD hS ls (lv_sub hl [1, 2, 3] rfl)
                        · skip
                          have h := h.2 c316
                          refine lv_aload_n G.1 G.2.1 d_Re_endMethod_319 rfl (lv_at hl 1 rfl) ?_
                          refine lv_bipush (v := 10) G.1 G.2.1 d_Re_endMethod_320 (by decide) ?_
                          refine lv_aload_n G.1 G.2.1 d_Re_endMethod_322 rfl (lv_at hl 1 rfl) ?_
                          refine ugf (v := .ref (ad (lk a0 14))) G hP h_a0 iRe rfl 14 (by decide) rfl q601 rfl rfl d_Re_endMethod_323 ?_
                          refine ugf (v := .ref (yP y (lk a0 14) 0)) G hP (lk_6_14 h_a0) iIn rfl 0 (by decide) rfl q387 rfl rfl d_Re_endMethod_326 ?_
                          refine W.eq (g2 := F0 m 329 ls [.ref (yP y (lk a0 14) 0), .int 10, .ref (ad a0)]) rfl ?_
                          refine lv_iload_n G.1 G.2.1 d_Re_endMethod_329 rfl (lv_at hl 3 rfl) ?_
                          refine lv_iconst (v := 1) G.1 G.2.1 d_Re_endMethod_330 (by decide) ?_
                          refine lv_iadd G.1 G.2.1 d_Re_endMethod_331 ?_
                          refine uiald G hP (kdp (lk_6_14 h_a0) rfl) (typ (lk_6_14 h_a0) rfl) h d_Re_endMethod_332 (fun x_18 h => ?_)
                          refine ucVv (As := [.int 10, .int x_18]) (rest := []) G hP hD hS (cu_Re_refuse l D g ad y _ s_j281 a0 10 x_18 H.size h_a0 h) w9_Re_refuse q1317 ⟨Nat.le_of_ble_eq_true rfl, Nat.le_of_ble_eq_true rfl⟩ rfl rfl h_a0 (q := (RRe, TRe, 18)) rfl rfl hl.1 rfl (Nat.le_of_ble_eq_true rfl) rfl ⟨Nat.le_refl _, Nat.le_refl _⟩ d_Re_endMethod_333 (fun s_20 H locs h hP hD hS => ?_)
                          exact J_336 s_20 x1j281 x3j281 H locs h hP hD hS ls (lv_sub hl [1, 2, 3] rfl)
                    have J_280 : ∀ (s_j280 : St) (x1j280 : Int32) (x3j280 : Int32) (x4j280 : Int32) (H : Heap) (locs : List Loc), wj_Re_endMethod_280 y Post K_230 a0 s_j280 x1j280 x3j280 x4j280 → va_P D CL (ws g ad y s_j280) H → va_D A (ws g ad y s_j280) → va_S A s.heap H locs → ∀ ls, lv_has ls 9 [(0, .ref (ad a0)), (1, .int x1j280), (3, .int x3j280), (4, .int x4j280)] → W p l e ru_Re_endMethod s m args below meth c H locs 0 0 Q (F0 m 280 ls []) := by
                      intro s_j280 x1j280 x3j280 x4j280 H locs h hP hD hS ls hl
                      unfold wj_Re_endMethod_280 at h
                      refine lv_iconst (v := 0) G.1 G.2.1 d_Re_endMethod_280 (by decide) ?_
                      exact J_281 s_j280 x1j280 x3j280 x4j280 0 H locs h hP hD hS ls (lv_sub hl [0, 1, 2, 3] rfl)
                    refine lv_icmp_ne (tgt := 280) G.1 G.2.1 d_Re_endMethod_266 (by decide) (fun c266 => ?_) (fun c266 => ?_)
                    · skip
                      have h := h.1 c266
                      exact J_280 s_h230 x1h230 x3h230 x_8 H locs h hP hD hS ls (lv_sub hl [1, 2, 3, 0] rfl)
                    · skip
                      have h := h.2 c266
                      refine lv_iload G.1 G.2.1 d_Re_endMethod_269 (lv_at hl 0 rfl) ?_
                      refine W.eq (g2 := F0 m 271 ls [.int x_8]) rfl ?_
                      refine lv_iconst (v := 4) G.1 G.2.1 d_Re_endMethod_271 (by decide) ?_
                      refine lv_irem G.1 G.2.1 d_Re_endMethod_272 (by decide) ?_
                      refine lv_if_ne (tgt := 280) G.1 G.2.1 d_Re_endMethod_273 (by decide) (fun c273 => ?_) (fun c273 => ?_)
                      · skip
                        have h := h.1 c273
                        exact J_280 s_h230 x1h230 x3h230 x_8 H locs h hP hD hS ls (lv_sub hl [1, 2, 3, 0] rfl)
                      · skip
                        have h := h.2 c273
                        refine lv_iconst (v := 1) G.1 G.2.1 d_Re_endMethod_276 (by decide) ?_
                        refine lv_goto (tgt := 281) G.1 G.2.1 d_Re_endMethod_277 (by decide) ?_
                        exact J_281 s_h230 x1h230 x3h230 x_8 1 H locs h hP hD hS ls (lv_sub hl [1, 2, 3, 0] rfl)
              exact L_230 _ s_j228 x1j228 0 (Nat.lt_succ_self _) hI_230 H locs hP hD hS ls (lv_sub hl [1, 2, 0] rfl)
            refine lv_icmp_ge (tgt := 228) G.1 G.2.1 d_Re_endMethod_218 (by decide) (fun c218 => ?_) (fun c218 => ?_)
            · skip
              have h := h.1 c218
              exact J_228 s_h54 x1h54 H locs h hP hD hS ls (lv_sub hl [0, 1] rfl)
            · skip
              have h := h.2 c218
              refine lv_aload_n G.1 G.2.1 d_Re_endMethod_221 rfl (lv_at hl 0 rfl) ?_
              refine lv_bipush (v := 9) G.1 G.2.1 d_Re_endMethod_222 (by decide) ?_
              refine lv_iload_n G.1 G.2.1 d_Re_endMethod_224 rfl (lv_at hl 2 rfl) ?_
              refine W.eq (g2 := F0 m 225 ls [.int x2h54, .int 9, .ref (ad a0)]) rfl ?_
              refine ucVv (As := [.int 9, .int x2h54]) (rest := []) G hP hD hS (cu_Re_refuse l D g ad y _ s_h54 a0 9 x2h54 H.size h_a0 h) w9_Re_refuse q1317 ⟨Nat.le_of_ble_eq_true rfl, Nat.le_of_ble_eq_true rfl⟩ rfl rfl h_a0 (q := (RRe, TRe, 18)) rfl rfl hl.1 rfl (Nat.le_of_ble_eq_true rfl) rfl ⟨Nat.le_refl _, Nat.le_refl _⟩ d_Re_endMethod_225 (fun s_22 H locs h hP hD hS => ?_)
              exact J_228 s_22 x1h54 H locs h hP hD hS ls (lv_sub hl [0, 1] rfl)
          · skip
            have h := h.2 c62
            refine lv_aload_n G.1 G.2.1 d_Re_endMethod_65 rfl (lv_at hl 0 rfl) ?_
            refine lv_aload_n G.1 G.2.1 d_Re_endMethod_66 rfl (lv_at hl 0 rfl) ?_
            refine ugf (v := .ref (ad (lk a0 14))) G hP h_a0 iRe rfl 14 (by decide) rfl q601 rfl rfl d_Re_endMethod_67 ?_
            refine ugf (v := .ref (yP y (lk a0 14) 0)) G hP (lk_6_14 h_a0) iIn rfl 0 (by decide) rfl q387 rfl rfl d_Re_endMethod_70 ?_
            refine lv_iload_n G.1 G.2.1 d_Re_endMethod_73 rfl (lv_at hl 3 rfl) ?_
            refine uiald G hP (kdp (lk_6_14 h_a0) rfl) (typ (lk_6_14 h_a0) rfl) h d_Re_endMethod_74 (fun x_23 h => ?_)
            refine W.eq (g2 := F0 m 75 ls [.int x_23, .ref (ad a0)]) rfl ?_
            refine ucVi (As := [.int x_23]) (rest := []) G hP hD hS (cu_Re_labelAt l D g ad y _ s_h54 a0 x_23 H.size h_a0 h) w9_Re_labelAt q1376 ⟨Nat.le_of_ble_eq_true rfl, Nat.le_of_ble_eq_true rfl⟩ rfl rfl h_a0 (q := (RRe, TRe, 18)) rfl rfl hl.1 rfl (Nat.le_of_ble_eq_true rfl) rfl ⟨Nat.le_refl _, Nat.le_refl _⟩ d_Re_endMethod_75 (fun r_24 s_25 H locs h hP hD hS => ?_)
            refine lv_istore (lv' := [(4, .int r_24), (0, .ref (ad a0)), (1, .int x1h54), (2, .int x2h54), (3, .int x3h54)]) G.1 G.2.1 d_Re_endMethod_78 hl (by decide) rfl (fun ls hl => ?_)
            refine lv_aload_n G.1 G.2.1 d_Re_endMethod_80 rfl (lv_at hl 1 rfl) ?_
            refine ugf (v := .ref (ad (lk a0 14))) G hP h_a0 iRe rfl 14 (by decide) rfl q601 rfl rfl d_Re_endMethod_81 ?_
            refine ugf (v := .ref (yP y (lk a0 14) 0)) G hP (lk_6_14 h_a0) iIn rfl 0 (by decide) rfl q387 rfl rfl d_Re_endMethod_84 ?_
            refine lv_iload_n G.1 G.2.1 d_Re_endMethod_87 rfl (lv_at hl 4 rfl) ?_
            refine lv_iconst (v := 2) G.1 G.2.1 d_Re_endMethod_88 (by decide) ?_
            refine lv_iadd G.1 G.2.1 d_Re_endMethod_89 ?_
            refine uiald G hP (kdp (lk_6_14 h_a0) rfl) (typ (lk_6_14 h_a0) rfl) h d_Re_endMethod_90 (fun x_26 h => ?_)
            refine lv_istore (lv' := [(5, .int x_26), (4, .int r_24), (0, .ref (ad a0)), (1, .int x1h54), (2, .int x2h54), (3, .int x3h54)]) G.1 G.2.1 d_Re_endMethod_91 hl (by decide) rfl (fun ls hl => ?_)
            refine lv_aload_n G.1 G.2.1 d_Re_endMethod_93 rfl (lv_at hl 2 rfl) ?_
            refine ugf (v := .ref (ad (lk a0 14))) G hP h_a0 iRe rfl 14 (by decide) rfl q601 rfl rfl d_Re_endMethod_94 ?_
            refine W.eq (g2 := F0 m 97 ls [.ref (ad (lk a0 14))]) rfl ?_
            refine ugf (v := .ref (yP y (lk a0 14) 0)) G hP (lk_6_14 h_a0) iIn rfl 0 (by decide) rfl q387 rfl rfl d_Re_endMethod_97 ?_
            refine lv_iload_n G.1 G.2.1 d_Re_endMethod_100 rfl (lv_at hl 5 rfl) ?_
            refine lv_iconst (v := 3) G.1 G.2.1 d_Re_endMethod_101 (by decide) ?_
            refine lv_iadd G.1 G.2.1 d_Re_endMethod_102 ?_
            refine uiald G hP (kdp (lk_6_14 h_a0) rfl) (typ (lk_6_14 h_a0) rfl) h d_Re_endMethod_103 (fun x_27 h => ?_)
            refine lv_istore (lv' := [(6, .int x_27), (5, .int x_26), (4, .int r_24), (0, .ref (ad a0)), (1, .int x1h54), (2, .int x2h54), (3, .int x3h54)]) G.1 G.2.1 d_Re_endMethod_104 hl (by decide) rfl (fun ls hl => ?_)
            refine lv_iload G.1 G.2.1 d_Re_endMethod_106 (lv_at hl 1 rfl) ?_
            refine lv_iconst (v := 2) G.1 G.2.1 d_Re_endMethod_108 (by decide) ?_
            have J_125 : ∀ (s_j125 : St) (x1j125 : Int32) (x2j125 : Int32) (x3j125 : Int32) (x4j125 : Int32) (x5j125 : Int32) (x6j125 : Int32) (z0j125 : Int32) (H : Heap) (locs : List Loc), wj_Re_endMethod_125 y Post K_54 a0 s_j125 x1j125 x2j125 x3j125 x4j125 x5j125 x6j125 z0j125 → va_P D CL (ws g ad y s_j125) H → va_D A (ws g ad y s_j125) → va_S A s.heap H locs → ∀ ls, lv_has ls 9 [(0, .ref (ad a0)), (1, .int x1j125), (2, .int x2j125), (3, .int x3j125), (4, .int x4j125), (5, .int x5j125), (6, .int x6j125)] → W p l e ru_Re_endMethod s m args below meth c H locs 0 0 Q (F0 m 125 ls [.int z0j125]) := by
              intro s_j125 x1j125 x2j125 x3j125 x4j125 x5j125 x6j125 z0j125 H locs h hP hD hS ls hl
              unfold wj_Re_endMethod_125 at h
              refine lv_istore (lv' := [(7, .int z0j125), (0, .ref (ad a0)), (1, .int x1j125), (2, .int x2j125), (3, .int x3j125), (4, .int x4j125), (5, .int x5j125), (6, .int x6j125)]) G.1 G.2.1 d_Re_endMethod_125 hl (by decide) rfl (fun ls hl => ?_)
              refine lv_iload G.1 G.2.1 d_Re_endMethod_127 (lv_at hl 5 rfl) ?_
              have J_159 : ∀ (s_j159 : St) (x1j159 : Int32) (x2j159 : Int32) (x3j159 : Int32) (x4j159 : Int32) (x5j159 : Int32) (x6j159 : Int32) (H : Heap) (locs : List Loc), wj_Re_endMethod_159 y Post K_54 a0 s_j159 x1j159 x2j159 x3j159 x4j159 x5j159 x6j159 → va_P D CL (ws g ad y s_j159) H → va_D A (ws g ad y s_j159) → va_S A s.heap H locs → ∀ ls, lv_has ls 9 [(0, .ref (ad a0)), (1, .int x1j159), (2, .int x2j159), (3, .int x3j159), (4, .int x4j159), (5, .int x5j159), (6, .int x6j159)] → W p l e ru_Re_endMethod s m args below meth c H locs 0 0 Q (F0 m 159 ls []) := by
                intro s_j159 x1j159 x2j159 x3j159 x4j159 x5j159 x6j159 H locs h hP hD hS ls hl
                unfold wj_Re_endMethod_159 at h
                refine lv_iload G.1 G.2.1 d_Re_endMethod_159 (lv_at hl 5 rfl) ?_
                have J_197 : ∀ (s_j197 : St) (x1j197 : Int32) (x2j197 : Int32) (x3j197 : Int32) (x4j197 : Int32) (x6j197 : Int32) (z0j197 : Nat) (H : Heap) (locs : List Loc), wj_Re_endMethod_197 y Post K_54 a0 s_j197 x1j197 x2j197 x3j197 x4j197 x6j197 z0j197 → va_P D CL (ws g ad y s_j197) H → va_D A (ws g ad y s_j197) → va_S A s.heap H locs → ∀ ls, lv_has ls 9 [(0, .ref (ad a0)), (1, .int x1j197), (2, .int x2j197), (3, .int x3j197), (4, .int x4j197), (6, .int x6j197)] → W p l e ru_Re_endMethod s m args below meth c H locs 0 0 Q (F0 m 197 ls [.ref (ad z0j197)]) := by
                  intro s_j197 x1j197 x2j197 x3j197 x4j197 x6j197 z0j197 H locs h hP hD hS ls hl
                  unfold wj_Re_endMethod_197 at h
                  obtain ⟨c_z0j197, h⟩ := h
                  refine lv_astore (lv' := [(8, .ref (ad z0j197)), (0, .ref (ad a0)), (1, .int x1j197), (2, .int x2j197), (3, .int x3j197), (4, .int x4j197), (6, .int x6j197)]) G.1 G.2.1 d_Re_endMethod_197 hl (by decide) rfl (fun ls hl => ?_)
                  refine lv_aload G.1 G.2.1 d_Re_endMethod_199 (lv_at hl 0 rfl) ?_
                  refine lv_iload G.1 G.2.1 d_Re_endMethod_201 (lv_at hl 6 rfl) ?_
                  refine lv_iload G.1 G.2.1 d_Re_endMethod_203 (lv_at hl 5 rfl) ?_
                  refine ucVv (As := [.int x6j197, .int x4j197]) (rest := []) G hP hD hS (cu_In_put l D g ad y _ s_j197 z0j197 x6j197 x4j197 H.size c_z0j197 h) w9_In_put q1359 ⟨Nat.le_of_ble_eq_true rfl, Nat.le_of_ble_eq_true rfl⟩ rfl rfl c_z0j197 (q := (RIn, TIn, 2)) rfl rfl hl.1 rfl (Nat.le_of_ble_eq_true rfl) rfl ⟨Nat.le_refl _, Nat.le_refl _⟩ d_Re_endMethod_205 (fun s_29 H locs h hP hD hS => ?_)
                  refine lv_iinc (v := x3j197 + 4) (lv' := [(3, .int (x3j197 + 4)), (8, .ref (ad z0j197)), (0, .ref (ad a0)), (1, .int x1j197), (2, .int x2j197), (4, .int x4j197), (6, .int x6j197)]) G.1 G.2.1 d_Re_endMethod_208 hl (k := 4) rfl rfl (by decide) rfl (fun ls hl => ?_)
                  refine lv_goto (tgt := 54) G.1 G.2.1 d_Re_endMethod_211 (by decide) ?_
                  have h := hK_54 s_29 x1j197 x2j197 (x3j197 + 4) h
                  exact ih_54 s_29 x1j197 x2j197 (x3j197 + 4) (Nat.lt_of_lt_of_le h.2 (Nat.le_of_lt_succ hμ_54)) h.1 H locs hP hD hS ls (lv_sub hl [2, 3, 4, 0] rfl)
                refine lv_if_ne (tgt := 174) G.1 G.2.1 d_Re_endMethod_161 (by decide) (fun c161 => ?_) (fun c161 => ?_)
                · skip
                  have h := h.1 c161
                  refine lv_iload G.1 G.2.1 d_Re_endMethod_174 (lv_at hl 5 rfl) ?_
                  refine lv_iconst (v := 1) G.1 G.2.1 d_Re_endMethod_176 (by decide) ?_
                  refine lv_icmp_ne (tgt := 190) G.1 G.2.1 d_Re_endMethod_177 (by decide) (fun c177 => ?_) (fun c177 => ?_)
                  · skip
                    have h := h.1 c177
                    refine lv_aload_n G.1 G.2.1 d_Re_endMethod_190 rfl (lv_at hl 0 rfl) ?_
                    obtain ⟨b_30, e_31, c_32, h⟩ := h
                    refine ugf (v := .ref (ad b_30)) G hP h_a0 iRe rfl 4 (by decide) rfl q591 rfl (by show va_rf ((sO s_j159 a0 4).map ad) = _; rw [e_31]; rfl) d_Re_endMethod_191 ?_
                    refine ugf (v := .ref (ad (lk b_30 11))) G hP c_32 iWd rfl 11 (by decide) rfl q851 rfl rfl d_Re_endMethod_194 ?_
                    exact J_197 s_j159 x1j159 x2j159 x3j159 x4j159 x6j159 (lk b_30 11) H locs h hP hD hS ls (lv_sub hl [0, 1, 2, 3, 4, 6] rfl)
                  · skip
                    have h := h.2 c177
                    refine lv_aload_n G.1 G.2.1 d_Re_endMethod_180 rfl (lv_at hl 0 rfl) ?_
                    obtain ⟨b_33, e_34, c_35, h⟩ := h
                    refine ugf (v := .ref (ad b_33)) G hP h_a0 iRe rfl 4 (by decide) rfl q591 rfl (by show va_rf ((sO s_j159 a0 4).map ad) = _; rw [e_34]; rfl) d_Re_endMethod_181 ?_
                    refine ugf (v := .ref (ad (lk b_33 12))) G hP c_35 iWd rfl 12 (by decide) rfl q856 rfl rfl d_Re_endMethod_184 ?_
                    refine lv_goto (tgt := 197) G.1 G.2.1 d_Re_endMethod_187 (by decide) ?_
                    exact J_197 s_j159 x1j159 x2j159 x3j159 x4j159 x6j159 (lk b_33 12) H locs h hP hD hS ls (lv_sub hl [0, 1, 2, 3, 4, 6] rfl)
                · skip
                  have h := h.2 c161
                  refine lv_aload_n G.1 G.2.1 d_Re_endMethod_164 rfl (lv_at hl 0 rfl) ?_
                  obtain ⟨b_36, e_37, c_38, h⟩ := h
                  refine ugf (v := .ref (ad b_36)) G hP h_a0 iRe rfl 4 (by decide) rfl q591 rfl (by show va_rf ((sO s_j159 a0 4).map ad) = _; rw [e_37]; rfl) d_Re_endMethod_165 ?_
                  refine ugf (v := .ref (ad (lk b_36 10))) G hP c_38 iWd rfl 10 (by decide) rfl q847 rfl rfl d_Re_endMethod_168 ?_
                  refine lv_goto (tgt := 197) G.1 G.2.1 d_Re_endMethod_171 (by decide) ?_
                  exact J_197 s_j159 x1j159 x2j159 x3j159 x4j159 x6j159 (lk b_36 10) H locs h hP hD hS ls (lv_sub hl [0, 1, 2, 3, 4, 6] rfl)
              have J_143 : ∀ (s_j143 : St) (x1j143 : Int32) (x2j143 : Int32) (x3j143 : Int32) (x4j143 : Int32) (x5j143 : Int32) (x6j143 : Int32) (H : Heap) (locs : List Loc), wj_Re_endMethod_143 y Post K_54 a0 s_j143 x1j143 x2j143 x3j143 x4j143 x5j143 x6j143 → va_P D CL (ws g ad y s_j143) H → va_D A (ws g ad y s_j143) → va_S A s.heap H locs → ∀ ls, lv_has ls 9 [(0, .ref (ad a0)), (1, .int x1j143), (2, .int x2j143), (3, .int x3j143), (4, .int x4j143), (5, .int x5j143), (6, .int x6j143)] → W p l e ru_Re_endMethod s m args below meth c H locs 0 0 Q (F0 m 143 ls []) := by
                intro s_j143 x1j143 x2j143 x3j143 x4j143 x5j143 x6j143 H locs h hP hD hS ls hl
                unfold wj_Re_endMethod_143 at h
                refine lv_iload_n G.1 G.2.1 d_Re_endMethod_143 rfl (lv_at hl 2 rfl) ?_
                refine lv_aload_n G.1 G.2.1 d_Re_endMethod_144 rfl (lv_at hl 0 rfl) ?_
                refine ugf (v := .ref (ad (lk a0 14))) G hP h_a0 iRe rfl 14 (by decide) rfl q601 rfl rfl d_Re_endMethod_145 ?_
                refine ugf (v := .ref (yP y (lk a0 14) 0)) G hP (lk_6_14 h_a0) iIn rfl 0 (by decide) rfl q387 rfl rfl d_Re_endMethod_148 ?_
                refine lv_iload_n G.1 G.2.1 d_Re_endMethod_151 rfl (lv_at hl 3 rfl) ?_
                refine lv_iconst (v := 1) G.1 G.2.1 d_Re_endMethod_152 (by decide) ?_
                refine lv_iadd G.1 G.2.1 d_Re_endMethod_153 ?_
                refine uiald G hP (kdp (lk_6_14 h_a0) rfl) (typ (lk_6_14 h_a0) rfl) h d_Re_endMethod_154 (fun x_39 h => ?_)
                refine va_mmin G.1 G.2.1 (G.2.2.1.trans hl.1.symm) G.2.2.2.2.2.2.1 (G.2.2.2.2.2.1 _ q1341) (G.2.2.2.2.2.1 _ q484) (G.2.2.2.2.2.1 _ q337) (G.2.2.2.2.2.1 _ q485) (Nat.le_of_ble_eq_true rfl) (Nat.le_of_ble_eq_true rfl) (Nat.zero_le _) (Nat.zero_le _) d_Re_endMethod_155 ?_
                refine lv_istore_n (lv' := [(2, .int (if x_39 < x2j143 then x_39 else x2j143)), (0, .ref (ad a0)), (1, .int x1j143), (3, .int x3j143), (4, .int x4j143), (5, .int x5j143), (6, .int x6j143)]) G.1 G.2.1 d_Re_endMethod_158 rfl hl (by decide) rfl (fun ls hl => ?_)
                exact J_159 s_j143 x1j143 (if x_39 < x2j143 then x_39 else x2j143) x3j143 x4j143 x5j143 x6j143 H locs h hP hD hS ls (lv_sub hl [1, 2, 0, 3, 4, 5, 6] rfl)
              refine lv_if_lt (tgt := 143) G.1 G.2.1 d_Re_endMethod_129 (by decide) (fun c129 => ?_) (fun c129 => ?_)
              · skip
                have h := h.1 c129
                exact J_143 s_j125 x1j125 x2j125 x3j125 x4j125 x5j125 x6j125 H locs h hP hD hS ls (lv_sub hl [1, 2, 3, 4, 5, 6, 7] rfl)
              · skip
                have h := h.2 c129
                refine lv_iload G.1 G.2.1 d_Re_endMethod_132 (lv_at hl 5 rfl) ?_
                refine lv_iload_n G.1 G.2.1 d_Re_endMethod_134 rfl (lv_at hl 2 rfl) ?_
                refine lv_icmp_ne (tgt := 159) G.1 G.2.1 d_Re_endMethod_135 (by decide) (fun c135 => ?_) (fun c135 => ?_)
                · skip
                  have h := h.1 c135
                  exact J_159 s_j125 x1j125 x2j125 x3j125 x4j125 x5j125 x6j125 H locs h hP hD hS ls (lv_sub hl [1, 2, 3, 4, 5, 6, 7] rfl)
                · skip
                  have h := h.2 c135
                  refine lv_iload G.1 G.2.1 d_Re_endMethod_138 (lv_at hl 0 rfl) ?_
                  refine lv_if_ne (tgt := 159) G.1 G.2.1 d_Re_endMethod_140 (by decide) (fun c140 => ?_) (fun c140 => ?_)
                  · skip
                    have h := h.1 c140
                    exact J_159 s_j125 x1j125 x2j125 x3j125 x4j125 x5j125 x6j125 H locs h hP hD hS ls (lv_sub hl [1, 2, 3, 4, 5, 6, 7] rfl)
                  · skip
                    have h := h.2 c140
                    exact J_143 s_j125 x1j125 x2j125 x3j125 x4j125 x5j125 x6j125 H locs h hP hD hS ls (lv_sub hl [1, 2, 3, 4, 5, 6, 7] rfl)
            have J_124 : ∀ (s_j124 : St) (x1j124 : Int32) (x2j124 : Int32) (x3j124 : Int32) (x4j124 : Int32) (x5j124 : Int32) (x6j124 : Int32) (H : Heap) (locs : List Loc), wj_Re_endMethod_124 y Post K_54 a0 s_j124 x1j124 x2j124 x3j124 x4j124 x5j124 x6j124 → va_P D CL (ws g ad y s_j124) H → va_D A (ws g ad y s_j124) → va_S A s.heap H locs → ∀ ls, lv_has ls 9 [(0, .ref (ad a0)), (1, .int x1j124), (2, .int x2j124), (3, .int x3j124), (4, .int x4j124), (5, .int x5j124), (6, .int x6j124)] → W p l e ru_Re_endMethod s m args below meth c H locs 0 0 Q (F0 m 124 ls []) := by
              intro s_j124 x1j124 x2j124 x3j124 x4j124 x5j124 x6j124 H locs h hP hD hS ls hl
              unfold wj_Re_endMethod_124 at h
              refine lv_iconst (v := 0) G.1 G.2.1 d_Re_endMethod_124 (by decide) ?_
              exact J_125 s_j124 x1j124 x2j124 x3j124 x4j124 x5j124 x6j124 0 H locs h hP hD hS ls (lv_sub hl [0, 1, 2, 3, 4, 5, 6] rfl)
            refine lv_icmp_ne (tgt := 124) G.1 G.2.1 d_Re_endMethod_109 (by decide) (fun c109 => ?_) (fun c109 => ?_)
            · skip
              have h := h.1 c109
              exact J_124 s_25 x1h54 x2h54 x3h54 r_24 x_26 x_27 H locs h hP hD hS ls (lv_sub hl [3, 4, 5, 6, 2, 1, 0] rfl)
            · skip
              have h := h.2 c109
              refine lv_iload G.1 G.2.1 d_Re_endMethod_112 (lv_at hl 0 rfl) ?_
              refine lv_iconst (v := 4) G.1 G.2.1 d_Re_endMethod_114 (by decide) ?_
              refine lv_irem G.1 G.2.1 d_Re_endMethod_115 (by decide) ?_
              refine W.eq (g2 := F0 m 116 ls [.int (x_27 - x_27 / 4 * 4)]) rfl ?_
              refine lv_iconst (v := 1) G.1 G.2.1 d_Re_endMethod_116 (by decide) ?_
              refine lv_icmp_ne (tgt := 124) G.1 G.2.1 d_Re_endMethod_117 (by decide) (fun c117 => ?_) (fun c117 => ?_)
              · skip
                have h := h.1 c117
                exact J_124 s_25 x1h54 x2h54 x3h54 r_24 x_26 x_27 H locs h hP hD hS ls (lv_sub hl [3, 4, 5, 6, 2, 1, 0] rfl)
              · skip
                have h := h.2 c117
                refine lv_iconst (v := 1) G.1 G.2.1 d_Re_endMethod_120 (by decide) ?_
                refine lv_goto (tgt := 125) G.1 G.2.1 d_Re_endMethod_121 (by decide) ?_
                exact J_125 s_25 x1h54 x2h54 x3h54 r_24 x_26 x_27 1 H locs h hP hD hS ls (lv_sub hl [3, 4, 5, 6, 2, 1, 0] rfl)
      exact L_54 _ s_j52 x1j52 x2j52 0 (Nat.lt_succ_self _) hI_54 H locs hP hD hS ls (lv_sub hl [1, 2, 3, 0] rfl)
    refine lv_if_lt (tgt := 52) G.1 G.2.1 d_Re_endMethod_40 (by decide) (fun c40 => ?_) (fun c40 => ?_)
    · skip
      have h := h.1 c40
      exact J_52 s_j35 x1j35 z0j35 H locs h hP hD hS ls (lv_sub hl [1, 2, 0] rfl)
    · skip
      have h := h.2 c40
      refine lv_iload_n G.1 G.2.1 d_Re_endMethod_43 rfl (lv_at hl 0 rfl) ?_
      refine lv_aload_n G.1 G.2.1 d_Re_endMethod_44 rfl (lv_at hl 1 rfl) ?_
      refine ugf (v := .int (sV s_j35 a0 17)) G hP h_a0 iRe rfl 17 (by decide) rfl q604 rfl rfl d_Re_endMethod_45 ?_
      refine va_mmin G.1 G.2.1 (G.2.2.1.trans hl.1.symm) G.2.2.2.2.2.2.1 (G.2.2.2.2.2.1 _ q1341) (G.2.2.2.2.2.1 _ q484) (G.2.2.2.2.2.1 _ q337) (G.2.2.2.2.2.1 _ q485) (Nat.le_of_ble_eq_true rfl) (Nat.le_of_ble_eq_true rfl) (Nat.zero_le _) (Nat.zero_le _) d_Re_endMethod_48 ?_
      refine lv_istore_n (lv' := [(2, .int (if (sV s_j35 a0 17) < z0j35 then (sV s_j35 a0 17) else z0j35)), (0, .ref (ad a0)), (1, .int x1j35)]) G.1 G.2.1 d_Re_endMethod_51 rfl hl (by decide) rfl (fun ls hl => ?_)
      exact J_52 s_j35 x1j35 (if (sV s_j35 a0 17) < z0j35 then (sV s_j35 a0 17) else z0j35) H locs h hP hD hS ls (lv_sub hl [1, 2, 0] rfl)
  refine lv_if_ge (tgt := 31) G.1 G.2.1 d_Re_endMethod_22 (by decide) (fun c22 => ?_) (fun c22 => ?_)
  · skip
    have h := h.1 c22
    refine lv_aload_n G.1 G.2.1 d_Re_endMethod_31 rfl (lv_at hl 1 rfl) ?_
    refine ugf (v := .int (sV σ a0 15)) G hP h_a0 iRe rfl 15 (by decide) rfl q602 rfl rfl d_Re_endMethod_32 ?_
    exact J_35 σ x_4 (sV σ a0 15) H locs h hP hD hS ls (lv_sub hl [1, 0] rfl)
  · skip
    have h := h.2 c22
    refine lv_ldcw (v := 2147483647) G.1 G.2.1 G.2.2.2.2.2.2.1 (G.2.2.2.2.2.1 _ q1424) d_Re_endMethod_25 ?_
    refine lv_goto (tgt := 35) G.1 G.2.1 d_Re_endMethod_28 (by decide) ?_
    exact J_35 σ x_4 2147483647 H locs h hP hD hS ls (lv_sub hl [1, 0] rfl)
def y_Wd_fieldWith : MethodName := ⟨"ClassWorks$World", "fieldWith", "(III)I"⟩
abbrev b_Wd_fieldWith : ByteArray := prog_11_method_19_code
theorem d_Wd_fieldWith_0 : decode b_Wd_fieldWith 0 = .ok (.aload_n 0, 1) := by decide +kernel
theorem d_Wd_fieldWith_1 : decode b_Wd_fieldWith 1 = .ok (.getfield 28, 3) := by decide +kernel
theorem d_Wd_fieldWith_4 : decode b_Wd_fieldWith 4 = .ok (.iload_n 1, 1) := by decide +kernel
theorem d_Wd_fieldWith_5 : decode b_Wd_fieldWith 5 = .ok (.bipush 19, 2) := by decide +kernel
theorem d_Wd_fieldWith_7 : decode b_Wd_fieldWith 7 = .ok (.imul, 1) := by decide +kernel
theorem d_Wd_fieldWith_8 : decode b_Wd_fieldWith 8 = .ok (.bipush 8, 2) := by decide +kernel
theorem d_Wd_fieldWith_10 : decode b_Wd_fieldWith 10 = .ok (.iadd, 1) := by decide +kernel
theorem d_Wd_fieldWith_11 : decode b_Wd_fieldWith 11 = .ok (.iaload, 1) := by decide +kernel
theorem d_Wd_fieldWith_12 : decode b_Wd_fieldWith 12 = .ok (.istore 4, 2) := by decide +kernel
theorem d_Wd_fieldWith_14 : decode b_Wd_fieldWith 14 = .ok (.aload_n 0, 1) := by decide +kernel
theorem d_Wd_fieldWith_15 : decode b_Wd_fieldWith 15 = .ok (.getfield 28, 3) := by decide +kernel
theorem d_Wd_fieldWith_18 : decode b_Wd_fieldWith 18 = .ok (.iload_n 1, 1) := by decide +kernel
theorem d_Wd_fieldWith_19 : decode b_Wd_fieldWith 19 = .ok (.bipush 19, 2) := by decide +kernel
theorem d_Wd_fieldWith_21 : decode b_Wd_fieldWith 21 = .ok (.imul, 1) := by decide +kernel
theorem d_Wd_fieldWith_22 : decode b_Wd_fieldWith 22 = .ok (.bipush 9, 2) := by decide +kernel
theorem d_Wd_fieldWith_24 : decode b_Wd_fieldWith 24 = .ok (.iadd, 1) := by decide +kernel
theorem d_Wd_fieldWith_25 : decode b_Wd_fieldWith 25 = .ok (.iaload, 1) := by decide +kernel
theorem d_Wd_fieldWith_26 : decode b_Wd_fieldWith 26 = .ok (.istore 5, 2) := by decide +kernel
theorem d_Wd_fieldWith_28 : decode b_Wd_fieldWith 28 = .ok (.iconst 0, 1) := by decide +kernel
theorem d_Wd_fieldWith_29 : decode b_Wd_fieldWith 29 = .ok (.istore 6, 2) := by decide +kernel
theorem d_Wd_fieldWith_31 : decode b_Wd_fieldWith 31 = .ok (.iload 6, 2) := by decide +kernel
theorem d_Wd_fieldWith_33 : decode b_Wd_fieldWith 33 = .ok (.iload 5, 2) := by decide +kernel
theorem d_Wd_fieldWith_35 : decode b_Wd_fieldWith 35 = .ok (.if_icmp .ge 56, 3) := by decide +kernel
theorem d_Wd_fieldWith_38 : decode b_Wd_fieldWith 38 = .ok (.iload 4, 2) := by decide +kernel
theorem d_Wd_fieldWith_40 : decode b_Wd_fieldWith 40 = .ok (.iload 6, 2) := by decide +kernel
theorem d_Wd_fieldWith_42 : decode b_Wd_fieldWith 42 = .ok (.bipush 7, 2) := by decide +kernel
theorem d_Wd_fieldWith_44 : decode b_Wd_fieldWith 44 = .ok (.imul, 1) := by decide +kernel
theorem d_Wd_fieldWith_45 : decode b_Wd_fieldWith 45 = .ok (.iadd, 1) := by decide +kernel
theorem d_Wd_fieldWith_46 : decode b_Wd_fieldWith 46 = .ok (.istore 7, 2) := by decide +kernel
theorem d_Wd_fieldWith_48 : decode b_Wd_fieldWith 48 = .ok (.aload_n 0, 1) := by decide +kernel
theorem d_Wd_fieldWith_49 : decode b_Wd_fieldWith 49 = .ok (.getfield 41, 3) := by decide +kernel
theorem d_Wd_fieldWith_52 : decode b_Wd_fieldWith 52 = .ok (.getfield 98, 3) := by decide +kernel
theorem d_Wd_fieldWith_55 : decode b_Wd_fieldWith 55 = .ok (.iload 7, 2) := by decide +kernel
theorem d_Wd_fieldWith_57 : decode b_Wd_fieldWith 57 = .ok (.iaload, 1) := by decide +kernel
theorem d_Wd_fieldWith_58 : decode b_Wd_fieldWith 58 = .ok (.iload_n 2, 1) := by decide +kernel
theorem d_Wd_fieldWith_59 : decode b_Wd_fieldWith 59 = .ok (.if_icmp .ne 26, 3) := by decide +kernel
theorem d_Wd_fieldWith_62 : decode b_Wd_fieldWith 62 = .ok (.iload_n 3, 1) := by decide +kernel
theorem d_Wd_fieldWith_63 : decode b_Wd_fieldWith 63 = .ok (.ifCond .lt 19, 3) := by decide +kernel
theorem d_Wd_fieldWith_66 : decode b_Wd_fieldWith 66 = .ok (.aload_n 0, 1) := by decide +kernel
theorem d_Wd_fieldWith_67 : decode b_Wd_fieldWith 67 = .ok (.getfield 41, 3) := by decide +kernel
theorem d_Wd_fieldWith_70 : decode b_Wd_fieldWith 70 = .ok (.getfield 98, 3) := by decide +kernel
theorem d_Wd_fieldWith_73 : decode b_Wd_fieldWith 73 = .ok (.iload 7, 2) := by decide +kernel
theorem d_Wd_fieldWith_75 : decode b_Wd_fieldWith 75 = .ok (.iconst 1, 1) := by decide +kernel
theorem d_Wd_fieldWith_76 : decode b_Wd_fieldWith 76 = .ok (.iadd, 1) := by decide +kernel
theorem d_Wd_fieldWith_77 : decode b_Wd_fieldWith 77 = .ok (.iaload, 1) := by decide +kernel
theorem d_Wd_fieldWith_78 : decode b_Wd_fieldWith 78 = .ok (.iload_n 3, 1) := by decide +kernel
theorem d_Wd_fieldWith_79 : decode b_Wd_fieldWith 79 = .ok (.if_icmp .ne 6, 3) := by decide +kernel
theorem d_Wd_fieldWith_82 : decode b_Wd_fieldWith 82 = .ok (.iload 6, 2) := by decide +kernel
theorem d_Wd_fieldWith_84 : decode b_Wd_fieldWith 84 = .ok (.ireturn, 1) := by decide +kernel
theorem d_Wd_fieldWith_85 : decode b_Wd_fieldWith 85 = .ok (.iinc 6 1, 3) := by decide +kernel
theorem d_Wd_fieldWith_88 : decode b_Wd_fieldWith 88 = .ok (.goto (-57), 3) := by decide +kernel
theorem d_Wd_fieldWith_91 : decode b_Wd_fieldWith 91 = .ok (.iconst (-1), 1) := by decide +kernel
theorem d_Wd_fieldWith_92 : decode b_Wd_fieldWith 92 = .ok (.ireturn, 1) := by decide +kernel
abbrev ru_Wd_fieldWith : Room := { frames := 0, cells := 0, slots := 0, locals := 0 }
def wj_Wd_fieldWith_85 (y : Ly) (Post : St → Int32 → Prop) (K_31 : St → Int32 → Int32 → Int32 → Int32 → Int32 → Prop) (a0 : Nat) (s_j85 : St) (x2j85 : Int32) (x3j85 : Int32) (x4j85 : Int32) (x5j85 : Int32) (x6j85 : Int32) : Prop := K_31 s_j85 x2j85 x3j85 x4j85 x5j85 (x6j85 + 1)
def wj_Wd_fieldWith_82 (y : Ly) (Post : St → Int32 → Prop) (a0 : Nat) (s_j82 : St) (x6j82 : Int32) : Prop := Post s_j82 x6j82
def wb_Wd_fieldWith_31 (y : Ly) (Post : St → Int32 → Prop) (K_31 : St → Int32 → Int32 → Int32 → Int32 → Int32 → Prop) (a0 : Nat) (s_h31 : St) (x2h31 : Int32) (x3h31 : Int32) (x4h31 : Int32) (x5h31 : Int32) (x6h31 : Int32) : Prop := ((x5h31 ≤ x6h31 → Post s_h31 (-1)) ∧ (¬ (x5h31 ≤ x6h31) → xA y s_h31 (lk a0 8) 0 (x4h31 + (x6h31 * 7)) (fun x_3 : Int32 => ((¬ x_3 = x2h31 → wj_Wd_fieldWith_85 y Post K_31 a0 s_h31 x2h31 x3h31 x4h31 x5h31 x6h31) ∧ (x_3 = x2h31 → ((x3h31 < 0 → wj_Wd_fieldWith_82 y Post a0 s_h31 x6h31) ∧ (¬ (x3h31 < 0) → xA y s_h31 (lk a0 8) 0 ((x4h31 + (x6h31 * 7)) + 1) (fun x_4 : Int32 => ((¬ x_4 = x3h31 → wj_Wd_fieldWith_85 y Post K_31 a0 s_h31 x2h31 x3h31 x4h31 x5h31 x6h31) ∧ (x_4 = x3h31 → wj_Wd_fieldWith_82 y Post a0 s_h31 x6h31))))))))))
def wl_Wd_fieldWith_31 (y : Ly) (Post : St → Int32 → Prop) (a0 : Nat) (s_h31 : St) (x2h31 : Int32) (x3h31 : Int32) (x4h31 : Int32) (x5h31 : Int32) (x6h31 : Int32) : Prop := ∃ (I : St → Int32 → Int32 → Int32 → Int32 → Int32 → Prop) (μ : St → Int32 → Int32 → Int32 → Int32 → Int32 → Nat), I s_h31 x2h31 x3h31 x4h31 x5h31 x6h31 ∧ ∀ (u : St) (t0 : Int32) (t1 : Int32) (t2 : Int32) (t3 : Int32) (t4 : Int32), I u t0 t1 t2 t3 t4 → wb_Wd_fieldWith_31 y Post (fun z t0q t1q t2q t3q t4q => I z t0q t1q t2q t3q t4q ∧ μ z t0q t1q t2q t3q t4q < μ u t0 t1 t2 t3 t4) a0 u t0 t1 t2 t3 t4
def wu_Wd_fieldWith (y : Ly) (Post : St → Int32 → Prop) (σ : St) (a0 : Nat) (v1 : Int32) (v2 : Int32) (v3 : Int32) : Prop := xA y σ a0 6 ((v1 * 19) + 8) (fun x_1 : Int32 => xA y σ a0 6 ((v1 * 19) + 9) (fun x_2 : Int32 => wl_Wd_fieldWith_31 y Post a0 σ v2 v3 x_1 x_2 0))
set_option maxHeartbeats 4000000 in
set_option maxRecDepth 100000 in
theorem cu_Wd_fieldWith (l : Launch) (D : va_G) (g : Nat → ClassId) (ad : Nat → Nat) (y : Ly) (Post : St → Int32 → Prop) (σ : St) (a0 : Nat) (v1 : Int32) (v2 : Int32) (v3 : Int32) (sz : Nat) (h_a0 : cl a0 = 9) (h : wu_Wd_fieldWith y Post σ a0 v1 v2 v3) : Met l y_Wd_fieldWith (mw y_Wd_fieldWith b_Wd_fieldWith 8 (some .int)) ru_Wd_fieldWith (PC g D [] [.ref (ad a0), .int v1, .int v2, .int v3] sz (ws g ad y σ)) (va_Qi (fun (r : Int32) (u : St) => Post u r) (QW D (va_A (ws g ad y σ) sz) (fun u => ws g ad y u)) (va_A (ws g ad y σ) sz)) 0 0 (va_A (ws g ad y σ) sz) := by
  refine ofI (by decide +kernel) (Nat.le_of_ble_eq_true rfl) ?_
  intro p e s m args below meth c A Q ls H locs G hsz hP hD hS hl hret
  subst hsz
  have hl : lv_has ls 8 [(0, .ref (ad a0)), (1, .int v1), (2, .int v2), (3, .int v3)] := hl
  unfold wu_Wd_fieldWith at h
  refine lv_aload_n G.1 G.2.1 d_Wd_fieldWith_0 rfl (lv_at hl 0 rfl) ?_
  refine ugf (v := .ref (yP y a0 6)) G hP h_a0 iWd rfl 6 (by decide) rfl q831 rfl rfl d_Wd_fieldWith_1 ?_
  refine lv_iload_n G.1 G.2.1 d_Wd_fieldWith_4 rfl (lv_at hl 1 rfl) ?_
  refine lv_bipush (v := 19) G.1 G.2.1 d_Wd_fieldWith_5 (by decide) ?_
  refine lv_imul G.1 G.2.1 d_Wd_fieldWith_7 ?_
  refine lv_bipush (v := 8) G.1 G.2.1 d_Wd_fieldWith_8 (by decide) ?_
  refine lv_iadd G.1 G.2.1 d_Wd_fieldWith_10 ?_
  refine uiald G hP (kdp h_a0 rfl) (typ h_a0 rfl) h d_Wd_fieldWith_11 (fun x_1 h => ?_)
  refine lv_istore (lv' := [(4, .int x_1), (0, .ref (ad a0)), (1, .int v1), (2, .int v2), (3, .int v3)]) G.1 G.2.1 d_Wd_fieldWith_12 hl (by decide) rfl (fun ls hl => ?_)
  refine lv_aload_n G.1 G.2.1 d_Wd_fieldWith_14 rfl (lv_at hl 1 rfl) ?_
  refine ugf (v := .ref (yP y a0 6)) G hP h_a0 iWd rfl 6 (by decide) rfl q831 rfl rfl d_Wd_fieldWith_15 ?_
  refine W.eq (g2 := F0 m 18 ls [.ref (yP y a0 6)]) rfl ?_
  refine lv_iload_n G.1 G.2.1 d_Wd_fieldWith_18 rfl (lv_at hl 2 rfl) ?_
  refine lv_bipush (v := 19) G.1 G.2.1 d_Wd_fieldWith_19 (by decide) ?_
  refine lv_imul G.1 G.2.1 d_Wd_fieldWith_21 ?_
  refine lv_bipush (v := 9) G.1 G.2.1 d_Wd_fieldWith_22 (by decide) ?_
  refine lv_iadd G.1 G.2.1 d_Wd_fieldWith_24 ?_
  refine uiald G hP (kdp h_a0 rfl) (typ h_a0 rfl) h d_Wd_fieldWith_25 (fun x_2 h => ?_)
  refine lv_istore (lv' := [(5, .int x_2), (4, .int x_1), (0, .ref (ad a0)), (1, .int v1), (2, .int v2), (3, .int v3)]) G.1 G.2.1 d_Wd_fieldWith_26 hl (by decide) rfl (fun ls hl => ?_)
  refine lv_iconst (v := 0) G.1 G.2.1 d_Wd_fieldWith_28 (by decide) ?_
  refine lv_istore (lv' := [(6, .int 0), (5, .int x_2), (4, .int x_1), (0, .ref (ad a0)), (1, .int v1), (2, .int v2), (3, .int v3)]) G.1 G.2.1 d_Wd_fieldWith_29 hl (by decide) rfl (fun ls hl => ?_)
  unfold wl_Wd_fieldWith_31 at h
  obtain ⟨I_31, μ_31, hI_31, hB_31⟩ := h
  have L_31 : ∀ (n_31 : Nat) (s_h31 : St) (x2h31 : Int32) (x3h31 : Int32) (x4h31 : Int32) (x5h31 : Int32) (x6h31 : Int32), μ_31 s_h31 x2h31 x3h31 x4h31 x5h31 x6h31 < n_31 → I_31 s_h31 x2h31 x3h31 x4h31 x5h31 x6h31 → ∀ (H : Heap) (locs : List Loc), va_P D CL (ws g ad y s_h31) H → va_D A (ws g ad y s_h31) → va_S A s.heap H locs → ∀ ls, lv_has ls 8 [(0, .ref (ad a0)), (2, .int x2h31), (3, .int x3h31), (4, .int x4h31), (5, .int x5h31), (6, .int x6h31)] → W p l e ru_Wd_fieldWith s m args below meth c H locs 0 0 Q (F0 m 31 ls []) := by
    intro n_31
    induction n_31 with
    | zero => intro s_h31 x2h31 x3h31 x4h31 x5h31 x6h31 hμ; exact absurd hμ (Nat.not_lt_zero _)
    | succ n_31 ih_31 =>
      intro s_h31 x2h31 x3h31 x4h31 x5h31 x6h31 hμ_31 hJ H locs hP hD hS ls hl
      obtain ⟨K_31, hK_31, h⟩ : ∃ K : St → Int32 → Int32 → Int32 → Int32 → Int32 → Prop, (∀ z (t0 : Int32) (t1 : Int32) (t2 : Int32) (t3 : Int32) (t4 : Int32), K z t0 t1 t2 t3 t4 → I_31 z t0 t1 t2 t3 t4 ∧ μ_31 z t0 t1 t2 t3 t4 < μ_31 s_h31 x2h31 x3h31 x4h31 x5h31 x6h31) ∧ wb_Wd_fieldWith_31 y Post K a0 s_h31 x2h31 x3h31 x4h31 x5h31 x6h31 := ⟨_, fun _ _ _ _ _ _ h => h, hB_31 s_h31 x2h31 x3h31 x4h31 x5h31 x6h31 hJ⟩
      unfold wb_Wd_fieldWith_31 at h
      refine lv_iload G.1 G.2.1 d_Wd_fieldWith_31 (lv_at hl 5 rfl) ?_
      refine lv_iload G.1 G.2.1 d_Wd_fieldWith_33 (lv_at hl 4 rfl) ?_
      refine lv_icmp_ge (tgt := 91) G.1 G.2.1 d_Wd_fieldWith_35 (by decide) (fun c35 => ?_) (fun c35 => ?_)
      · skip
        have h := h.1 c35
        refine lv_iconst (v := (-1)) G.1 G.2.1 d_Wd_fieldWith_91 (by decide) ?_
        exact hret _ _ _ _ _ _ _ ls h hP hD hS (Nat.le_refl _) (Nat.le_refl _) d_Wd_fieldWith_92
      · skip
        have h := h.2 c35
        refine lv_iload G.1 G.2.1 d_Wd_fieldWith_38 (lv_at hl 3 rfl) ?_
        refine lv_iload G.1 G.2.1 d_Wd_fieldWith_40 (lv_at hl 5 rfl) ?_
        refine lv_bipush (v := 7) G.1 G.2.1 d_Wd_fieldWith_42 (by decide) ?_
        refine lv_imul G.1 G.2.1 d_Wd_fieldWith_44 ?_
        refine lv_iadd G.1 G.2.1 d_Wd_fieldWith_45 ?_
        refine lv_istore (lv' := [(7, .int (x4h31 + (x6h31 * 7))), (0, .ref (ad a0)), (2, .int x2h31), (3, .int x3h31), (4, .int x4h31), (5, .int x5h31), (6, .int x6h31)]) G.1 G.2.1 d_Wd_fieldWith_46 hl (by decide) rfl (fun ls hl => ?_)
        refine lv_aload_n G.1 G.2.1 d_Wd_fieldWith_48 rfl (lv_at hl 1 rfl) ?_
        refine ugf (v := .ref (ad (lk a0 8))) G hP h_a0 iWd rfl 8 (by decide) rfl q835 rfl rfl d_Wd_fieldWith_49 ?_
        refine W.eq (g2 := F0 m 52 ls [.ref (ad (lk a0 8))]) rfl ?_
        refine ugf (v := .ref (yP y (lk a0 8) 0)) G hP (lk_9_8 h_a0) iIn rfl 0 (by decide) rfl q384 rfl rfl d_Wd_fieldWith_52 ?_
        refine lv_iload G.1 G.2.1 d_Wd_fieldWith_55 (lv_at hl 0 rfl) ?_
        refine uiald G hP (kdp (lk_9_8 h_a0) rfl) (typ (lk_9_8 h_a0) rfl) h d_Wd_fieldWith_57 (fun x_3 h => ?_)
        refine lv_iload_n G.1 G.2.1 d_Wd_fieldWith_58 rfl (lv_at hl 2 rfl) ?_
        have J_85 : ∀ (s_j85 : St) (x2j85 : Int32) (x3j85 : Int32) (x4j85 : Int32) (x5j85 : Int32) (x6j85 : Int32) (H : Heap) (locs : List Loc), wj_Wd_fieldWith_85 y Post K_31 a0 s_j85 x2j85 x3j85 x4j85 x5j85 x6j85 → va_P D CL (ws g ad y s_j85) H → va_D A (ws g ad y s_j85) → va_S A s.heap H locs → ∀ ls, lv_has ls 8 [(0, .ref (ad a0)), (2, .int x2j85), (3, .int x3j85), (4, .int x4j85), (5, .int x5j85), (6, .int x6j85)] → W p l e ru_Wd_fieldWith s m args below meth c H locs 0 0 Q (F0 m 85 ls []) := by
          intro s_j85 x2j85 x3j85 x4j85 x5j85 x6j85 H locs h hP hD hS ls hl
          unfold wj_Wd_fieldWith_85 at h
          refine lv_iinc (v := x6j85 + 1) (lv' := [(6, .int (x6j85 + 1)), (0, .ref (ad a0)), (2, .int x2j85), (3, .int x3j85), (4, .int x4j85), (5, .int x5j85)]) G.1 G.2.1 d_Wd_fieldWith_85 hl (k := 5) rfl rfl (by decide) rfl (fun ls hl => ?_)
          refine lv_goto (tgt := 31) G.1 G.2.1 d_Wd_fieldWith_88 (by decide) ?_
          have h := hK_31 s_j85 x2j85 x3j85 x4j85 x5j85 (x6j85 + 1) h
          exact ih_31 s_j85 x2j85 x3j85 x4j85 x5j85 (x6j85 + 1) (Nat.lt_of_lt_of_le h.2 (Nat.le_of_lt_succ hμ_31)) h.1 H locs hP hD hS ls (lv_sub hl [1, 2, 3, 4, 5, 0] rfl)
        refine lv_icmp_ne (tgt := 85) G.1 G.2.1 d_Wd_fieldWith_59 (by decide) (fun c59 => ?_) (fun c59 => ?_)
        · skip
          have h := h.1 c59
          exact J_85 s_h31 x2h31 x3h31 x4h31 x5h31 x6h31 H locs h hP hD hS ls (lv_sub hl [1, 2, 3, 4, 5, 6] rfl)
        · skip
          have h := h.2 c59
          refine lv_iload_n G.1 G.2.1 d_Wd_fieldWith_62 rfl (lv_at hl 3 rfl) ?_
          have J_82 : ∀ (s_j82 : St) (x6j82 : Int32) (H : Heap) (locs : List Loc), wj_Wd_fieldWith_82 y Post a0 s_j82 x6j82 → va_P D CL (ws g ad y s_j82) H → va_D A (ws g ad y s_j82) → va_S A s.heap H locs → ∀ ls, lv_has ls 8 [(6, .int x6j82)] → W p l e ru_Wd_fieldWith s m args below meth c H locs 0 0 Q (F0 m 82 ls []) := by
            intro s_j82 x6j82 H locs h hP hD hS ls hl
            unfold wj_Wd_fieldWith_82 at h
            refine lv_iload G.1 G.2.1 d_Wd_fieldWith_82 (lv_at hl 0 rfl) ?_
            exact hret _ _ _ _ _ _ _ ls h hP hD hS (Nat.le_refl _) (Nat.le_refl _) d_Wd_fieldWith_84
          refine lv_if_lt (tgt := 82) G.1 G.2.1 d_Wd_fieldWith_63 (by decide) (fun c63 => ?_) (fun c63 => ?_)
          · skip
            have h := h.1 c63
            exact J_82 s_h31 x6h31 H locs h hP hD hS ls (lv_sub hl [6] rfl)
          · skip
            have h := h.2 c63
            refine lv_aload_n G.1 G.2.1 d_Wd_fieldWith_66 rfl (lv_at hl 1 rfl) ?_
            refine ugf (v := .ref (ad (lk a0 8))) G hP h_a0 iWd rfl 8 (by decide) rfl q835 rfl rfl d_Wd_fieldWith_67 ?_
            refine ugf (v := .ref (yP y (lk a0 8) 0)) G hP (lk_9_8 h_a0) iIn rfl 0 (by decide) rfl q384 rfl rfl d_Wd_fieldWith_70 ?_
            refine lv_iload G.1 G.2.1 d_Wd_fieldWith_73 (lv_at hl 0 rfl) ?_
            refine lv_iconst (v := 1) G.1 G.2.1 d_Wd_fieldWith_75 (by decide) ?_
            refine W.eq (g2 := F0 m 76 ls [.int 1, .int (x4h31 + (x6h31 * 7)), .ref (yP y (lk a0 8) 0)]) rfl ?_
            refine lv_iadd G.1 G.2.1 d_Wd_fieldWith_76 ?_
            refine uiald G hP (kdp (lk_9_8 h_a0) rfl) (typ (lk_9_8 h_a0) rfl) h d_Wd_fieldWith_77 (fun x_4 h => ?_)
            refine lv_iload_n G.1 G.2.1 d_Wd_fieldWith_78 rfl (lv_at hl 3 rfl) ?_
            refine lv_icmp_ne (tgt := 85) G.1 G.2.1 d_Wd_fieldWith_79 (by decide) (fun c79 => ?_) (fun c79 => ?_)
            · skip
              have h := h.1 c79
              exact J_85 s_h31 x2h31 x3h31 x4h31 x5h31 x6h31 H locs h hP hD hS ls (lv_sub hl [1, 2, 3, 4, 5, 6] rfl)
            · skip
              have h := h.2 c79
              exact J_82 s_h31 x6h31 H locs h hP hD hS ls (lv_sub hl [6] rfl)
  exact L_31 _ σ v2 v3 x_1 x_2 0 (Nat.lt_succ_self _) hI_31 H locs hP hD hS ls (lv_sub hl [3, 5, 6, 2, 1, 0] rfl)
def y_Wd_isFace : MethodName := ⟨"ClassWorks$World", "isFace", "(I)Z"⟩
abbrev b_Wd_isFace : ByteArray := prog_11_method_13_code
theorem d_Wd_isFace_0 : decode b_Wd_isFace 0 = .ok (.aload_n 0, 1) := by decide +kernel
theorem d_Wd_isFace_1 : decode b_Wd_isFace 1 = .ok (.getfield 28, 3) := by decide +kernel
theorem d_Wd_isFace_4 : decode b_Wd_isFace 4 = .ok (.iload_n 1, 1) := by decide +kernel
theorem d_Wd_isFace_5 : decode b_Wd_isFace 5 = .ok (.bipush 19, 2) := by decide +kernel
theorem d_Wd_isFace_7 : decode b_Wd_isFace 7 = .ok (.imul, 1) := by decide +kernel
theorem d_Wd_isFace_8 : decode b_Wd_isFace 8 = .ok (.iconst 1, 1) := by decide +kernel
theorem d_Wd_isFace_9 : decode b_Wd_isFace 9 = .ok (.iadd, 1) := by decide +kernel
theorem d_Wd_isFace_10 : decode b_Wd_isFace 10 = .ok (.iaload, 1) := by decide +kernel
theorem d_Wd_isFace_11 : decode b_Wd_isFace 11 = .ok (.iconst 4, 1) := by decide +kernel
theorem d_Wd_isFace_12 : decode b_Wd_isFace 12 = .ok (.iand, 1) := by decide +kernel
theorem d_Wd_isFace_13 : decode b_Wd_isFace 13 = .ok (.ifCond .eq 7, 3) := by decide +kernel
theorem d_Wd_isFace_16 : decode b_Wd_isFace 16 = .ok (.iconst 1, 1) := by decide +kernel
theorem d_Wd_isFace_17 : decode b_Wd_isFace 17 = .ok (.goto 4, 3) := by decide +kernel
theorem d_Wd_isFace_20 : decode b_Wd_isFace 20 = .ok (.iconst 0, 1) := by decide +kernel
theorem d_Wd_isFace_21 : decode b_Wd_isFace 21 = .ok (.ireturn, 1) := by decide +kernel
abbrev ru_Wd_isFace : Room := { frames := 0, cells := 0, slots := 0, locals := 0 }
def wj_Wd_isFace_21 (y : Ly) (Post : St → Int32 → Prop) (a0 : Nat) (s_j21 : St) (z0j21 : Int32) : Prop := (nb z0j21 ∧ Post s_j21 z0j21)
def wu_Wd_isFace (y : Ly) (Post : St → Int32 → Prop) (σ : St) (a0 : Nat) (v1 : Int32) : Prop := xA y σ a0 6 ((v1 * 19) + 1) (fun x_1 : Int32 => (((x_1 &&& 4) = 0 → wj_Wd_isFace_21 y Post a0 σ 0) ∧ (¬ ((x_1 &&& 4) = 0) → wj_Wd_isFace_21 y Post a0 σ 1)))
set_option maxHeartbeats 4000000 in
set_option maxRecDepth 100000 in
theorem cu_Wd_isFace (l : Launch) (D : va_G) (g : Nat → ClassId) (ad : Nat → Nat) (y : Ly) (Post : St → Int32 → Prop) (σ : St) (a0 : Nat) (v1 : Int32) (sz : Nat) (h_a0 : cl a0 = 9) (h : wu_Wd_isFace y Post σ a0 v1) : Met l y_Wd_isFace (mw y_Wd_isFace b_Wd_isFace 2 (some (.boolean))) ru_Wd_isFace (PC g D [] [.ref (ad a0), .int v1] sz (ws g ad y σ)) (va_Qi (fun (r : Int32) (u : St) => Post u r) (QW D (va_A (ws g ad y σ) sz) (fun u => ws g ad y u)) (va_A (ws g ad y σ) sz)) 0 0 (va_A (ws g ad y σ) sz) := by
  refine ofZ (by decide +kernel) (Nat.le_of_ble_eq_true rfl) ?_
  intro p e s m args below meth c A Q ls H locs G hsz hP hD hS hl hret
  subst hsz
  have hl : lv_has ls 2 [(0, .ref (ad a0)), (1, .int v1)] := hl
  unfold wu_Wd_isFace at h
  refine lv_aload_n G.1 G.2.1 d_Wd_isFace_0 rfl (lv_at hl 0 rfl) ?_
  refine ugf (v := .ref (yP y a0 6)) G hP h_a0 iWd rfl 6 (by decide) rfl q831 rfl rfl d_Wd_isFace_1 ?_
  refine lv_iload_n G.1 G.2.1 d_Wd_isFace_4 rfl (lv_at hl 1 rfl) ?_
  refine lv_bipush (v := 19) G.1 G.2.1 d_Wd_isFace_5 (by decide) ?_
  refine lv_imul G.1 G.2.1 d_Wd_isFace_7 ?_
  refine lv_iconst (v := 1) G.1 G.2.1 d_Wd_isFace_8 (by decide) ?_
  refine lv_iadd G.1 G.2.1 d_Wd_isFace_9 ?_
  refine uiald G hP (kdp h_a0 rfl) (typ h_a0 rfl) h d_Wd_isFace_10 (fun x_1 h => ?_)
  refine lv_iconst (v := 4) G.1 G.2.1 d_Wd_isFace_11 (by decide) ?_
  refine lv_iand G.1 G.2.1 d_Wd_isFace_12 ?_
  have J_21 : ∀ (s_j21 : St) (z0j21 : Int32) (H : Heap) (locs : List Loc), wj_Wd_isFace_21 y Post a0 s_j21 z0j21 → va_P D CL (ws g ad y s_j21) H → va_D A (ws g ad y s_j21) → va_S A s.heap H locs → ∀ ls, lv_has ls 2 [] → W p l e ru_Wd_isFace s m args below meth c H locs 0 0 Q (F0 m 21 ls [.int z0j21]) := by
    intro s_j21 z0j21 H locs h hP hD hS ls hl
    unfold wj_Wd_isFace_21 at h
    exact hret _ _ _ _ _ _ _ ls (nb_n h.1) h.2 hP hD hS (Nat.le_refl _) (Nat.le_refl _) d_Wd_isFace_21
  refine lv_if_eq (tgt := 20) G.1 G.2.1 d_Wd_isFace_13 (by decide) (fun c13 => ?_) (fun c13 => ?_)
  · skip
    have h := h.1 c13
    refine W.eq (g2 := F0 m 20 ls []) rfl ?_
    refine lv_iconst (v := 0) G.1 G.2.1 d_Wd_isFace_20 (by decide) ?_
    exact J_21 σ 0 H locs h hP hD hS ls (lv_sub hl [] rfl)
  · skip
    have h := h.2 c13
    refine W.eq (g2 := F0 m 16 ls []) rfl ?_
    refine lv_iconst (v := 1) G.1 G.2.1 d_Wd_isFace_16 (by decide) ?_
    refine lv_goto (tgt := 21) G.1 G.2.1 d_Wd_isFace_17 (by decide) ?_
    exact J_21 σ 1 H locs h hP hD hS ls (lv_sub hl [] rfl)
def y_Wd_of : MethodName := ⟨"ClassWorks$World", "of", "(II)I"⟩
abbrev b_Wd_of : ByteArray := prog_11_method_7_code
theorem d_Wd_of_0 : decode b_Wd_of 0 = .ok (.aload_n 0, 1) := by decide +kernel
theorem d_Wd_of_1 : decode b_Wd_of 1 = .ok (.getfield 28, 3) := by decide +kernel
theorem d_Wd_of_4 : decode b_Wd_of 4 = .ok (.iload_n 1, 1) := by decide +kernel
theorem d_Wd_of_5 : decode b_Wd_of 5 = .ok (.bipush 19, 2) := by decide +kernel
theorem d_Wd_of_7 : decode b_Wd_of 7 = .ok (.imul, 1) := by decide +kernel
theorem d_Wd_of_8 : decode b_Wd_of 8 = .ok (.iload_n 2, 1) := by decide +kernel
theorem d_Wd_of_9 : decode b_Wd_of 9 = .ok (.iadd, 1) := by decide +kernel
theorem d_Wd_of_10 : decode b_Wd_of 10 = .ok (.iaload, 1) := by decide +kernel
theorem d_Wd_of_11 : decode b_Wd_of 11 = .ok (.ireturn, 1) := by decide +kernel
abbrev ru_Wd_of : Room := { frames := 0, cells := 0, slots := 0, locals := 0 }
def wu_Wd_of (y : Ly) (Post : St → Int32 → Prop) (σ : St) (a0 : Nat) (v1 : Int32) (v2 : Int32) : Prop := xA y σ a0 6 ((v1 * 19) + v2) (fun x_1 : Int32 => Post σ x_1)
set_option maxHeartbeats 4000000 in
set_option maxRecDepth 100000 in
theorem cu_Wd_of (l : Launch) (D : va_G) (g : Nat → ClassId) (ad : Nat → Nat) (y : Ly) (Post : St → Int32 → Prop) (σ : St) (a0 : Nat) (v1 : Int32) (v2 : Int32) (sz : Nat) (h_a0 : cl a0 = 9) (h : wu_Wd_of y Post σ a0 v1 v2) : Met l y_Wd_of (mw y_Wd_of b_Wd_of 3 (some .int)) ru_Wd_of (PC g D [] [.ref (ad a0), .int v1, .int v2] sz (ws g ad y σ)) (va_Qi (fun (r : Int32) (u : St) => Post u r) (QW D (va_A (ws g ad y σ) sz) (fun u => ws g ad y u)) (va_A (ws g ad y σ) sz)) 0 0 (va_A (ws g ad y σ) sz) := by
  refine ofI (by decide +kernel) (Nat.le_of_ble_eq_true rfl) ?_
  intro p e s m args below meth c A Q ls H locs G hsz hP hD hS hl hret
  subst hsz
  have hl : lv_has ls 3 [(0, .ref (ad a0)), (1, .int v1), (2, .int v2)] := hl
  unfold wu_Wd_of at h
  refine lv_aload_n G.1 G.2.1 d_Wd_of_0 rfl (lv_at hl 0 rfl) ?_
  refine ugf (v := .ref (yP y a0 6)) G hP h_a0 iWd rfl 6 (by decide) rfl q831 rfl rfl d_Wd_of_1 ?_
  refine lv_iload_n G.1 G.2.1 d_Wd_of_4 rfl (lv_at hl 1 rfl) ?_
  refine lv_bipush (v := 19) G.1 G.2.1 d_Wd_of_5 (by decide) ?_
  refine lv_imul G.1 G.2.1 d_Wd_of_7 ?_
  refine lv_iload_n G.1 G.2.1 d_Wd_of_8 rfl (lv_at hl 2 rfl) ?_
  refine lv_iadd G.1 G.2.1 d_Wd_of_9 ?_
  refine uiald G hP (kdp h_a0 rfl) (typ h_a0 rfl) h d_Wd_of_10 (fun x_1 h => ?_)
  exact hret _ _ _ _ _ _ _ ls h hP hD hS (Nat.le_refl _) (Nat.le_refl _) d_Wd_of_11
theorem q596 : Cond.fieldLink "ClassWorks$Reader" 30 "ClassWorks$Reader" "cls" "I" ∈ lw_ok := lw_okmem (List.mem_of_getElem? (i := 596) (by decide +kernel)) rfl
theorem q1437 : Cond.methodLink "ClassWorks$Reader" 189 y_Wd_isFace ∈ lw_ok := lw_okmem (List.mem_of_getElem? (i := 1437) (by decide +kernel)) rfl
theorem q1440 : Cond.code y_Wd_isFace b_Wd_isFace 2 (some (.boolean)) ∈ lw_ok := lw_okmem (List.mem_of_getElem? (i := 1440) (by decide +kernel)) rfl
theorem q1438 : Cond.instanceMethod y_Wd_isFace ∈ lw_ok := lw_okmem (List.mem_of_getElem? (i := 1438) (by decide +kernel)) rfl
theorem q1439 : Cond.selects y_Wd_isFace.cls y_Wd_isFace y_Wd_isFace ∈ lw_ok := lw_okmem (List.mem_of_getElem? (i := 1439) (by decide +kernel)) rfl
theorem w9_Wd_isFace : CWv y_Wd_isFace b_Wd_isFace 2 (some (.boolean)) 1 ∧ Cond.instanceMethod y_Wd_isFace ∈ lw_ok ∧ Cond.selects y_Wd_isFace.cls y_Wd_isFace y_Wd_isFace ∈ lw_ok := ⟨⟨q1440, q345, by decide +kernel, by decide +kernel, by decide +kernel⟩, q1438, q1439⟩
theorem q1441 : Cond.methodLink "ClassWorks$Reader" 192 y_Wd_of ∈ lw_ok := lw_okmem (List.mem_of_getElem? (i := 1441) (by decide +kernel)) rfl
theorem q1444 : Cond.code y_Wd_of b_Wd_of 3 (some .int) ∈ lw_ok := lw_okmem (List.mem_of_getElem? (i := 1444) (by decide +kernel)) rfl
theorem q1442 : Cond.instanceMethod y_Wd_of ∈ lw_ok := lw_okmem (List.mem_of_getElem? (i := 1442) (by decide +kernel)) rfl
theorem q1443 : Cond.selects y_Wd_of.cls y_Wd_of y_Wd_of ∈ lw_ok := lw_okmem (List.mem_of_getElem? (i := 1443) (by decide +kernel)) rfl
theorem w9_Wd_of : CWv y_Wd_of b_Wd_of 3 (some .int) 2 ∧ Cond.instanceMethod y_Wd_of ∈ lw_ok ∧ Cond.selects y_Wd_of.cls y_Wd_of y_Wd_of ∈ lw_ok := ⟨⟨q1444, q345, by decide +kernel, by decide +kernel, by decide +kernel⟩, q1442, q1443⟩
def y_Re_noteMethod : MethodName := ⟨"ClassWorks$Reader", "noteMethod", "(III)V"⟩
abbrev b_Re_noteMethod : ByteArray := prog_8_method_20_code
theorem d_Re_noteMethod_0 : decode b_Re_noteMethod 0 = .ok (.iload_n 1, 1) := by decide +kernel
theorem d_Re_noteMethod_1 : decode b_Re_noteMethod 1 = .ok (.bipush 8, 2) := by decide +kernel
theorem d_Re_noteMethod_3 : decode b_Re_noteMethod 3 = .ok (.iand, 1) := by decide +kernel
theorem d_Re_noteMethod_4 : decode b_Re_noteMethod 4 = .ok (.ifCond .eq 7, 3) := by decide +kernel
theorem d_Re_noteMethod_7 : decode b_Re_noteMethod 7 = .ok (.iconst 1, 1) := by decide +kernel
theorem d_Re_noteMethod_8 : decode b_Re_noteMethod 8 = .ok (.goto 4, 3) := by decide +kernel
theorem d_Re_noteMethod_11 : decode b_Re_noteMethod 11 = .ok (.iconst 0, 1) := by decide +kernel
theorem d_Re_noteMethod_12 : decode b_Re_noteMethod 12 = .ok (.istore 4, 2) := by decide +kernel
theorem d_Re_noteMethod_14 : decode b_Re_noteMethod 14 = .ok (.iload 4, 2) := by decide +kernel
theorem d_Re_noteMethod_16 : decode b_Re_noteMethod 16 = .ok (.ifCond .eq 26, 3) := by decide +kernel
theorem d_Re_noteMethod_19 : decode b_Re_noteMethod 19 = .ok (.iload_n 1, 1) := by decide +kernel
theorem d_Re_noteMethod_20 : decode b_Re_noteMethod 20 = .ok (.bipush 7, 2) := by decide +kernel
theorem d_Re_noteMethod_22 : decode b_Re_noteMethod 22 = .ok (.iand, 1) := by decide +kernel
theorem d_Re_noteMethod_23 : decode b_Re_noteMethod 23 = .ok (.ifCond .eq 19, 3) := by decide +kernel
theorem d_Re_noteMethod_26 : decode b_Re_noteMethod 26 = .ok (.aload_n 0, 1) := by decide +kernel
theorem d_Re_noteMethod_27 : decode b_Re_noteMethod 27 = .ok (.getfield 72, 3) := by decide +kernel
theorem d_Re_noteMethod_30 : decode b_Re_noteMethod 30 = .ok (.iconst 0, 1) := by decide +kernel
theorem d_Re_noteMethod_31 : decode b_Re_noteMethod 31 = .ok (.invokevirtual 173, 3) := by decide +kernel
theorem d_Re_noteMethod_34 : decode b_Re_noteMethod 34 = .ok (.ifCond .eq 8, 3) := by decide +kernel
theorem d_Re_noteMethod_37 : decode b_Re_noteMethod 37 = .ok (.aload_n 0, 1) := by decide +kernel
theorem d_Re_noteMethod_38 : decode b_Re_noteMethod 38 = .ok (.iconst 4, 1) := by decide +kernel
theorem d_Re_noteMethod_39 : decode b_Re_noteMethod 39 = .ok (.invokevirtual 170, 3) := by decide +kernel
theorem d_Re_noteMethod_42 : decode b_Re_noteMethod 42 = .ok (.iload_n 1, 1) := by decide +kernel
theorem d_Re_noteMethod_43 : decode b_Re_noteMethod 43 = .ok (.bipush 6, 2) := by decide +kernel
theorem d_Re_noteMethod_45 : decode b_Re_noteMethod 45 = .ok (.iand, 1) := by decide +kernel
theorem d_Re_noteMethod_46 : decode b_Re_noteMethod 46 = .ok (.ifCond .ne 9, 3) := by decide +kernel
theorem d_Re_noteMethod_49 : decode b_Re_noteMethod 49 = .ok (.iload_n 2, 1) := by decide +kernel
theorem d_Re_noteMethod_50 : decode b_Re_noteMethod 50 = .ok (.bipush 7, 2) := by decide +kernel
theorem d_Re_noteMethod_52 : decode b_Re_noteMethod 52 = .ok (.if_icmp .ne 7, 3) := by decide +kernel
theorem d_Re_noteMethod_55 : decode b_Re_noteMethod 55 = .ok (.iconst 1, 1) := by decide +kernel
theorem d_Re_noteMethod_56 : decode b_Re_noteMethod 56 = .ok (.goto 4, 3) := by decide +kernel
theorem d_Re_noteMethod_59 : decode b_Re_noteMethod 59 = .ok (.iconst 0, 1) := by decide +kernel
theorem d_Re_noteMethod_60 : decode b_Re_noteMethod 60 = .ok (.istore 5, 2) := by decide +kernel
theorem d_Re_noteMethod_62 : decode b_Re_noteMethod 62 = .ok (.aload_n 0, 1) := by decide +kernel
theorem d_Re_noteMethod_63 : decode b_Re_noteMethod 63 = .ok (.getfield 72, 3) := by decide +kernel
theorem d_Re_noteMethod_66 : decode b_Re_noteMethod 66 = .ok (.aload_n 0, 1) := by decide +kernel
theorem d_Re_noteMethod_67 : decode b_Re_noteMethod 67 = .ok (.getfield 30, 3) := by decide +kernel
theorem d_Re_noteMethod_70 : decode b_Re_noteMethod 70 = .ok (.invokevirtual 189, 3) := by decide +kernel
theorem d_Re_noteMethod_73 : decode b_Re_noteMethod 73 = .ok (.ifCond .eq 24, 3) := by decide +kernel
theorem d_Re_noteMethod_76 : decode b_Re_noteMethod 76 = .ok (.iload 5, 2) := by decide +kernel
theorem d_Re_noteMethod_78 : decode b_Re_noteMethod 78 = .ok (.ifCond .eq 19, 3) := by decide +kernel
theorem d_Re_noteMethod_81 : decode b_Re_noteMethod 81 = .ok (.aload_n 0, 1) := by decide +kernel
theorem d_Re_noteMethod_82 : decode b_Re_noteMethod 82 = .ok (.getfield 72, 3) := by decide +kernel
theorem d_Re_noteMethod_85 : decode b_Re_noteMethod 85 = .ok (.iconst 1, 1) := by decide +kernel
theorem d_Re_noteMethod_86 : decode b_Re_noteMethod 86 = .ok (.invokevirtual 173, 3) := by decide +kernel
theorem d_Re_noteMethod_89 : decode b_Re_noteMethod 89 = .ok (.ifCond .eq 8, 3) := by decide +kernel
theorem d_Re_noteMethod_92 : decode b_Re_noteMethod 92 = .ok (.aload_n 0, 1) := by decide +kernel
theorem d_Re_noteMethod_93 : decode b_Re_noteMethod 93 = .ok (.iconst 5, 1) := by decide +kernel
theorem d_Re_noteMethod_94 : decode b_Re_noteMethod 94 = .ok (.invokevirtual 170, 3) := by decide +kernel
theorem d_Re_noteMethod_97 : decode b_Re_noteMethod 97 = .ok (.iload 4, 2) := by decide +kernel
theorem d_Re_noteMethod_99 : decode b_Re_noteMethod 99 = .ok (.ifCond .eq 38, 3) := by decide +kernel
theorem d_Re_noteMethod_102 : decode b_Re_noteMethod 102 = .ok (.aload_n 0, 1) := by decide +kernel
theorem d_Re_noteMethod_103 : decode b_Re_noteMethod 103 = .ok (.getfield 72, 3) := by decide +kernel
theorem d_Re_noteMethod_106 : decode b_Re_noteMethod 106 = .ok (.aload_n 0, 1) := by decide +kernel
theorem d_Re_noteMethod_107 : decode b_Re_noteMethod 107 = .ok (.getfield 30, 3) := by decide +kernel
theorem d_Re_noteMethod_110 : decode b_Re_noteMethod 110 = .ok (.iconst 1, 1) := by decide +kernel
theorem d_Re_noteMethod_111 : decode b_Re_noteMethod 111 = .ok (.invokevirtual 192, 3) := by decide +kernel
theorem d_Re_noteMethod_114 : decode b_Re_noteMethod 114 = .ok (.bipush 6, 2) := by decide +kernel
theorem d_Re_noteMethod_116 : decode b_Re_noteMethod 116 = .ok (.iand, 1) := by decide +kernel
theorem d_Re_noteMethod_117 : decode b_Re_noteMethod 117 = .ok (.ifCond .ne 20, 3) := by decide +kernel
theorem d_Re_noteMethod_120 : decode b_Re_noteMethod 120 = .ok (.aload_n 0, 1) := by decide +kernel
theorem d_Re_noteMethod_121 : decode b_Re_noteMethod 121 = .ok (.getfield 72, 3) := by decide +kernel
theorem d_Re_noteMethod_124 : decode b_Re_noteMethod 124 = .ok (.iconst 2, 1) := by decide +kernel
theorem d_Re_noteMethod_125 : decode b_Re_noteMethod 125 = .ok (.invokevirtual 173, 3) := by decide +kernel
theorem d_Re_noteMethod_128 : decode b_Re_noteMethod 128 = .ok (.ifCond .eq 9, 3) := by decide +kernel
theorem d_Re_noteMethod_131 : decode b_Re_noteMethod 131 = .ok (.aload_n 0, 1) := by decide +kernel
theorem d_Re_noteMethod_132 : decode b_Re_noteMethod 132 = .ok (.bipush 6, 2) := by decide +kernel
theorem d_Re_noteMethod_134 : decode b_Re_noteMethod 134 = .ok (.invokevirtual 170, 3) := by decide +kernel
theorem d_Re_noteMethod_137 : decode b_Re_noteMethod 137 = .ok (.iload_n 2, 1) := by decide +kernel
theorem d_Re_noteMethod_138 : decode b_Re_noteMethod 138 = .ok (.bipush 7, 2) := by decide +kernel
theorem d_Re_noteMethod_140 : decode b_Re_noteMethod 140 = .ok (.if_icmp .ne 21, 3) := by decide +kernel
theorem d_Re_noteMethod_143 : decode b_Re_noteMethod 143 = .ok (.iload_n 1, 1) := by decide +kernel
theorem d_Re_noteMethod_144 : decode b_Re_noteMethod 144 = .ok (.bipush 11, 2) := by decide +kernel
theorem d_Re_noteMethod_146 : decode b_Re_noteMethod 146 = .ok (.iand, 1) := by decide +kernel
theorem d_Re_noteMethod_147 : decode b_Re_noteMethod 147 = .ok (.ifCond .ne 8, 3) := by decide +kernel
theorem d_Re_noteMethod_150 : decode b_Re_noteMethod 150 = .ok (.iload_n 3, 1) := by decide +kernel
theorem d_Re_noteMethod_151 : decode b_Re_noteMethod 151 = .ok (.iconst 5, 1) := by decide +kernel
theorem d_Re_noteMethod_152 : decode b_Re_noteMethod 152 = .ok (.if_icmp .eq 9, 3) := by decide +kernel
theorem d_Re_noteMethod_155 : decode b_Re_noteMethod 155 = .ok (.aload_n 0, 1) := by decide +kernel
theorem d_Re_noteMethod_156 : decode b_Re_noteMethod 156 = .ok (.bipush 7, 2) := by decide +kernel
theorem d_Re_noteMethod_158 : decode b_Re_noteMethod 158 = .ok (.invokevirtual 170, 3) := by decide +kernel
theorem d_Re_noteMethod_161 : decode b_Re_noteMethod 161 = .ok (.aload_n 0, 1) := by decide +kernel
theorem d_Re_noteMethod_162 : decode b_Re_noteMethod 162 = .ok (.getfield 40, 3) := by decide +kernel
theorem d_Re_noteMethod_165 : decode b_Re_noteMethod 165 = .ok (.ifCond .ne 12, 3) := by decide +kernel
theorem d_Re_noteMethod_168 : decode b_Re_noteMethod 168 = .ok (.iload_n 3, 1) := by decide +kernel
theorem d_Re_noteMethod_169 : decode b_Re_noteMethod 169 = .ok (.iconst 5, 1) := by decide +kernel
theorem d_Re_noteMethod_170 : decode b_Re_noteMethod 170 = .ok (.if_icmp .ne 7, 3) := by decide +kernel
theorem d_Re_noteMethod_173 : decode b_Re_noteMethod 173 = .ok (.iconst 1, 1) := by decide +kernel
theorem d_Re_noteMethod_174 : decode b_Re_noteMethod 174 = .ok (.goto 4, 3) := by decide +kernel
theorem d_Re_noteMethod_177 : decode b_Re_noteMethod 177 = .ok (.iconst 0, 1) := by decide +kernel
theorem d_Re_noteMethod_178 : decode b_Re_noteMethod 178 = .ok (.istore 6, 2) := by decide +kernel
theorem d_Re_noteMethod_180 : decode b_Re_noteMethod 180 = .ok (.iload_n 2, 1) := by decide +kernel
theorem d_Re_noteMethod_181 : decode b_Re_noteMethod 181 = .ok (.bipush 8, 2) := by decide +kernel
theorem d_Re_noteMethod_183 : decode b_Re_noteMethod 183 = .ok (.if_icmp .ne 19, 3) := by decide +kernel
theorem d_Re_noteMethod_186 : decode b_Re_noteMethod 186 = .ok (.iload_n 1, 1) := by decide +kernel
theorem d_Re_noteMethod_187 : decode b_Re_noteMethod 187 = .ok (.iconst 1, 1) := by decide +kernel
theorem d_Re_noteMethod_188 : decode b_Re_noteMethod 188 = .ok (.if_icmp .ne 8, 3) := by decide +kernel
theorem d_Re_noteMethod_191 : decode b_Re_noteMethod 191 = .ok (.iload 6, 2) := by decide +kernel
theorem d_Re_noteMethod_193 : decode b_Re_noteMethod 193 = .ok (.ifCond .ne 9, 3) := by decide +kernel
theorem d_Re_noteMethod_196 : decode b_Re_noteMethod 196 = .ok (.aload_n 0, 1) := by decide +kernel
theorem d_Re_noteMethod_197 : decode b_Re_noteMethod 197 = .ok (.bipush 7, 2) := by decide +kernel
theorem d_Re_noteMethod_199 : decode b_Re_noteMethod 199 = .ok (.invokevirtual 170, 3) := by decide +kernel
theorem d_Re_noteMethod_202 : decode b_Re_noteMethod 202 = .ok (.return_, 1) := by decide +kernel
abbrev ru_Re_noteMethod : Room := { frames := 2, cells := 0, slots := 0, locals := 51 }
def wj_Re_noteMethod_202 (y : Ly) (Post : St → Prop) (a0 : Nat) (s_j202 : St) : Prop := Post s_j202
def wj_Re_noteMethod_196 (y : Ly) (Post : St → Prop) (a0 : Nat) (s_j196 : St) : Prop := wu_Re_note y (fun (s_7 : St) => wj_Re_noteMethod_202 y Post a0 s_7) s_j196 a0 7
def wj_Re_noteMethod_178 (y : Ly) (Post : St → Prop) (a0 : Nat) (s_j178 : St) (x1j178 : Int32) (x2j178 : Int32) (z0j178 : Int32) : Prop := ((¬ x2j178 = 8 → wj_Re_noteMethod_202 y Post a0 s_j178) ∧ (x2j178 = 8 → ((¬ x1j178 = 1 → wj_Re_noteMethod_196 y Post a0 s_j178) ∧ (x1j178 = 1 → ((¬ z0j178 = 0 → wj_Re_noteMethod_202 y Post a0 s_j178) ∧ (z0j178 = 0 → wj_Re_noteMethod_196 y Post a0 s_j178))))))
def wj_Re_noteMethod_177 (y : Ly) (Post : St → Prop) (a0 : Nat) (s_j177 : St) (x1j177 : Int32) (x2j177 : Int32) : Prop := wj_Re_noteMethod_178 y Post a0 s_j177 x1j177 x2j177 0
def wj_Re_noteMethod_161 (y : Ly) (Post : St → Prop) (a0 : Nat) (s_j161 : St) (x1j161 : Int32) (x2j161 : Int32) (x3j161 : Int32) : Prop := ((¬ (sV s_j161 a0 12) = 0 → wj_Re_noteMethod_177 y Post a0 s_j161 x1j161 x2j161) ∧ ((sV s_j161 a0 12) = 0 → ((¬ x3j161 = 5 → wj_Re_noteMethod_177 y Post a0 s_j161 x1j161 x2j161) ∧ (x3j161 = 5 → wj_Re_noteMethod_178 y Post a0 s_j161 x1j161 x2j161 1))))
def wj_Re_noteMethod_155 (y : Ly) (Post : St → Prop) (a0 : Nat) (s_j155 : St) (x1j155 : Int32) (x2j155 : Int32) (x3j155 : Int32) : Prop := wu_Re_note y (fun (s_9 : St) => wj_Re_noteMethod_161 y Post a0 s_9 x1j155 x2j155 x3j155) s_j155 a0 7
def wj_Re_noteMethod_137 (y : Ly) (Post : St → Prop) (a0 : Nat) (s_j137 : St) (x1j137 : Int32) (x2j137 : Int32) (x3j137 : Int32) : Prop := ((¬ x2j137 = 7 → wj_Re_noteMethod_161 y Post a0 s_j137 x1j137 x2j137 x3j137) ∧ (x2j137 = 7 → ((¬ (x1j137 &&& 11) = 0 → wj_Re_noteMethod_155 y Post a0 s_j137 x1j137 x2j137 x3j137) ∧ ((x1j137 &&& 11) = 0 → ((x3j137 = 5 → wj_Re_noteMethod_161 y Post a0 s_j137 x1j137 x2j137 x3j137) ∧ (¬ (x3j137 = 5) → wj_Re_noteMethod_155 y Post a0 s_j137 x1j137 x2j137 x3j137))))))
def wj_Re_noteMethod_97 (y : Ly) (Post : St → Prop) (a0 : Nat) (s_j97 : St) (x1j97 : Int32) (x2j97 : Int32) (x3j97 : Int32) (x4j97 : Int32) : Prop := ((x4j97 = 0 → wj_Re_noteMethod_137 y Post a0 s_j97 x1j97 x2j97 x3j97) ∧ (¬ (x4j97 = 0) → ∃ b_10 : Nat, sO s_j97 a0 4 = some b_10 ∧ cl b_10 = 9 ∧ wu_Wd_of y (fun (s_14 : St) (r_13 : Int32) => ((¬ (r_13 &&& 6) = 0 → wj_Re_noteMethod_137 y Post a0 s_14 x1j97 x2j97 x3j97) ∧ ((r_13 &&& 6) = 0 → ∃ b_15 : Nat, sO s_14 a0 4 = some b_15 ∧ cl b_15 = 9 ∧ wu_Wd_asks y (fun (s_19 : St) (r_18 : Int32) => ((r_18 = 0 → wj_Re_noteMethod_137 y Post a0 s_19 x1j97 x2j97 x3j97) ∧ (¬ (r_18 = 0) → wu_Re_note y (fun (s_21 : St) => wj_Re_noteMethod_137 y Post a0 s_21 x1j97 x2j97 x3j97) s_19 a0 6))) s_14 b_15 2))) s_j97 b_10 (sV s_j97 a0 9) 1))
def wj_Re_noteMethod_60 (y : Ly) (Post : St → Prop) (a0 : Nat) (s_j60 : St) (x1j60 : Int32) (x2j60 : Int32) (x3j60 : Int32) (x4j60 : Int32) (z0j60 : Int32) : Prop := ∃ b_1 : Nat, sO s_j60 a0 4 = some b_1 ∧ cl b_1 = 9 ∧ wu_Wd_isFace y (fun (s_5 : St) (r_4 : Int32) => ((r_4 = 0 → wj_Re_noteMethod_97 y Post a0 s_5 x1j60 x2j60 x3j60 x4j60) ∧ (¬ (r_4 = 0) → ((z0j60 = 0 → wj_Re_noteMethod_97 y Post a0 s_5 x1j60 x2j60 x3j60 x4j60) ∧ (¬ (z0j60 = 0) → ∃ b_22 : Nat, sO s_5 a0 4 = some b_22 ∧ cl b_22 = 9 ∧ wu_Wd_asks y (fun (s_26 : St) (r_25 : Int32) => ((r_25 = 0 → wj_Re_noteMethod_97 y Post a0 s_26 x1j60 x2j60 x3j60 x4j60) ∧ (¬ (r_25 = 0) → wu_Re_note y (fun (s_28 : St) => wj_Re_noteMethod_97 y Post a0 s_28 x1j60 x2j60 x3j60 x4j60) s_26 a0 5))) s_5 b_22 1))))) s_j60 b_1 (sV s_j60 a0 9)
def wj_Re_noteMethod_55 (y : Ly) (Post : St → Prop) (a0 : Nat) (s_j55 : St) (x1j55 : Int32) (x2j55 : Int32) (x3j55 : Int32) (x4j55 : Int32) : Prop := wj_Re_noteMethod_60 y Post a0 s_j55 x1j55 x2j55 x3j55 x4j55 1
def wj_Re_noteMethod_42 (y : Ly) (Post : St → Prop) (a0 : Nat) (s_j42 : St) (x1j42 : Int32) (x2j42 : Int32) (x3j42 : Int32) (x4j42 : Int32) : Prop := ((¬ (x1j42 &&& 6) = 0 → wj_Re_noteMethod_55 y Post a0 s_j42 x1j42 x2j42 x3j42 x4j42) ∧ ((x1j42 &&& 6) = 0 → ((¬ x2j42 = 7 → wj_Re_noteMethod_60 y Post a0 s_j42 x1j42 x2j42 x3j42 x4j42 0) ∧ (x2j42 = 7 → wj_Re_noteMethod_55 y Post a0 s_j42 x1j42 x2j42 x3j42 x4j42))))
def wj_Re_noteMethod_12 (y : Ly) (Post : St → Prop) (a0 : Nat) (s_j12 : St) (x1j12 : Int32) (x2j12 : Int32) (x3j12 : Int32) (z0j12 : Int32) : Prop := ((z0j12 = 0 → wj_Re_noteMethod_42 y Post a0 s_j12 x1j12 x2j12 x3j12 z0j12) ∧ (¬ (z0j12 = 0) → (((x1j12 &&& 7) = 0 → wj_Re_noteMethod_42 y Post a0 s_j12 x1j12 x2j12 x3j12 z0j12) ∧ (¬ ((x1j12 &&& 7) = 0) → ∃ b_29 : Nat, sO s_j12 a0 4 = some b_29 ∧ cl b_29 = 9 ∧ wu_Wd_asks y (fun (s_33 : St) (r_32 : Int32) => ((r_32 = 0 → wj_Re_noteMethod_42 y Post a0 s_33 x1j12 x2j12 x3j12 z0j12) ∧ (¬ (r_32 = 0) → wu_Re_note y (fun (s_35 : St) => wj_Re_noteMethod_42 y Post a0 s_35 x1j12 x2j12 x3j12 z0j12) s_33 a0 4))) s_j12 b_29 0))))
def wu_Re_noteMethod (y : Ly) (Post : St → Prop) (σ : St) (a0 : Nat) (v1 : Int32) (v2 : Int32) (v3 : Int32) : Prop := (((v1 &&& 8) = 0 → wj_Re_noteMethod_12 y Post a0 σ v1 v2 v3 0) ∧ (¬ ((v1 &&& 8) = 0) → wj_Re_noteMethod_12 y Post a0 σ v1 v2 v3 1))
set_option maxHeartbeats 4000000 in
set_option maxRecDepth 100000 in
theorem cu_Re_noteMethod (l : Launch) (D : va_G) (g : Nat → ClassId) (ad : Nat → Nat) (y : Ly) (Post : St → Prop) (σ : St) (a0 : Nat) (v1 : Int32) (v2 : Int32) (v3 : Int32) (sz : Nat) (h_a0 : cl a0 = 6) (h : wu_Re_noteMethod y Post σ a0 v1 v2 v3) : Met l y_Re_noteMethod (mw y_Re_noteMethod b_Re_noteMethod 7 (none)) ru_Re_noteMethod (PC g D [] [.ref (ad a0), .int v1, .int v2, .int v3] sz (ws g ad y σ)) (va_Qv (fun u : St => Post u) (QW D (va_A (ws g ad y σ) sz) (fun u => ws g ad y u)) (va_A (ws g ad y σ) sz)) 0 0 (va_A (ws g ad y σ) sz) := by
  refine ofV (by decide +kernel) (Nat.le_of_ble_eq_true rfl) ?_
  intro p e s m args below meth c A Q ls H locs G hsz hP hD hS hl hret
  subst hsz
  have hl : lv_has ls 7 [(0, .ref (ad a0)), (1, .int v1), (2, .int v2), (3, .int v3)] := hl
  unfold wu_Re_noteMethod at h
  refine lv_iload_n G.1 G.2.1 d_Re_noteMethod_0 rfl (lv_at hl 1 rfl) ?_
  refine lv_bipush (v := 8) G.1 G.2.1 d_Re_noteMethod_1 (by decide) ?_
  refine lv_iand G.1 G.2.1 d_Re_noteMethod_3 ?_
  have J_12 : ∀ (s_j12 : St) (x1j12 : Int32) (x2j12 : Int32) (x3j12 : Int32) (z0j12 : Int32) (H : Heap) (locs : List Loc), wj_Re_noteMethod_12 y Post a0 s_j12 x1j12 x2j12 x3j12 z0j12 → va_P D CL (ws g ad y s_j12) H → va_D A (ws g ad y s_j12) → va_S A s.heap H locs → ∀ ls, lv_has ls 7 [(0, .ref (ad a0)), (1, .int x1j12), (2, .int x2j12), (3, .int x3j12)] → W p l e ru_Re_noteMethod s m args below meth c H locs 0 0 Q (F0 m 12 ls [.int z0j12]) := by
    intro s_j12 x1j12 x2j12 x3j12 z0j12 H locs h hP hD hS ls hl
    unfold wj_Re_noteMethod_12 at h
    refine lv_istore (lv' := [(4, .int z0j12), (0, .ref (ad a0)), (1, .int x1j12), (2, .int x2j12), (3, .int x3j12)]) G.1 G.2.1 d_Re_noteMethod_12 hl (by decide) rfl (fun ls hl => ?_)
    refine lv_iload G.1 G.2.1 d_Re_noteMethod_14 (lv_at hl 0 rfl) ?_
    have J_42 : ∀ (s_j42 : St) (x1j42 : Int32) (x2j42 : Int32) (x3j42 : Int32) (x4j42 : Int32) (H : Heap) (locs : List Loc), wj_Re_noteMethod_42 y Post a0 s_j42 x1j42 x2j42 x3j42 x4j42 → va_P D CL (ws g ad y s_j42) H → va_D A (ws g ad y s_j42) → va_S A s.heap H locs → ∀ ls, lv_has ls 7 [(0, .ref (ad a0)), (1, .int x1j42), (2, .int x2j42), (3, .int x3j42), (4, .int x4j42)] → W p l e ru_Re_noteMethod s m args below meth c H locs 0 0 Q (F0 m 42 ls []) := by
      intro s_j42 x1j42 x2j42 x3j42 x4j42 H locs h hP hD hS ls hl
      unfold wj_Re_noteMethod_42 at h
      refine lv_iload_n G.1 G.2.1 d_Re_noteMethod_42 rfl (lv_at hl 1 rfl) ?_
      refine lv_bipush (v := 6) G.1 G.2.1 d_Re_noteMethod_43 (by decide) ?_
      refine lv_iand G.1 G.2.1 d_Re_noteMethod_45 ?_
      have J_60 : ∀ (s_j60 : St) (x1j60 : Int32) (x2j60 : Int32) (x3j60 : Int32) (x4j60 : Int32) (z0j60 : Int32) (H : Heap) (locs : List Loc), wj_Re_noteMethod_60 y Post a0 s_j60 x1j60 x2j60 x3j60 x4j60 z0j60 → va_P D CL (ws g ad y s_j60) H → va_D A (ws g ad y s_j60) → va_S A s.heap H locs → ∀ ls, lv_has ls 7 [(0, .ref (ad a0)), (1, .int x1j60), (2, .int x2j60), (3, .int x3j60), (4, .int x4j60)] → W p l e ru_Re_noteMethod s m args below meth c H locs 0 0 Q (F0 m 60 ls [.int z0j60]) := by
        intro s_j60 x1j60 x2j60 x3j60 x4j60 z0j60 H locs h hP hD hS ls hl
        unfold wj_Re_noteMethod_60 at h
        refine lv_istore (lv' := [(5, .int z0j60), (0, .ref (ad a0)), (1, .int x1j60), (2, .int x2j60), (3, .int x3j60), (4, .int x4j60)]) G.1 G.2.1 d_Re_noteMethod_60 hl (by decide) rfl (fun ls hl => ?_)
        refine lv_aload_n G.1 G.2.1 d_Re_noteMethod_62 rfl (lv_at hl 1 rfl) ?_
        obtain ⟨b_1, e_2, c_3, h⟩ := h
        refine ugf (v := .ref (ad b_1)) G hP h_a0 iRe rfl 4 (by decide) rfl q591 rfl (by show va_rf ((sO s_j60 a0 4).map ad) = _; rw [e_2]; rfl) d_Re_noteMethod_63 ?_
        refine lv_aload_n G.1 G.2.1 d_Re_noteMethod_66 rfl (lv_at hl 1 rfl) ?_
        refine ugf (v := .int (sV s_j60 a0 9)) G hP h_a0 iRe rfl 9 (by decide) rfl q596 rfl rfl d_Re_noteMethod_67 ?_
        refine ucVi (As := [.int (sV s_j60 a0 9)]) (rest := []) G hP hD hS (cu_Wd_isFace l D g ad y _ s_j60 b_1 (sV s_j60 a0 9) H.size c_3 h) w9_Wd_isFace q1437 ⟨Nat.le_of_ble_eq_true rfl, Nat.le_of_ble_eq_true rfl⟩ rfl rfl c_3 (q := (RWd, TWd, 17)) rfl rfl hl.1 rfl (Nat.le_of_ble_eq_true rfl) rfl ⟨Nat.le_refl _, Nat.le_refl _⟩ d_Re_noteMethod_70 (fun r_4 s_5 H locs h hP hD hS => ?_)
        have J_97 : ∀ (s_j97 : St) (x1j97 : Int32) (x2j97 : Int32) (x3j97 : Int32) (x4j97 : Int32) (H : Heap) (locs : List Loc), wj_Re_noteMethod_97 y Post a0 s_j97 x1j97 x2j97 x3j97 x4j97 → va_P D CL (ws g ad y s_j97) H → va_D A (ws g ad y s_j97) → va_S A s.heap H locs → ∀ ls, lv_has ls 7 [(0, .ref (ad a0)), (1, .int x1j97), (2, .int x2j97), (3, .int x3j97), (4, .int x4j97)] → W p l e ru_Re_noteMethod s m args below meth c H locs 0 0 Q (F0 m 97 ls []) := by
          intro s_j97 x1j97 x2j97 x3j97 x4j97 H locs h hP hD hS ls hl
          unfold wj_Re_noteMethod_97 at h
          refine lv_iload G.1 G.2.1 d_Re_noteMethod_97 (lv_at hl 4 rfl) ?_
          have J_137 : ∀ (s_j137 : St) (x1j137 : Int32) (x2j137 : Int32) (x3j137 : Int32) (H : Heap) (locs : List Loc), wj_Re_noteMethod_137 y Post a0 s_j137 x1j137 x2j137 x3j137 → va_P D CL (ws g ad y s_j137) H → va_D A (ws g ad y s_j137) → va_S A s.heap H locs → ∀ ls, lv_has ls 7 [(0, .ref (ad a0)), (1, .int x1j137), (2, .int x2j137), (3, .int x3j137)] → W p l e ru_Re_noteMethod s m args below meth c H locs 0 0 Q (F0 m 137 ls []) := by
            intro s_j137 x1j137 x2j137 x3j137 H locs h hP hD hS ls hl
            unfold wj_Re_noteMethod_137 at h
            refine lv_iload_n G.1 G.2.1 d_Re_noteMethod_137 rfl (lv_at hl 2 rfl) ?_
            refine lv_bipush (v := 7) G.1 G.2.1 d_Re_noteMethod_138 (by decide) ?_
            have J_161 : ∀ (s_j161 : St) (x1j161 : Int32) (x2j161 : Int32) (x3j161 : Int32) (H : Heap) (locs : List Loc), wj_Re_noteMethod_161 y Post a0 s_j161 x1j161 x2j161 x3j161 → va_P D CL (ws g ad y s_j161) H → va_D A (ws g ad y s_j161) → va_S A s.heap H locs → ∀ ls, lv_has ls 7 [(0, .ref (ad a0)), (1, .int x1j161), (2, .int x2j161), (3, .int x3j161)] → W p l e ru_Re_noteMethod s m args below meth c H locs 0 0 Q (F0 m 161 ls []) := by
              intro s_j161 x1j161 x2j161 x3j161 H locs h hP hD hS ls hl
              unfold wj_Re_noteMethod_161 at h
              refine lv_aload_n G.1 G.2.1 d_Re_noteMethod_161 rfl (lv_at hl 0 rfl) ?_
              refine ugf (v := .int (sV s_j161 a0 12)) G hP h_a0 iRe rfl 12 (by decide) rfl q599 rfl rfl d_Re_noteMethod_162 ?_
              have J_178 : ∀ (s_j178 : St) (x1j178 : Int32) (x2j178 : Int32) (z0j178 : Int32) (H : Heap) (locs : List Loc), wj_Re_noteMethod_178 y Post a0 s_j178 x1j178 x2j178 z0j178 → va_P D CL (ws g ad y s_j178) H → va_D A (ws g ad y s_j178) → va_S A s.heap H locs → ∀ ls, lv_has ls 7 [(0, .ref (ad a0)), (1, .int x1j178), (2, .int x2j178)] → W p l e ru_Re_noteMethod s m args below meth c H locs 0 0 Q (F0 m 178 ls [.int z0j178]) := by
                intro s_j178 x1j178 x2j178 z0j178 H locs h hP hD hS ls hl
                unfold wj_Re_noteMethod_178 at h
                refine lv_istore (lv' := [(6, .int z0j178), (0, .ref (ad a0)), (1, .int x1j178), (2, .int x2j178)]) G.1 G.2.1 d_Re_noteMethod_178 hl (by decide) rfl (fun ls hl => ?_)
                refine lv_iload_n G.1 G.2.1 d_Re_noteMethod_180 rfl (lv_at hl 3 rfl) ?_
                refine lv_bipush (v := 8) G.1 G.2.1 d_Re_noteMethod_181 (by decide) ?_
                have J_202 : ∀ (s_j202 : St) (H : Heap) (locs : List Loc), wj_Re_noteMethod_202 y Post a0 s_j202 → va_P D CL (ws g ad y s_j202) H → va_D A (ws g ad y s_j202) → va_S A s.heap H locs → ∀ ls, lv_has ls 7 [] → W p l e ru_Re_noteMethod s m args below meth c H locs 0 0 Q (F0 m 202 ls []) := by
                  intro s_j202 H locs h hP hD hS ls hl
                  unfold wj_Re_noteMethod_202 at h
                  exact hret _ _ _ _ _ _ ls h hP hD hS (Nat.le_refl _) (Nat.le_refl _) d_Re_noteMethod_202
                refine lv_icmp_ne (tgt := 202) G.1 G.2.1 d_Re_noteMethod_183 (by decide) (fun c183 => ?_) (fun c183 => ?_)
                · skip
                  have h := h.1 c183
                  exact J_202 s_j178 H locs h hP hD hS ls (lv_sub hl [] rfl)
                · skip
                  have h := h.2 c183
                  refine lv_iload_n G.1 G.2.1 d_Re_noteMethod_186 rfl (lv_at hl 2 rfl) ?_
                  refine lv_iconst (v := 1) G.1 G.2.1 d_Re_noteMethod_187 (by decide) ?_
                  have J_196 : ∀ (s_j196 : St) (H : Heap) (locs : List Loc), wj_Re_noteMethod_196 y Post a0 s_j196 → va_P D CL (ws g ad y s_j196) H → va_D A (ws g ad y s_j196) → va_S A s.heap H locs → ∀ ls, lv_has ls 7 [(0, .ref (ad a0))] → W p l e ru_Re_noteMethod s m args below meth c H locs 0 0 Q (F0 m 196 ls []) := by
                    intro s_j196 H locs h hP hD hS ls hl
                    unfold wj_Re_noteMethod_196 at h
                    refine lv_aload_n G.1 G.2.1 d_Re_noteMethod_196 rfl (lv_at hl 0 rfl) ?_
                    refine lv_bipush (v := 7) G.1 G.2.1 d_Re_noteMethod_197 (by decide) ?_
                    refine ucVv (As := [.int 7]) (rest := []) G hP hD hS (cu_Re_note l D g ad y _ s_j196 a0 7 H.size h_a0 h) w9_Re_note q1337 ⟨Nat.le_of_ble_eq_true rfl, Nat.le_of_ble_eq_true rfl⟩ rfl rfl h_a0 (q := (RRe, TRe, 18)) rfl rfl hl.1 rfl (Nat.le_of_ble_eq_true rfl) rfl ⟨Nat.le_refl _, Nat.le_refl _⟩ d_Re_noteMethod_199 (fun s_7 H locs h hP hD hS => ?_)
                    exact J_202 s_7 H locs h hP hD hS ls (lv_sub hl [] rfl)
                  refine lv_icmp_ne (tgt := 196) G.1 G.2.1 d_Re_noteMethod_188 (by decide) (fun c188 => ?_) (fun c188 => ?_)
                  · skip
                    have h := h.1 c188
                    exact J_196 s_j178 H locs h hP hD hS ls (lv_sub hl [1] rfl)
                  · skip
                    have h := h.2 c188
                    refine lv_iload G.1 G.2.1 d_Re_noteMethod_191 (lv_at hl 0 rfl) ?_
                    refine lv_if_ne (tgt := 202) G.1 G.2.1 d_Re_noteMethod_193 (by decide) (fun c193 => ?_) (fun c193 => ?_)
                    · skip
                      have h := h.1 c193
                      exact J_202 s_j178 H locs h hP hD hS ls (lv_sub hl [] rfl)
                    · skip
                      have h := h.2 c193
                      exact J_196 s_j178 H locs h hP hD hS ls (lv_sub hl [1] rfl)
              have J_177 : ∀ (s_j177 : St) (x1j177 : Int32) (x2j177 : Int32) (H : Heap) (locs : List Loc), wj_Re_noteMethod_177 y Post a0 s_j177 x1j177 x2j177 → va_P D CL (ws g ad y s_j177) H → va_D A (ws g ad y s_j177) → va_S A s.heap H locs → ∀ ls, lv_has ls 7 [(0, .ref (ad a0)), (1, .int x1j177), (2, .int x2j177)] → W p l e ru_Re_noteMethod s m args below meth c H locs 0 0 Q (F0 m 177 ls []) := by
                intro s_j177 x1j177 x2j177 H locs h hP hD hS ls hl
                unfold wj_Re_noteMethod_177 at h
                refine lv_iconst (v := 0) G.1 G.2.1 d_Re_noteMethod_177 (by decide) ?_
                exact J_178 s_j177 x1j177 x2j177 0 H locs h hP hD hS ls (lv_sub hl [0, 1, 2] rfl)
              refine lv_if_ne (tgt := 177) G.1 G.2.1 d_Re_noteMethod_165 (by decide) (fun c165 => ?_) (fun c165 => ?_)
              · skip
                have h := h.1 c165
                exact J_177 s_j161 x1j161 x2j161 H locs h hP hD hS ls (lv_sub hl [0, 1, 2] rfl)
              · skip
                have h := h.2 c165
                refine lv_iload_n G.1 G.2.1 d_Re_noteMethod_168 rfl (lv_at hl 3 rfl) ?_
                refine lv_iconst (v := 5) G.1 G.2.1 d_Re_noteMethod_169 (by decide) ?_
                refine lv_icmp_ne (tgt := 177) G.1 G.2.1 d_Re_noteMethod_170 (by decide) (fun c170 => ?_) (fun c170 => ?_)
                · skip
                  have h := h.1 c170
                  exact J_177 s_j161 x1j161 x2j161 H locs h hP hD hS ls (lv_sub hl [0, 1, 2] rfl)
                · skip
                  have h := h.2 c170
                  refine lv_iconst (v := 1) G.1 G.2.1 d_Re_noteMethod_173 (by decide) ?_
                  refine lv_goto (tgt := 178) G.1 G.2.1 d_Re_noteMethod_174 (by decide) ?_
                  exact J_178 s_j161 x1j161 x2j161 1 H locs h hP hD hS ls (lv_sub hl [0, 1, 2] rfl)
            refine lv_icmp_ne (tgt := 161) G.1 G.2.1 d_Re_noteMethod_140 (by decide) (fun c140 => ?_) (fun c140 => ?_)
            · skip
              have h := h.1 c140
              exact J_161 s_j137 x1j137 x2j137 x3j137 H locs h hP hD hS ls (lv_sub hl [0, 1, 2, 3] rfl)
            · skip
              have h := h.2 c140
              refine lv_iload_n G.1 G.2.1 d_Re_noteMethod_143 rfl (lv_at hl 1 rfl) ?_
              refine lv_bipush (v := 11) G.1 G.2.1 d_Re_noteMethod_144 (by decide) ?_
              refine lv_iand G.1 G.2.1 d_Re_noteMethod_146 ?_
              have J_155 : ∀ (s_j155 : St) (x1j155 : Int32) (x2j155 : Int32) (x3j155 : Int32) (H : Heap) (locs : List Loc), wj_Re_noteMethod_155 y Post a0 s_j155 x1j155 x2j155 x3j155 → va_P D CL (ws g ad y s_j155) H → va_D A (ws g ad y s_j155) → va_S A s.heap H locs → ∀ ls, lv_has ls 7 [(0, .ref (ad a0)), (1, .int x1j155), (2, .int x2j155), (3, .int x3j155)] → W p l e ru_Re_noteMethod s m args below meth c H locs 0 0 Q (F0 m 155 ls []) := by
                intro s_j155 x1j155 x2j155 x3j155 H locs h hP hD hS ls hl
                unfold wj_Re_noteMethod_155 at h
                refine lv_aload_n G.1 G.2.1 d_Re_noteMethod_155 rfl (lv_at hl 0 rfl) ?_
                refine lv_bipush (v := 7) G.1 G.2.1 d_Re_noteMethod_156 (by decide) ?_
                refine ucVv (As := [.int 7]) (rest := []) G hP hD hS (cu_Re_note l D g ad y _ s_j155 a0 7 H.size h_a0 h) w9_Re_note q1337 ⟨Nat.le_of_ble_eq_true rfl, Nat.le_of_ble_eq_true rfl⟩ rfl rfl h_a0 (q := (RRe, TRe, 18)) rfl rfl hl.1 rfl (Nat.le_of_ble_eq_true rfl) rfl ⟨Nat.le_refl _, Nat.le_refl _⟩ d_Re_noteMethod_158 (fun s_9 H locs h hP hD hS => ?_)
                exact J_161 s_9 x1j155 x2j155 x3j155 H locs h hP hD hS ls (lv_sub hl [0, 1, 2, 3] rfl)
              refine lv_if_ne (tgt := 155) G.1 G.2.1 d_Re_noteMethod_147 (by decide) (fun c147 => ?_) (fun c147 => ?_)
              · skip
                have h := h.1 c147
                exact J_155 s_j137 x1j137 x2j137 x3j137 H locs h hP hD hS ls (lv_sub hl [0, 1, 2, 3] rfl)
              · skip
                have h := h.2 c147
                refine lv_iload_n G.1 G.2.1 d_Re_noteMethod_150 rfl (lv_at hl 3 rfl) ?_
                refine lv_iconst (v := 5) G.1 G.2.1 d_Re_noteMethod_151 (by decide) ?_
                refine lv_icmp_eq (tgt := 161) G.1 G.2.1 d_Re_noteMethod_152 (by decide) (fun c152 => ?_) (fun c152 => ?_)
                · skip
                  have h := h.1 c152
                  exact J_161 s_j137 x1j137 x2j137 x3j137 H locs h hP hD hS ls (lv_sub hl [0, 1, 2, 3] rfl)
                · skip
                  have h := h.2 c152
                  exact J_155 s_j137 x1j137 x2j137 x3j137 H locs h hP hD hS ls (lv_sub hl [0, 1, 2, 3] rfl)
          refine lv_if_eq (tgt := 137) G.1 G.2.1 d_Re_noteMethod_99 (by decide) (fun c99 => ?_) (fun c99 => ?_)
          · skip
            have h := h.1 c99
            exact J_137 s_j97 x1j97 x2j97 x3j97 H locs h hP hD hS ls (lv_sub hl [0, 1, 2, 3] rfl)
          · skip
            have h := h.2 c99
            refine lv_aload_n G.1 G.2.1 d_Re_noteMethod_102 rfl (lv_at hl 0 rfl) ?_
            obtain ⟨b_10, e_11, c_12, h⟩ := h
            refine ugf (v := .ref (ad b_10)) G hP h_a0 iRe rfl 4 (by decide) rfl q591 rfl (by show va_rf ((sO s_j97 a0 4).map ad) = _; rw [e_11]; rfl) d_Re_noteMethod_103 ?_
            refine lv_aload_n G.1 G.2.1 d_Re_noteMethod_106 rfl (lv_at hl 0 rfl) ?_
            refine ugf (v := .int (sV s_j97 a0 9)) G hP h_a0 iRe rfl 9 (by decide) rfl q596 rfl rfl d_Re_noteMethod_107 ?_
            refine lv_iconst (v := 1) G.1 G.2.1 d_Re_noteMethod_110 (by decide) ?_
            refine ucVi (As := [.int (sV s_j97 a0 9), .int 1]) (rest := []) G hP hD hS (cu_Wd_of l D g ad y _ s_j97 b_10 (sV s_j97 a0 9) 1 H.size c_12 h) w9_Wd_of q1441 ⟨Nat.le_of_ble_eq_true rfl, Nat.le_of_ble_eq_true rfl⟩ rfl rfl c_12 (q := (RWd, TWd, 17)) rfl rfl hl.1 rfl (Nat.le_of_ble_eq_true rfl) rfl ⟨Nat.le_refl _, Nat.le_refl _⟩ d_Re_noteMethod_111 (fun r_13 s_14 H locs h hP hD hS => ?_)
            refine lv_bipush (v := 6) G.1 G.2.1 d_Re_noteMethod_114 (by decide) ?_
            refine lv_iand G.1 G.2.1 d_Re_noteMethod_116 ?_
            refine lv_if_ne (tgt := 137) G.1 G.2.1 d_Re_noteMethod_117 (by decide) (fun c117 => ?_) (fun c117 => ?_)
            · skip
              have h := h.1 c117
              exact J_137 s_14 x1j97 x2j97 x3j97 H locs h hP hD hS ls (lv_sub hl [0, 1, 2, 3] rfl)
            · skip
              have h := h.2 c117
              refine W.eq (g2 := F0 m 120 ls []) rfl ?_
              refine lv_aload_n G.1 G.2.1 d_Re_noteMethod_120 rfl (lv_at hl 0 rfl) ?_
              obtain ⟨b_15, e_16, c_17, h⟩ := h
              refine ugf (v := .ref (ad b_15)) G hP h_a0 iRe rfl 4 (by decide) rfl q591 rfl (by show va_rf ((sO s_14 a0 4).map ad) = _; rw [e_16]; rfl) d_Re_noteMethod_121 ?_
              refine lv_iconst (v := 2) G.1 G.2.1 d_Re_noteMethod_124 (by decide) ?_
              refine ucVi (As := [.int 2]) (rest := []) G hP hD hS (cu_Wd_asks l D g ad y _ s_14 b_15 2 H.size c_17 h) w9_Wd_asks q1342 ⟨Nat.le_of_ble_eq_true rfl, Nat.le_of_ble_eq_true rfl⟩ rfl rfl c_17 (q := (RWd, TWd, 17)) rfl rfl hl.1 rfl (Nat.le_of_ble_eq_true rfl) rfl ⟨Nat.le_refl _, Nat.le_refl _⟩ d_Re_noteMethod_125 (fun r_18 s_19 H locs h hP hD hS => ?_)
              refine lv_if_eq (tgt := 137) G.1 G.2.1 d_Re_noteMethod_128 (by decide) (fun c128 => ?_) (fun c128 => ?_)
              · skip
                have h := h.1 c128
                exact J_137 s_19 x1j97 x2j97 x3j97 H locs h hP hD hS ls (lv_sub hl [0, 1, 2, 3] rfl)
              · skip
                have h := h.2 c128
                refine lv_aload_n G.1 G.2.1 d_Re_noteMethod_131 rfl (lv_at hl 0 rfl) ?_
                refine lv_bipush (v := 6) G.1 G.2.1 d_Re_noteMethod_132 (by decide) ?_
                refine ucVv (As := [.int 6]) (rest := []) G hP hD hS (cu_Re_note l D g ad y _ s_19 a0 6 H.size h_a0 h) w9_Re_note q1337 ⟨Nat.le_of_ble_eq_true rfl, Nat.le_of_ble_eq_true rfl⟩ rfl rfl h_a0 (q := (RRe, TRe, 18)) rfl rfl hl.1 rfl (Nat.le_of_ble_eq_true rfl) rfl ⟨Nat.le_refl _, Nat.le_refl _⟩ d_Re_noteMethod_134 (fun s_21 H locs h hP hD hS => ?_)
                exact J_137 s_21 x1j97 x2j97 x3j97 H locs h hP hD hS ls (lv_sub hl [0, 1, 2, 3] rfl)
        refine lv_if_eq (tgt := 97) G.1 G.2.1 d_Re_noteMethod_73 (by decide) (fun c73 => ?_) (fun c73 => ?_)
        · skip
          have h := h.1 c73
          exact J_97 s_5 x1j60 x2j60 x3j60 x4j60 H locs h hP hD hS ls (lv_sub hl [1, 2, 3, 4, 5] rfl)
        · skip
          have h := h.2 c73
          refine lv_iload G.1 G.2.1 d_Re_noteMethod_76 (lv_at hl 0 rfl) ?_
          refine lv_if_eq (tgt := 97) G.1 G.2.1 d_Re_noteMethod_78 (by decide) (fun c78 => ?_) (fun c78 => ?_)
          · skip
            have h := h.1 c78
            exact J_97 s_5 x1j60 x2j60 x3j60 x4j60 H locs h hP hD hS ls (lv_sub hl [1, 2, 3, 4, 5] rfl)
          · skip
            have h := h.2 c78
            refine lv_aload_n G.1 G.2.1 d_Re_noteMethod_81 rfl (lv_at hl 1 rfl) ?_
            obtain ⟨b_22, e_23, c_24, h⟩ := h
            refine ugf (v := .ref (ad b_22)) G hP h_a0 iRe rfl 4 (by decide) rfl q591 rfl (by show va_rf ((sO s_5 a0 4).map ad) = _; rw [e_23]; rfl) d_Re_noteMethod_82 ?_
            refine W.eq (g2 := F0 m 85 ls [.ref (ad b_22)]) rfl ?_
            refine lv_iconst (v := 1) G.1 G.2.1 d_Re_noteMethod_85 (by decide) ?_
            refine ucVi (As := [.int 1]) (rest := []) G hP hD hS (cu_Wd_asks l D g ad y _ s_5 b_22 1 H.size c_24 h) w9_Wd_asks q1342 ⟨Nat.le_of_ble_eq_true rfl, Nat.le_of_ble_eq_true rfl⟩ rfl rfl c_24 (q := (RWd, TWd, 17)) rfl rfl hl.1 rfl (Nat.le_of_ble_eq_true rfl) rfl ⟨Nat.le_refl _, Nat.le_refl _⟩ d_Re_noteMethod_86 (fun r_25 s_26 H locs h hP hD hS => ?_)
            refine lv_if_eq (tgt := 97) G.1 G.2.1 d_Re_noteMethod_89 (by decide) (fun c89 => ?_) (fun c89 => ?_)
            · skip
              have h := h.1 c89
              exact J_97 s_26 x1j60 x2j60 x3j60 x4j60 H locs h hP hD hS ls (lv_sub hl [1, 2, 3, 4, 5] rfl)
            · skip
              have h := h.2 c89
              refine lv_aload_n G.1 G.2.1 d_Re_noteMethod_92 rfl (lv_at hl 1 rfl) ?_
              refine lv_iconst (v := 5) G.1 G.2.1 d_Re_noteMethod_93 (by decide) ?_
              refine ucVv (As := [.int 5]) (rest := []) G hP hD hS (cu_Re_note l D g ad y _ s_26 a0 5 H.size h_a0 h) w9_Re_note q1337 ⟨Nat.le_of_ble_eq_true rfl, Nat.le_of_ble_eq_true rfl⟩ rfl rfl h_a0 (q := (RRe, TRe, 18)) rfl rfl hl.1 rfl (Nat.le_of_ble_eq_true rfl) rfl ⟨Nat.le_refl _, Nat.le_refl _⟩ d_Re_noteMethod_94 (fun s_28 H locs h hP hD hS => ?_)
              exact J_97 s_28 x1j60 x2j60 x3j60 x4j60 H locs h hP hD hS ls (lv_sub hl [1, 2, 3, 4, 5] rfl)
      have J_55 : ∀ (s_j55 : St) (x1j55 : Int32) (x2j55 : Int32) (x3j55 : Int32) (x4j55 : Int32) (H : Heap) (locs : List Loc), wj_Re_noteMethod_55 y Post a0 s_j55 x1j55 x2j55 x3j55 x4j55 → va_P D CL (ws g ad y s_j55) H → va_D A (ws g ad y s_j55) → va_S A s.heap H locs → ∀ ls, lv_has ls 7 [(0, .ref (ad a0)), (1, .int x1j55), (2, .int x2j55), (3, .int x3j55), (4, .int x4j55)] → W p l e ru_Re_noteMethod s m args below meth c H locs 0 0 Q (F0 m 55 ls []) := by
        intro s_j55 x1j55 x2j55 x3j55 x4j55 H locs h hP hD hS ls hl
        unfold wj_Re_noteMethod_55 at h
        refine lv_iconst (v := 1) G.1 G.2.1 d_Re_noteMethod_55 (by decide) ?_
        refine lv_goto (tgt := 60) G.1 G.2.1 d_Re_noteMethod_56 (by decide) ?_
        exact J_60 s_j55 x1j55 x2j55 x3j55 x4j55 1 H locs h hP hD hS ls (lv_sub hl [0, 1, 2, 3, 4] rfl)
      refine lv_if_ne (tgt := 55) G.1 G.2.1 d_Re_noteMethod_46 (by decide) (fun c46 => ?_) (fun c46 => ?_)
      · skip
        have h := h.1 c46
        exact J_55 s_j42 x1j42 x2j42 x3j42 x4j42 H locs h hP hD hS ls (lv_sub hl [0, 1, 2, 3, 4] rfl)
      · skip
        have h := h.2 c46
        refine lv_iload_n G.1 G.2.1 d_Re_noteMethod_49 rfl (lv_at hl 2 rfl) ?_
        refine lv_bipush (v := 7) G.1 G.2.1 d_Re_noteMethod_50 (by decide) ?_
        refine lv_icmp_ne (tgt := 59) G.1 G.2.1 d_Re_noteMethod_52 (by decide) (fun c52 => ?_) (fun c52 => ?_)
        · skip
          have h := h.1 c52
          refine lv_iconst (v := 0) G.1 G.2.1 d_Re_noteMethod_59 (by decide) ?_
          exact J_60 s_j42 x1j42 x2j42 x3j42 x4j42 0 H locs h hP hD hS ls (lv_sub hl [0, 1, 2, 3, 4] rfl)
        · skip
          have h := h.2 c52
          exact J_55 s_j42 x1j42 x2j42 x3j42 x4j42 H locs h hP hD hS ls (lv_sub hl [0, 1, 2, 3, 4] rfl)
    refine lv_if_eq (tgt := 42) G.1 G.2.1 d_Re_noteMethod_16 (by decide) (fun c16 => ?_) (fun c16 => ?_)
    · skip
      have h := h.1 c16
      exact J_42 s_j12 x1j12 x2j12 x3j12 z0j12 H locs h hP hD hS ls (lv_sub hl [1, 2, 3, 4, 0] rfl)
    · skip
      have h := h.2 c16
      refine lv_iload_n G.1 G.2.1 d_Re_noteMethod_19 rfl (lv_at hl 2 rfl) ?_
      refine lv_bipush (v := 7) G.1 G.2.1 d_Re_noteMethod_20 (by decide) ?_
      refine lv_iand G.1 G.2.1 d_Re_noteMethod_22 ?_
      refine lv_if_eq (tgt := 42) G.1 G.2.1 d_Re_noteMethod_23 (by decide) (fun c23 => ?_) (fun c23 => ?_)
      · skip
        have h := h.1 c23
        exact J_42 s_j12 x1j12 x2j12 x3j12 z0j12 H locs h hP hD hS ls (lv_sub hl [1, 2, 3, 4, 0] rfl)
      · skip
        have h := h.2 c23
        refine lv_aload_n G.1 G.2.1 d_Re_noteMethod_26 rfl (lv_at hl 1 rfl) ?_
        obtain ⟨b_29, e_30, c_31, h⟩ := h
        refine ugf (v := .ref (ad b_29)) G hP h_a0 iRe rfl 4 (by decide) rfl q591 rfl (by show va_rf ((sO s_j12 a0 4).map ad) = _; rw [e_30]; rfl) d_Re_noteMethod_27 ?_
        refine lv_iconst (v := 0) G.1 G.2.1 d_Re_noteMethod_30 (by decide) ?_
        refine ucVi (As := [.int 0]) (rest := []) G hP hD hS (cu_Wd_asks l D g ad y _ s_j12 b_29 0 H.size c_31 h) w9_Wd_asks q1342 ⟨Nat.le_of_ble_eq_true rfl, Nat.le_of_ble_eq_true rfl⟩ rfl rfl c_31 (q := (RWd, TWd, 17)) rfl rfl hl.1 rfl (Nat.le_of_ble_eq_true rfl) rfl ⟨Nat.le_refl _, Nat.le_refl _⟩ d_Re_noteMethod_31 (fun r_32 s_33 H locs h hP hD hS => ?_)
        refine W.eq (g2 := F0 m 34 ls [.int r_32]) rfl ?_
        refine lv_if_eq (tgt := 42) G.1 G.2.1 d_Re_noteMethod_34 (by decide) (fun c34 => ?_) (fun c34 => ?_)
        · skip
          have h := h.1 c34
          exact J_42 s_33 x1j12 x2j12 x3j12 z0j12 H locs h hP hD hS ls (lv_sub hl [1, 2, 3, 4, 0] rfl)
        · skip
          have h := h.2 c34
          refine lv_aload_n G.1 G.2.1 d_Re_noteMethod_37 rfl (lv_at hl 1 rfl) ?_
          refine lv_iconst (v := 4) G.1 G.2.1 d_Re_noteMethod_38 (by decide) ?_
          refine ucVv (As := [.int 4]) (rest := []) G hP hD hS (cu_Re_note l D g ad y _ s_33 a0 4 H.size h_a0 h) w9_Re_note q1337 ⟨Nat.le_of_ble_eq_true rfl, Nat.le_of_ble_eq_true rfl⟩ rfl rfl h_a0 (q := (RRe, TRe, 18)) rfl rfl hl.1 rfl (Nat.le_of_ble_eq_true rfl) rfl ⟨Nat.le_refl _, Nat.le_refl _⟩ d_Re_noteMethod_39 (fun s_35 H locs h hP hD hS => ?_)
          exact J_42 s_35 x1j12 x2j12 x3j12 z0j12 H locs h hP hD hS ls (lv_sub hl [1, 2, 3, 4, 0] rfl)
  refine lv_if_eq (tgt := 11) G.1 G.2.1 d_Re_noteMethod_4 (by decide) (fun c4 => ?_) (fun c4 => ?_)
  · skip
    have h := h.1 c4
    refine lv_iconst (v := 0) G.1 G.2.1 d_Re_noteMethod_11 (by decide) ?_
    exact J_12 σ v1 v2 v3 0 H locs h hP hD hS ls (lv_sub hl [0, 1, 2, 3] rfl)
  · skip
    have h := h.2 c4
    refine lv_iconst (v := 1) G.1 G.2.1 d_Re_noteMethod_7 (by decide) ?_
    refine lv_goto (tgt := 12) G.1 G.2.1 d_Re_noteMethod_8 (by decide) ?_
    exact J_12 σ v1 v2 v3 1 H locs h hP hD hS ls (lv_sub hl [0, 1, 2, 3] rfl)
def y_Wd_methodWith : MethodName := ⟨"ClassWorks$World", "methodWith", "(II)I"⟩
abbrev b_Wd_methodWith : ByteArray := prog_11_method_18_code
theorem d_Wd_methodWith_0 : decode b_Wd_methodWith 0 = .ok (.aload_n 0, 1) := by decide +kernel
theorem d_Wd_methodWith_1 : decode b_Wd_methodWith 1 = .ok (.getfield 28, 3) := by decide +kernel
theorem d_Wd_methodWith_4 : decode b_Wd_methodWith 4 = .ok (.iload_n 1, 1) := by decide +kernel
theorem d_Wd_methodWith_5 : decode b_Wd_methodWith 5 = .ok (.bipush 19, 2) := by decide +kernel
theorem d_Wd_methodWith_7 : decode b_Wd_methodWith 7 = .ok (.imul, 1) := by decide +kernel
theorem d_Wd_methodWith_8 : decode b_Wd_methodWith 8 = .ok (.bipush 10, 2) := by decide +kernel
theorem d_Wd_methodWith_10 : decode b_Wd_methodWith 10 = .ok (.iadd, 1) := by decide +kernel
theorem d_Wd_methodWith_11 : decode b_Wd_methodWith 11 = .ok (.iaload, 1) := by decide +kernel
theorem d_Wd_methodWith_12 : decode b_Wd_methodWith 12 = .ok (.istore_n 3, 1) := by decide +kernel
theorem d_Wd_methodWith_13 : decode b_Wd_methodWith 13 = .ok (.aload_n 0, 1) := by decide +kernel
theorem d_Wd_methodWith_14 : decode b_Wd_methodWith 14 = .ok (.getfield 28, 3) := by decide +kernel
theorem d_Wd_methodWith_17 : decode b_Wd_methodWith 17 = .ok (.iload_n 1, 1) := by decide +kernel
theorem d_Wd_methodWith_18 : decode b_Wd_methodWith 18 = .ok (.bipush 19, 2) := by decide +kernel
theorem d_Wd_methodWith_20 : decode b_Wd_methodWith 20 = .ok (.imul, 1) := by decide +kernel
theorem d_Wd_methodWith_21 : decode b_Wd_methodWith 21 = .ok (.bipush 11, 2) := by decide +kernel
theorem d_Wd_methodWith_23 : decode b_Wd_methodWith 23 = .ok (.iadd, 1) := by decide +kernel
theorem d_Wd_methodWith_24 : decode b_Wd_methodWith 24 = .ok (.iaload, 1) := by decide +kernel
theorem d_Wd_methodWith_25 : decode b_Wd_methodWith 25 = .ok (.istore 4, 2) := by decide +kernel
theorem d_Wd_methodWith_27 : decode b_Wd_methodWith 27 = .ok (.iconst 0, 1) := by decide +kernel
theorem d_Wd_methodWith_28 : decode b_Wd_methodWith 28 = .ok (.istore 5, 2) := by decide +kernel
theorem d_Wd_methodWith_30 : decode b_Wd_methodWith 30 = .ok (.iload 5, 2) := by decide +kernel
theorem d_Wd_methodWith_32 : decode b_Wd_methodWith 32 = .ok (.iload 4, 2) := by decide +kernel
theorem d_Wd_methodWith_34 : decode b_Wd_methodWith 34 = .ok (.if_icmp .ge 31, 3) := by decide +kernel
theorem d_Wd_methodWith_37 : decode b_Wd_methodWith 37 = .ok (.aload_n 0, 1) := by decide +kernel
theorem d_Wd_methodWith_38 : decode b_Wd_methodWith 38 = .ok (.getfield 45, 3) := by decide +kernel
theorem d_Wd_methodWith_41 : decode b_Wd_methodWith 41 = .ok (.getfield 98, 3) := by decide +kernel
theorem d_Wd_methodWith_44 : decode b_Wd_methodWith 44 = .ok (.iload_n 3, 1) := by decide +kernel
theorem d_Wd_methodWith_45 : decode b_Wd_methodWith 45 = .ok (.iload 5, 2) := by decide +kernel
theorem d_Wd_methodWith_47 : decode b_Wd_methodWith 47 = .ok (.bipush 8, 2) := by decide +kernel
theorem d_Wd_methodWith_49 : decode b_Wd_methodWith 49 = .ok (.imul, 1) := by decide +kernel
theorem d_Wd_methodWith_50 : decode b_Wd_methodWith 50 = .ok (.iadd, 1) := by decide +kernel
theorem d_Wd_methodWith_51 : decode b_Wd_methodWith 51 = .ok (.iaload, 1) := by decide +kernel
theorem d_Wd_methodWith_52 : decode b_Wd_methodWith 52 = .ok (.iload_n 2, 1) := by decide +kernel
theorem d_Wd_methodWith_53 : decode b_Wd_methodWith 53 = .ok (.if_icmp .ne 6, 3) := by decide +kernel
theorem d_Wd_methodWith_56 : decode b_Wd_methodWith 56 = .ok (.iload 5, 2) := by decide +kernel
theorem d_Wd_methodWith_58 : decode b_Wd_methodWith 58 = .ok (.ireturn, 1) := by decide +kernel
theorem d_Wd_methodWith_59 : decode b_Wd_methodWith 59 = .ok (.iinc 5 1, 3) := by decide +kernel
theorem d_Wd_methodWith_62 : decode b_Wd_methodWith 62 = .ok (.goto (-32), 3) := by decide +kernel
theorem d_Wd_methodWith_65 : decode b_Wd_methodWith 65 = .ok (.iconst (-1), 1) := by decide +kernel
theorem d_Wd_methodWith_66 : decode b_Wd_methodWith 66 = .ok (.ireturn, 1) := by decide +kernel
abbrev ru_Wd_methodWith : Room := { frames := 0, cells := 0, slots := 0, locals := 0 }
def wb_Wd_methodWith_30 (y : Ly) (Post : St → Int32 → Prop) (K_30 : St → Int32 → Int32 → Int32 → Int32 → Prop) (a0 : Nat) (s_h30 : St) (x2h30 : Int32) (x3h30 : Int32) (x4h30 : Int32) (x5h30 : Int32) : Prop := ((x4h30 ≤ x5h30 → Post s_h30 (-1)) ∧ (¬ (x4h30 ≤ x5h30) → xA y s_h30 (lk a0 9) 0 (x3h30 + (x5h30 * 8)) (fun x_3 : Int32 => ((¬ x_3 = x2h30 → K_30 s_h30 x2h30 x3h30 x4h30 (x5h30 + 1)) ∧ (x_3 = x2h30 → Post s_h30 x5h30)))))
def wl_Wd_methodWith_30 (y : Ly) (Post : St → Int32 → Prop) (a0 : Nat) (s_h30 : St) (x2h30 : Int32) (x3h30 : Int32) (x4h30 : Int32) (x5h30 : Int32) : Prop := ∃ (I : St → Int32 → Int32 → Int32 → Int32 → Prop) (μ : St → Int32 → Int32 → Int32 → Int32 → Nat), I s_h30 x2h30 x3h30 x4h30 x5h30 ∧ ∀ (u : St) (t0 : Int32) (t1 : Int32) (t2 : Int32) (t3 : Int32), I u t0 t1 t2 t3 → wb_Wd_methodWith_30 y Post (fun z t0q t1q t2q t3q => I z t0q t1q t2q t3q ∧ μ z t0q t1q t2q t3q < μ u t0 t1 t2 t3) a0 u t0 t1 t2 t3
def wu_Wd_methodWith (y : Ly) (Post : St → Int32 → Prop) (σ : St) (a0 : Nat) (v1 : Int32) (v2 : Int32) : Prop := xA y σ a0 6 ((v1 * 19) + 10) (fun x_1 : Int32 => xA y σ a0 6 ((v1 * 19) + 11) (fun x_2 : Int32 => wl_Wd_methodWith_30 y Post a0 σ v2 x_1 x_2 0))
set_option maxHeartbeats 4000000 in
set_option maxRecDepth 100000 in
theorem cu_Wd_methodWith (l : Launch) (D : va_G) (g : Nat → ClassId) (ad : Nat → Nat) (y : Ly) (Post : St → Int32 → Prop) (σ : St) (a0 : Nat) (v1 : Int32) (v2 : Int32) (sz : Nat) (h_a0 : cl a0 = 9) (h : wu_Wd_methodWith y Post σ a0 v1 v2) : Met l y_Wd_methodWith (mw y_Wd_methodWith b_Wd_methodWith 6 (some .int)) ru_Wd_methodWith (PC g D [] [.ref (ad a0), .int v1, .int v2] sz (ws g ad y σ)) (va_Qi (fun (r : Int32) (u : St) => Post u r) (QW D (va_A (ws g ad y σ) sz) (fun u => ws g ad y u)) (va_A (ws g ad y σ) sz)) 0 0 (va_A (ws g ad y σ) sz) := by
  refine ofI (by decide +kernel) (Nat.le_of_ble_eq_true rfl) ?_
  intro p e s m args below meth c A Q ls H locs G hsz hP hD hS hl hret
  subst hsz
  have hl : lv_has ls 6 [(0, .ref (ad a0)), (1, .int v1), (2, .int v2)] := hl
  unfold wu_Wd_methodWith at h
  refine lv_aload_n G.1 G.2.1 d_Wd_methodWith_0 rfl (lv_at hl 0 rfl) ?_
  refine ugf (v := .ref (yP y a0 6)) G hP h_a0 iWd rfl 6 (by decide) rfl q831 rfl rfl d_Wd_methodWith_1 ?_
  refine lv_iload_n G.1 G.2.1 d_Wd_methodWith_4 rfl (lv_at hl 1 rfl) ?_
  refine lv_bipush (v := 19) G.1 G.2.1 d_Wd_methodWith_5 (by decide) ?_
  refine lv_imul G.1 G.2.1 d_Wd_methodWith_7 ?_
  refine lv_bipush (v := 10) G.1 G.2.1 d_Wd_methodWith_8 (by decide) ?_
  refine lv_iadd G.1 G.2.1 d_Wd_methodWith_10 ?_
  refine uiald G hP (kdp h_a0 rfl) (typ h_a0 rfl) h d_Wd_methodWith_11 (fun x_1 h => ?_)
  refine lv_istore_n (lv' := [(3, .int x_1), (0, .ref (ad a0)), (1, .int v1), (2, .int v2)]) G.1 G.2.1 d_Wd_methodWith_12 rfl hl (by decide) rfl (fun ls hl => ?_)
  refine lv_aload_n G.1 G.2.1 d_Wd_methodWith_13 rfl (lv_at hl 1 rfl) ?_
  refine ugf (v := .ref (yP y a0 6)) G hP h_a0 iWd rfl 6 (by decide) rfl q831 rfl rfl d_Wd_methodWith_14 ?_
  refine W.eq (g2 := F0 m 17 ls [.ref (yP y a0 6)]) rfl ?_
  refine lv_iload_n G.1 G.2.1 d_Wd_methodWith_17 rfl (lv_at hl 2 rfl) ?_
  refine lv_bipush (v := 19) G.1 G.2.1 d_Wd_methodWith_18 (by decide) ?_
  refine lv_imul G.1 G.2.1 d_Wd_methodWith_20 ?_
  refine lv_bipush (v := 11) G.1 G.2.1 d_Wd_methodWith_21 (by decide) ?_
  refine lv_iadd G.1 G.2.1 d_Wd_methodWith_23 ?_
  refine uiald G hP (kdp h_a0 rfl) (typ h_a0 rfl) h d_Wd_methodWith_24 (fun x_2 h => ?_)
  refine lv_istore (lv' := [(4, .int x_2), (3, .int x_1), (0, .ref (ad a0)), (1, .int v1), (2, .int v2)]) G.1 G.2.1 d_Wd_methodWith_25 hl (by decide) rfl (fun ls hl => ?_)
  refine lv_iconst (v := 0) G.1 G.2.1 d_Wd_methodWith_27 (by decide) ?_
  refine lv_istore (lv' := [(5, .int 0), (4, .int x_2), (3, .int x_1), (0, .ref (ad a0)), (1, .int v1), (2, .int v2)]) G.1 G.2.1 d_Wd_methodWith_28 hl (by decide) rfl (fun ls hl => ?_)
  unfold wl_Wd_methodWith_30 at h
  obtain ⟨I_30, μ_30, hI_30, hB_30⟩ := h
  have L_30 : ∀ (n_30 : Nat) (s_h30 : St) (x2h30 : Int32) (x3h30 : Int32) (x4h30 : Int32) (x5h30 : Int32), μ_30 s_h30 x2h30 x3h30 x4h30 x5h30 < n_30 → I_30 s_h30 x2h30 x3h30 x4h30 x5h30 → ∀ (H : Heap) (locs : List Loc), va_P D CL (ws g ad y s_h30) H → va_D A (ws g ad y s_h30) → va_S A s.heap H locs → ∀ ls, lv_has ls 6 [(0, .ref (ad a0)), (2, .int x2h30), (3, .int x3h30), (4, .int x4h30), (5, .int x5h30)] → W p l e ru_Wd_methodWith s m args below meth c H locs 0 0 Q (F0 m 30 ls []) := by
    intro n_30
    induction n_30 with
    | zero => intro s_h30 x2h30 x3h30 x4h30 x5h30 hμ; exact absurd hμ (Nat.not_lt_zero _)
    | succ n_30 ih_30 =>
      intro s_h30 x2h30 x3h30 x4h30 x5h30 hμ_30 hJ H locs hP hD hS ls hl
      obtain ⟨K_30, hK_30, h⟩ : ∃ K : St → Int32 → Int32 → Int32 → Int32 → Prop, (∀ z (t0 : Int32) (t1 : Int32) (t2 : Int32) (t3 : Int32), K z t0 t1 t2 t3 → I_30 z t0 t1 t2 t3 ∧ μ_30 z t0 t1 t2 t3 < μ_30 s_h30 x2h30 x3h30 x4h30 x5h30) ∧ wb_Wd_methodWith_30 y Post K a0 s_h30 x2h30 x3h30 x4h30 x5h30 := ⟨_, fun _ _ _ _ _ h => h, hB_30 s_h30 x2h30 x3h30 x4h30 x5h30 hJ⟩
      unfold wb_Wd_methodWith_30 at h
      refine lv_iload G.1 G.2.1 d_Wd_methodWith_30 (lv_at hl 4 rfl) ?_
      refine lv_iload G.1 G.2.1 d_Wd_methodWith_32 (lv_at hl 3 rfl) ?_
      refine lv_icmp_ge (tgt := 65) G.1 G.2.1 d_Wd_methodWith_34 (by decide) (fun c34 => ?_) (fun c34 => ?_)
      · skip
        have h := h.1 c34
        refine lv_iconst (v := (-1)) G.1 G.2.1 d_Wd_methodWith_65 (by decide) ?_
        exact hret _ _ _ _ _ _ _ ls h hP hD hS (Nat.le_refl _) (Nat.le_refl _) d_Wd_methodWith_66
      · skip
        have h := h.2 c34
        refine lv_aload_n G.1 G.2.1 d_Wd_methodWith_37 rfl (lv_at hl 0 rfl) ?_
        refine ugf (v := .ref (ad (lk a0 9))) G hP h_a0 iWd rfl 9 (by decide) rfl q839 rfl rfl d_Wd_methodWith_38 ?_
        refine ugf (v := .ref (yP y (lk a0 9) 0)) G hP (lk_9_9 h_a0) iIn rfl 0 (by decide) rfl q384 rfl rfl d_Wd_methodWith_41 ?_
        refine lv_iload_n G.1 G.2.1 d_Wd_methodWith_44 rfl (lv_at hl 2 rfl) ?_
        refine lv_iload G.1 G.2.1 d_Wd_methodWith_45 (lv_at hl 4 rfl) ?_
        refine lv_bipush (v := 8) G.1 G.2.1 d_Wd_methodWith_47 (by decide) ?_
        refine lv_imul G.1 G.2.1 d_Wd_methodWith_49 ?_
        refine lv_iadd G.1 G.2.1 d_Wd_methodWith_50 ?_
        refine W.eq (g2 := F0 m 51 ls [.int (x3h30 + (x5h30 * 8)), .ref (yP y (lk a0 9) 0)]) rfl ?_
        refine uiald G hP (kdp (lk_9_9 h_a0) rfl) (typ (lk_9_9 h_a0) rfl) h d_Wd_methodWith_51 (fun x_3 h => ?_)
        refine lv_iload_n G.1 G.2.1 d_Wd_methodWith_52 rfl (lv_at hl 1 rfl) ?_
        refine lv_icmp_ne (tgt := 59) G.1 G.2.1 d_Wd_methodWith_53 (by decide) (fun c53 => ?_) (fun c53 => ?_)
        · skip
          have h := h.1 c53
          refine lv_iinc (v := x5h30 + 1) (lv' := [(5, .int (x5h30 + 1)), (0, .ref (ad a0)), (2, .int x2h30), (3, .int x3h30), (4, .int x4h30)]) G.1 G.2.1 d_Wd_methodWith_59 hl (k := 4) rfl rfl (by decide) rfl (fun ls hl => ?_)
          refine lv_goto (tgt := 30) G.1 G.2.1 d_Wd_methodWith_62 (by decide) ?_
          have h := hK_30 s_h30 x2h30 x3h30 x4h30 (x5h30 + 1) h
          exact ih_30 s_h30 x2h30 x3h30 x4h30 (x5h30 + 1) (Nat.lt_of_lt_of_le h.2 (Nat.le_of_lt_succ hμ_30)) h.1 H locs hP hD hS ls (lv_sub hl [1, 2, 3, 4, 0] rfl)
        · skip
          have h := h.2 c53
          refine lv_iload G.1 G.2.1 d_Wd_methodWith_56 (lv_at hl 4 rfl) ?_
          exact hret _ _ _ _ _ _ _ ls h hP hD hS (Nat.le_refl _) (Nat.le_refl _) d_Wd_methodWith_58
  exact L_30 _ σ v2 x_1 x_2 0 (Nat.lt_succ_self _) hI_30 H locs hP hD hS ls (lv_sub hl [3, 5, 2, 1, 0] rfl)
def y_Wd_backToMark : MethodName := ⟨"ClassWorks$World", "backToMark", "()V"⟩
abbrev b_Wd_backToMark : ByteArray := prog_11_method_5_code
theorem d_Wd_backToMark_0 : decode b_Wd_backToMark 0 = .ok (.aload_n 0, 1) := by decide +kernel
theorem d_Wd_backToMark_1 : decode b_Wd_backToMark 1 = .ok (.aload_n 0, 1) := by decide +kernel
theorem d_Wd_backToMark_2 : decode b_Wd_backToMark 2 = .ok (.getfield 66, 3) := by decide +kernel
theorem d_Wd_backToMark_5 : decode b_Wd_backToMark 5 = .ok (.iconst 0, 1) := by decide +kernel
theorem d_Wd_backToMark_6 : decode b_Wd_backToMark 6 = .ok (.iaload, 1) := by decide +kernel
theorem d_Wd_backToMark_7 : decode b_Wd_backToMark 7 = .ok (.invokevirtual 88, 3) := by decide +kernel
theorem d_Wd_backToMark_10 : decode b_Wd_backToMark 10 = .ok (.aload_n 0, 1) := by decide +kernel
theorem d_Wd_backToMark_11 : decode b_Wd_backToMark 11 = .ok (.getfield 41, 3) := by decide +kernel
theorem d_Wd_backToMark_14 : decode b_Wd_backToMark 14 = .ok (.aload_n 0, 1) := by decide +kernel
theorem d_Wd_backToMark_15 : decode b_Wd_backToMark 15 = .ok (.getfield 66, 3) := by decide +kernel
theorem d_Wd_backToMark_18 : decode b_Wd_backToMark 18 = .ok (.iconst 1, 1) := by decide +kernel
theorem d_Wd_backToMark_19 : decode b_Wd_backToMark 19 = .ok (.iaload, 1) := by decide +kernel
theorem d_Wd_backToMark_20 : decode b_Wd_backToMark 20 = .ok (.putfield 91, 3) := by decide +kernel
theorem d_Wd_backToMark_23 : decode b_Wd_backToMark 23 = .ok (.aload_n 0, 1) := by decide +kernel
theorem d_Wd_backToMark_24 : decode b_Wd_backToMark 24 = .ok (.getfield 45, 3) := by decide +kernel
theorem d_Wd_backToMark_27 : decode b_Wd_backToMark 27 = .ok (.aload_n 0, 1) := by decide +kernel
theorem d_Wd_backToMark_28 : decode b_Wd_backToMark 28 = .ok (.getfield 66, 3) := by decide +kernel
theorem d_Wd_backToMark_31 : decode b_Wd_backToMark 31 = .ok (.iconst 2, 1) := by decide +kernel
theorem d_Wd_backToMark_32 : decode b_Wd_backToMark 32 = .ok (.iaload, 1) := by decide +kernel
theorem d_Wd_backToMark_33 : decode b_Wd_backToMark 33 = .ok (.putfield 91, 3) := by decide +kernel
theorem d_Wd_backToMark_36 : decode b_Wd_backToMark 36 = .ok (.aload_n 0, 1) := by decide +kernel
theorem d_Wd_backToMark_37 : decode b_Wd_backToMark 37 = .ok (.getfield 48, 3) := by decide +kernel
theorem d_Wd_backToMark_40 : decode b_Wd_backToMark 40 = .ok (.aload_n 0, 1) := by decide +kernel
theorem d_Wd_backToMark_41 : decode b_Wd_backToMark 41 = .ok (.getfield 66, 3) := by decide +kernel
theorem d_Wd_backToMark_44 : decode b_Wd_backToMark 44 = .ok (.iconst 3, 1) := by decide +kernel
theorem d_Wd_backToMark_45 : decode b_Wd_backToMark 45 = .ok (.iaload, 1) := by decide +kernel
theorem d_Wd_backToMark_46 : decode b_Wd_backToMark 46 = .ok (.putfield 91, 3) := by decide +kernel
theorem d_Wd_backToMark_49 : decode b_Wd_backToMark 49 = .ok (.aload_n 0, 1) := by decide +kernel
theorem d_Wd_backToMark_50 : decode b_Wd_backToMark 50 = .ok (.getfield 51, 3) := by decide +kernel
theorem d_Wd_backToMark_53 : decode b_Wd_backToMark 53 = .ok (.aload_n 0, 1) := by decide +kernel
theorem d_Wd_backToMark_54 : decode b_Wd_backToMark 54 = .ok (.getfield 66, 3) := by decide +kernel
theorem d_Wd_backToMark_57 : decode b_Wd_backToMark 57 = .ok (.iconst 4, 1) := by decide +kernel
theorem d_Wd_backToMark_58 : decode b_Wd_backToMark 58 = .ok (.iaload, 1) := by decide +kernel
theorem d_Wd_backToMark_59 : decode b_Wd_backToMark 59 = .ok (.putfield 91, 3) := by decide +kernel
theorem d_Wd_backToMark_62 : decode b_Wd_backToMark 62 = .ok (.aload_n 0, 1) := by decide +kernel
theorem d_Wd_backToMark_63 : decode b_Wd_backToMark 63 = .ok (.getfield 54, 3) := by decide +kernel
theorem d_Wd_backToMark_66 : decode b_Wd_backToMark 66 = .ok (.aload_n 0, 1) := by decide +kernel
theorem d_Wd_backToMark_67 : decode b_Wd_backToMark 67 = .ok (.getfield 66, 3) := by decide +kernel
theorem d_Wd_backToMark_70 : decode b_Wd_backToMark 70 = .ok (.iconst 5, 1) := by decide +kernel
theorem d_Wd_backToMark_71 : decode b_Wd_backToMark 71 = .ok (.iaload, 1) := by decide +kernel
theorem d_Wd_backToMark_72 : decode b_Wd_backToMark 72 = .ok (.putfield 91, 3) := by decide +kernel
theorem d_Wd_backToMark_75 : decode b_Wd_backToMark 75 = .ok (.return_, 1) := by decide +kernel
abbrev ru_Wd_backToMark : Room := { frames := 2, cells := 0, slots := 0, locals := 44 }
def wu_Wd_backToMark (y : Ly) (Post : St → Prop) (σ : St) (a0 : Nat) : Prop := xA y σ a0 16 0 (fun x_1 : Int32 => wu_Wd_takeBack y (fun (s_3 : St) => xA y s_3 a0 16 1 (fun x_4 : Int32 => xP (uV s_3 (lk a0 8) 1 x_4) (fun s_5 : St => xA y s_5 a0 16 2 (fun x_6 : Int32 => xP (uV s_5 (lk a0 9) 1 x_6) (fun s_7 : St => xA y s_7 a0 16 3 (fun x_8 : Int32 => xP (uV s_7 (lk a0 10) 1 x_8) (fun s_9 : St => xA y s_9 a0 16 4 (fun x_10 : Int32 => xP (uV s_9 (lk a0 11) 1 x_10) (fun s_11 : St => xA y s_11 a0 16 5 (fun x_12 : Int32 => xP (uV s_11 (lk a0 12) 1 x_12) (fun s_13 : St => Post s_13))))))))))) σ a0 x_1)
set_option maxHeartbeats 4000000 in
set_option maxRecDepth 100000 in
theorem cu_Wd_backToMark (l : Launch) (D : va_G) (g : Nat → ClassId) (ad : Nat → Nat) (y : Ly) (Post : St → Prop) (σ : St) (a0 : Nat) (sz : Nat) (h_a0 : cl a0 = 9) (h : wu_Wd_backToMark y Post σ a0) : Met l y_Wd_backToMark (mw y_Wd_backToMark b_Wd_backToMark 1 (none)) ru_Wd_backToMark (PC g D [] [.ref (ad a0)] sz (ws g ad y σ)) (va_Qv (fun u : St => Post u) (QW D (va_A (ws g ad y σ) sz) (fun u => ws g ad y u)) (va_A (ws g ad y σ) sz)) 0 0 (va_A (ws g ad y σ) sz) := by
  refine ofV (by decide +kernel) (Nat.le_of_ble_eq_true rfl) ?_
  intro p e s m args below meth c A Q ls H locs G hsz hP hD hS hl hret
  subst hsz
  have hl : lv_has ls 1 [(0, .ref (ad a0))] := hl
  unfold wu_Wd_backToMark at h
  refine lv_aload_n G.1 G.2.1 d_Wd_backToMark_0 rfl (lv_at hl 0 rfl) ?_
  refine lv_aload_n G.1 G.2.1 d_Wd_backToMark_1 rfl (lv_at hl 0 rfl) ?_
  refine ugf (v := .ref (yP y a0 16)) G hP h_a0 iWd rfl 16 (by decide) rfl q863 rfl rfl d_Wd_backToMark_2 ?_
  refine lv_iconst (v := 0) G.1 G.2.1 d_Wd_backToMark_5 (by decide) ?_
  refine uiald G hP (kdp h_a0 rfl) (typ h_a0 rfl) h d_Wd_backToMark_6 (fun x_1 h => ?_)
  refine ucVv (As := [.int x_1]) (rest := []) G hP hD hS (cu_Wd_takeBack l D g ad y _ σ a0 x_1 H.size h_a0 h) w9_Wd_takeBack q1219 ⟨Nat.le_of_ble_eq_true rfl, Nat.le_of_ble_eq_true rfl⟩ rfl rfl h_a0 (q := (RWd, TWd, 17)) rfl rfl hl.1 rfl (Nat.le_of_ble_eq_true rfl) rfl ⟨Nat.le_refl _, Nat.le_refl _⟩ d_Wd_backToMark_7 (fun s_3 H locs h hP hD hS => ?_)
  refine lv_aload_n G.1 G.2.1 d_Wd_backToMark_10 rfl (lv_at hl 0 rfl) ?_
  refine ugf (v := .ref (ad (lk a0 8))) G hP h_a0 iWd rfl 8 (by decide) rfl q835 rfl rfl d_Wd_backToMark_11 ?_
  refine lv_aload_n G.1 G.2.1 d_Wd_backToMark_14 rfl (lv_at hl 0 rfl) ?_
  refine ugf (v := .ref (yP y a0 16)) G hP h_a0 iWd rfl 16 (by decide) rfl q863 rfl rfl d_Wd_backToMark_15 ?_
  refine lv_iconst (v := 1) G.1 G.2.1 d_Wd_backToMark_18 (by decide) ?_
  refine W.eq (g2 := F0 m 19 ls [.int 1, .ref (yP y a0 16), .ref (ad (lk a0 8))]) rfl ?_
  refine uiald G hP (kdp h_a0 rfl) (typ h_a0 rfl) h d_Wd_backToMark_19 (fun x_4 h => ?_)
  refine upf G hP hD hS h 1 putV (lk_9_8 h_a0) iIn tIn tIn_ok nIn rfl (by decide) rfl q391 rfl rfl fV rfl rfl d_Wd_backToMark_20 (fun s_5 H locs h hP hD hS => ?_)
  refine lv_aload_n G.1 G.2.1 d_Wd_backToMark_23 rfl (lv_at hl 0 rfl) ?_
  refine ugf (v := .ref (ad (lk a0 9))) G hP h_a0 iWd rfl 9 (by decide) rfl q839 rfl rfl d_Wd_backToMark_24 ?_
  refine lv_aload_n G.1 G.2.1 d_Wd_backToMark_27 rfl (lv_at hl 0 rfl) ?_
  refine ugf (v := .ref (yP y a0 16)) G hP h_a0 iWd rfl 16 (by decide) rfl q863 rfl rfl d_Wd_backToMark_28 ?_
  refine lv_iconst (v := 2) G.1 G.2.1 d_Wd_backToMark_31 (by decide) ?_
  refine uiald G hP (kdp h_a0 rfl) (typ h_a0 rfl) h d_Wd_backToMark_32 (fun x_6 h => ?_)
  refine upf G hP hD hS h 1 putV (lk_9_9 h_a0) iIn tIn tIn_ok nIn rfl (by decide) rfl q391 rfl rfl fV rfl rfl d_Wd_backToMark_33 (fun s_7 H locs h hP hD hS => ?_)
  refine lv_aload_n G.1 G.2.1 d_Wd_backToMark_36 rfl (lv_at hl 0 rfl) ?_
  refine ugf (v := .ref (ad (lk a0 10))) G hP h_a0 iWd rfl 10 (by decide) rfl q842 rfl rfl d_Wd_backToMark_37 ?_
  refine lv_aload_n G.1 G.2.1 d_Wd_backToMark_40 rfl (lv_at hl 0 rfl) ?_
  refine W.eq (g2 := F0 m 41 ls [.ref (ad a0), .ref (ad (lk a0 10))]) rfl ?_
  refine ugf (v := .ref (yP y a0 16)) G hP h_a0 iWd rfl 16 (by decide) rfl q863 rfl rfl d_Wd_backToMark_41 ?_
  refine lv_iconst (v := 3) G.1 G.2.1 d_Wd_backToMark_44 (by decide) ?_
  refine uiald G hP (kdp h_a0 rfl) (typ h_a0 rfl) h d_Wd_backToMark_45 (fun x_8 h => ?_)
  refine upf G hP hD hS h 1 putV (lk_9_10 h_a0) iIn tIn tIn_ok nIn rfl (by decide) rfl q391 rfl rfl fV rfl rfl d_Wd_backToMark_46 (fun s_9 H locs h hP hD hS => ?_)
  refine lv_aload_n G.1 G.2.1 d_Wd_backToMark_49 rfl (lv_at hl 0 rfl) ?_
  refine ugf (v := .ref (ad (lk a0 11))) G hP h_a0 iWd rfl 11 (by decide) rfl q848 rfl rfl d_Wd_backToMark_50 ?_
  refine lv_aload_n G.1 G.2.1 d_Wd_backToMark_53 rfl (lv_at hl 0 rfl) ?_
  refine ugf (v := .ref (yP y a0 16)) G hP h_a0 iWd rfl 16 (by decide) rfl q863 rfl rfl d_Wd_backToMark_54 ?_
  refine lv_iconst (v := 4) G.1 G.2.1 d_Wd_backToMark_57 (by decide) ?_
  refine uiald G hP (kdp h_a0 rfl) (typ h_a0 rfl) h d_Wd_backToMark_58 (fun x_10 h => ?_)
  refine upf G hP hD hS h 1 putV (lk_9_11 h_a0) iIn tIn tIn_ok nIn rfl (by decide) rfl q391 rfl rfl fV rfl rfl d_Wd_backToMark_59 (fun s_11 H locs h hP hD hS => ?_)
  refine lv_aload_n G.1 G.2.1 d_Wd_backToMark_62 rfl (lv_at hl 0 rfl) ?_
  refine W.eq (g2 := F0 m 63 ls [.ref (ad a0)]) rfl ?_
  refine ugf (v := .ref (ad (lk a0 12))) G hP h_a0 iWd rfl 12 (by decide) rfl q853 rfl rfl d_Wd_backToMark_63 ?_
  refine lv_aload_n G.1 G.2.1 d_Wd_backToMark_66 rfl (lv_at hl 0 rfl) ?_
  refine ugf (v := .ref (yP y a0 16)) G hP h_a0 iWd rfl 16 (by decide) rfl q863 rfl rfl d_Wd_backToMark_67 ?_
  refine lv_iconst (v := 5) G.1 G.2.1 d_Wd_backToMark_70 (by decide) ?_
  refine uiald G hP (kdp h_a0 rfl) (typ h_a0 rfl) h d_Wd_backToMark_71 (fun x_12 h => ?_)
  refine upf G hP hD hS h 1 putV (lk_9_12 h_a0) iIn tIn tIn_ok nIn rfl (by decide) rfl q391 rfl rfl fV rfl rfl d_Wd_backToMark_72 (fun s_13 H locs h hP hD hS => ?_)
  exact hret _ _ _ _ _ _ ls h hP hD hS (Nat.le_refl _) (Nat.le_refl _) d_Wd_backToMark_75
