def y_Mo_endStart : MethodName := ⟨"ClassWorksModel", "endStart", "(I)V"⟩
abbrev b_Mo_endStart : ByteArray := prog_14_method_102_code
theorem d_Mo_endStart_0 : decode b_Mo_endStart 0 = .ok (.aload_n 0, 1) := by decide +kernel
theorem d_Mo_endStart_1 : decode b_Mo_endStart 1 = .ok (.getfield 917, 3) := by decide +kernel
theorem d_Mo_endStart_4 : decode b_Mo_endStart 4 = .ok (.getfield 942, 3) := by decide +kernel
theorem d_Mo_endStart_7 : decode b_Mo_endStart 7 = .ok (.iload_n 1, 1) := by decide +kernel
theorem d_Mo_endStart_8 : decode b_Mo_endStart 8 = .ok (.iaload, 1) := by decide +kernel
theorem d_Mo_endStart_9 : decode b_Mo_endStart 9 = .ok (.istore_n 2, 1) := by decide +kernel
theorem d_Mo_endStart_10 : decode b_Mo_endStart 10 = .ok (.aload_n 0, 1) := by decide +kernel
theorem d_Mo_endStart_11 : decode b_Mo_endStart 11 = .ok (.getfield 522, 3) := by decide +kernel
theorem d_Mo_endStart_14 : decode b_Mo_endStart 14 = .ok (.getfield 441, 3) := by decide +kernel
theorem d_Mo_endStart_17 : decode b_Mo_endStart 17 = .ok (.iconst (-1), 1) := by decide +kernel
theorem d_Mo_endStart_18 : decode b_Mo_endStart 18 = .ok (.iload_n 2, 1) := by decide +kernel
theorem d_Mo_endStart_19 : decode b_Mo_endStart 19 = .ok (.isub, 1) := by decide +kernel
theorem d_Mo_endStart_20 : decode b_Mo_endStart 20 = .ok (.iconst 2, 1) := by decide +kernel
theorem d_Mo_endStart_21 : decode b_Mo_endStart 21 = .ok (.iastore, 1) := by decide +kernel
theorem d_Mo_endStart_22 : decode b_Mo_endStart 22 = .ok (.aload_n 0, 1) := by decide +kernel
theorem d_Mo_endStart_23 : decode b_Mo_endStart 23 = .ok (.getfield 917, 3) := by decide +kernel
theorem d_Mo_endStart_26 : decode b_Mo_endStart 26 = .ok (.dup, 1) := by decide +kernel
theorem d_Mo_endStart_27 : decode b_Mo_endStart 27 = .ok (.getfield 945, 3) := by decide +kernel
theorem d_Mo_endStart_30 : decode b_Mo_endStart 30 = .ok (.iconst 1, 1) := by decide +kernel
theorem d_Mo_endStart_31 : decode b_Mo_endStart 31 = .ok (.isub, 1) := by decide +kernel
theorem d_Mo_endStart_32 : decode b_Mo_endStart 32 = .ok (.putfield 945, 3) := by decide +kernel
theorem d_Mo_endStart_35 : decode b_Mo_endStart 35 = .ok (.aload_n 0, 1) := by decide +kernel
theorem d_Mo_endStart_36 : decode b_Mo_endStart 36 = .ok (.iconst 5, 1) := by decide +kernel
theorem d_Mo_endStart_37 : decode b_Mo_endStart 37 = .ok (.iload_n 2, 1) := by decide +kernel
theorem d_Mo_endStart_38 : decode b_Mo_endStart 38 = .ok (.invokevirtual 951, 3) := by decide +kernel
theorem d_Mo_endStart_41 : decode b_Mo_endStart 41 = .ok (.return_, 1) := by decide +kernel
abbrev ru_Mo_endStart : Room := { frames := 1, cells := 0, slots := 0, locals := 23 }
def wu_Mo_endStart (y : Ly) (Post : St → Prop) (σ : St) (a0 : Nat) (v1 : Int32) : Prop := ∃ b_1 : Nat, sO σ a0 46 = some b_1 ∧ cl b_1 = 12 ∧ xA y σ b_1 14 v1 (fun x_4 : Int32 => ∃ b_5 : Nat, sO σ a0 45 = some b_5 ∧ cl b_5 = 13 ∧ xS y σ b_5 10 ((-1) - x_4) 2 (fun s_8 : St => ∃ b_9 : Nat, sO s_8 a0 46 = some b_9 ∧ cl b_9 = 12 ∧ xP (uV s_8 b_9 16 ((sV s_8 b_9 16) - 1)) (fun s_12 : St => wu_Mo_note y (fun (s_14 : St) => Post s_14) s_12 a0 5 x_4)))
set_option maxHeartbeats 4000000 in
set_option maxRecDepth 100000 in
theorem cu_Mo_endStart (l : Launch) (D : va_G) (g : Nat → ClassId) (ad : Nat → Nat) (y : Ly) (Post : St → Prop) (σ : St) (a0 : Nat) (v1 : Int32) (sz : Nat) (h_a0 : cl a0 = 14) (h : wu_Mo_endStart y Post σ a0 v1) : Met l y_Mo_endStart (mw y_Mo_endStart b_Mo_endStart 3 (none)) ru_Mo_endStart (PC g D [] [.ref (ad a0), .int v1] sz (ws g ad y σ)) (va_Qv (fun u : St => Post u) (QW D (va_A (ws g ad y σ) sz) (fun u => ws g ad y u)) (va_A (ws g ad y σ) sz)) 0 0 (va_A (ws g ad y σ) sz) := by
  refine ofV (by decide +kernel) (Nat.le_of_ble_eq_true rfl) ?_
  intro p e s m args below meth c A Q ls H locs G hsz hP hD hS hl hret
  subst hsz
  have hl : lv_has ls 3 [(0, .ref (ad a0)), (1, .int v1)] := hl
  unfold wu_Mo_endStart at h
  refine lv_aload_n G.1 G.2.1 d_Mo_endStart_0 rfl (lv_at hl 0 rfl) ?_
  obtain ⟨b_1, e_2, c_3, h⟩ := h
  refine ugf (v := .ref (ad b_1)) G hP h_a0 iMo rfl 46 (by decide) rfl q3110 rfl (by show va_rf ((sO σ a0 46).map ad) = _; rw [e_2]; rfl) d_Mo_endStart_1 ?_
  refine ugfN (v := .ref (yP y b_1 14)) G hP c_3 iMr rfl 14 (by decide) rfl q3002 rfl rfl d_Mo_endStart_4 ?_
  refine lv_iload_n G.1 G.2.1 d_Mo_endStart_7 rfl (lv_at hl 1 rfl) ?_
  refine uiald G hP (kdp c_3 rfl) (typ c_3 rfl) h d_Mo_endStart_8 (fun x_4 h => ?_)
  refine lv_istore_n (lv' := [(2, .int x_4), (0, .ref (ad a0)), (1, .int v1)]) G.1 G.2.1 d_Mo_endStart_9 rfl hl (by decide) rfl (fun ls hl => ?_)
  refine lv_aload_n G.1 G.2.1 d_Mo_endStart_10 rfl (lv_at hl 1 rfl) ?_
  obtain ⟨b_5, e_6, c_7, h⟩ := h
  refine ugf (v := .ref (ad b_5)) G hP h_a0 iMo rfl 45 (by decide) rfl q3109 rfl (by show va_rf ((sO σ a0 45).map ad) = _; rw [e_6]; rfl) d_Mo_endStart_11 ?_
  refine ugfN (v := .ref (yP y b_5 10)) G hP c_7 iMw rfl 10 (by decide) rfl q2724 rfl rfl d_Mo_endStart_14 ?_
  refine lv_iconst (v := (-1)) G.1 G.2.1 d_Mo_endStart_17 (by decide) ?_
  refine lv_iload_n G.1 G.2.1 d_Mo_endStart_18 rfl (lv_at hl 0 rfl) ?_
  refine W.eq (g2 := F0 m 19 ls [.int x_4, .int (-1), .ref (yP y b_5 10)]) rfl ?_
  refine lv_isub G.1 G.2.1 d_Mo_endStart_19 ?_
  refine lv_iconst (v := 2) G.1 G.2.1 d_Mo_endStart_20 (by decide) ?_
  refine uiast G hP hD hS (kdp c_7 rfl) (typ c_7 rfl) h d_Mo_endStart_21 (fun s_8 H locs h hP hD hS => ?_)
  refine lv_aload_n G.1 G.2.1 d_Mo_endStart_22 rfl (lv_at hl 1 rfl) ?_
  obtain ⟨b_9, e_10, c_11, h⟩ := h
  refine ugf (v := .ref (ad b_9)) G hP h_a0 iMo rfl 46 (by decide) rfl q3110 rfl (by show va_rf ((sO s_8 a0 46).map ad) = _; rw [e_10]; rfl) d_Mo_endStart_23 ?_
  refine lv_dup G.1 G.2.1 d_Mo_endStart_26 rfl ?_
  refine ugfN (v := .int (sV s_8 b_9 16)) G hP c_11 iMr rfl 16 (by decide) rfl q3005 rfl rfl d_Mo_endStart_27 ?_
  refine lv_iconst (v := 1) G.1 G.2.1 d_Mo_endStart_30 (by decide) ?_
  refine lv_isub G.1 G.2.1 d_Mo_endStart_31 ?_
  refine upfN G hP hD hS h 16 putV c_11 iMr tMr tMr_ok nMr rfl (by decide) rfl q3005 rfl rfl fV rfl rfl d_Mo_endStart_32 (fun s_12 H locs h hP hD hS => ?_)
  refine lv_aload_n G.1 G.2.1 d_Mo_endStart_35 rfl (lv_at hl 1 rfl) ?_
  refine lv_iconst (v := 5) G.1 G.2.1 d_Mo_endStart_36 (by decide) ?_
  refine W.eq (g2 := F0 m 37 ls [.int 5, .ref (ad a0)]) rfl ?_
  refine lv_iload_n G.1 G.2.1 d_Mo_endStart_37 rfl (lv_at hl 0 rfl) ?_
  refine ucVv (As := [.int 5, .int x_4]) (rest := []) G hP hD hS (cu_Mo_note l D g ad y _ s_12 a0 5 x_4 H.size h_a0 h) w9_Mo_note q3879 ⟨Nat.le_of_ble_eq_true rfl, Nat.le_of_ble_eq_true rfl⟩ rfl rfl h_a0 (q := (RMo, TMo, 131)) rfl rfl hl.1 rfl (Nat.le_of_ble_eq_true rfl) rfl ⟨Nat.le_refl _, Nat.le_refl _⟩ d_Mo_endStart_38 (fun s_14 H locs h hP hD hS => ?_)
  exact hret _ _ _ _ _ _ ls h hP hD hS (Nat.le_refl _) (Nat.le_refl _) d_Mo_endStart_41
def y_Mo_tally : MethodName := ⟨"ClassWorksModel", "tally", "(I)V"⟩
abbrev b_Mo_tally : ByteArray := prog_14_method_106_code
theorem d_Mo_tally_0 : decode b_Mo_tally 0 = .ok (.aload_n 0, 1) := by decide +kernel
theorem d_Mo_tally_1 : decode b_Mo_tally 1 = .ok (.getfield 917, 3) := by decide +kernel
theorem d_Mo_tally_4 : decode b_Mo_tally 4 = .ok (.dup, 1) := by decide +kernel
theorem d_Mo_tally_5 : decode b_Mo_tally 5 = .ok (.getfield 921, 3) := by decide +kernel
theorem d_Mo_tally_8 : decode b_Mo_tally 8 = .ok (.iconst 1, 1) := by decide +kernel
theorem d_Mo_tally_9 : decode b_Mo_tally 9 = .ok (.iadd, 1) := by decide +kernel
theorem d_Mo_tally_10 : decode b_Mo_tally 10 = .ok (.putfield 921, 3) := by decide +kernel
theorem d_Mo_tally_13 : decode b_Mo_tally 13 = .ok (.aload_n 0, 1) := by decide +kernel
theorem d_Mo_tally_14 : decode b_Mo_tally 14 = .ok (.getfield 522, 3) := by decide +kernel
theorem d_Mo_tally_17 : decode b_Mo_tally 17 = .ok (.getfield 504, 3) := by decide +kernel
theorem d_Mo_tally_20 : decode b_Mo_tally 20 = .ok (.iload_n 1, 1) := by decide +kernel
theorem d_Mo_tally_21 : decode b_Mo_tally 21 = .ok (.dup2, 1) := by decide +kernel
theorem d_Mo_tally_22 : decode b_Mo_tally 22 = .ok (.iaload, 1) := by decide +kernel
theorem d_Mo_tally_23 : decode b_Mo_tally 23 = .ok (.iconst 1, 1) := by decide +kernel
theorem d_Mo_tally_24 : decode b_Mo_tally 24 = .ok (.iadd, 1) := by decide +kernel
theorem d_Mo_tally_25 : decode b_Mo_tally 25 = .ok (.iastore, 1) := by decide +kernel
theorem d_Mo_tally_26 : decode b_Mo_tally 26 = .ok (.return_, 1) := by decide +kernel
abbrev ru_Mo_tally : Room := { frames := 0, cells := 0, slots := 0, locals := 0 }
def wu_Mo_tally (y : Ly) (Post : St → Prop) (σ : St) (a0 : Nat) (v1 : Int32) : Prop := ∃ b_1 : Nat, sO σ a0 46 = some b_1 ∧ cl b_1 = 12 ∧ xP (uV σ b_1 3 ((sV σ b_1 3) + 1)) (fun s_4 : St => ∃ b_5 : Nat, sO s_4 a0 45 = some b_5 ∧ cl b_5 = 13 ∧ xA y s_4 b_5 71 v1 (fun x_8 : Int32 => xS y s_4 b_5 71 v1 (x_8 + 1) (fun s_9 : St => Post s_9)))
set_option maxHeartbeats 4000000 in
set_option maxRecDepth 100000 in
theorem cu_Mo_tally (l : Launch) (D : va_G) (g : Nat → ClassId) (ad : Nat → Nat) (y : Ly) (Post : St → Prop) (σ : St) (a0 : Nat) (v1 : Int32) (sz : Nat) (h_a0 : cl a0 = 14) (h : wu_Mo_tally y Post σ a0 v1) : Met l y_Mo_tally (mw y_Mo_tally b_Mo_tally 2 (none)) ru_Mo_tally (PC g D [] [.ref (ad a0), .int v1] sz (ws g ad y σ)) (va_Qv (fun u : St => Post u) (QW D (va_A (ws g ad y σ) sz) (fun u => ws g ad y u)) (va_A (ws g ad y σ) sz)) 0 0 (va_A (ws g ad y σ) sz) := by
  refine ofV (by decide +kernel) (Nat.le_of_ble_eq_true rfl) ?_
  intro p e s m args below meth c A Q ls H locs G hsz hP hD hS hl hret
  subst hsz
  have hl : lv_has ls 2 [(0, .ref (ad a0)), (1, .int v1)] := hl
  unfold wu_Mo_tally at h
  refine lv_aload_n G.1 G.2.1 d_Mo_tally_0 rfl (lv_at hl 0 rfl) ?_
  obtain ⟨b_1, e_2, c_3, h⟩ := h
  refine ugf (v := .ref (ad b_1)) G hP h_a0 iMo rfl 46 (by decide) rfl q3110 rfl (by show va_rf ((sO σ a0 46).map ad) = _; rw [e_2]; rfl) d_Mo_tally_1 ?_
  refine lv_dup G.1 G.2.1 d_Mo_tally_4 rfl ?_
  refine ugfN (v := .int (sV σ b_1 3)) G hP c_3 iMr rfl 3 (by decide) rfl q2990 rfl rfl d_Mo_tally_5 ?_
  refine lv_iconst (v := 1) G.1 G.2.1 d_Mo_tally_8 (by decide) ?_
  refine lv_iadd G.1 G.2.1 d_Mo_tally_9 ?_
  refine upfN G hP hD hS h 3 putV c_3 iMr tMr tMr_ok nMr rfl (by decide) rfl q2990 rfl rfl fV rfl rfl d_Mo_tally_10 (fun s_4 H locs h hP hD hS => ?_)
  refine lv_aload_n G.1 G.2.1 d_Mo_tally_13 rfl (lv_at hl 0 rfl) ?_
  obtain ⟨b_5, e_6, c_7, h⟩ := h
  refine ugf (v := .ref (ad b_5)) G hP h_a0 iMo rfl 45 (by decide) rfl q3109 rfl (by show va_rf ((sO s_4 a0 45).map ad) = _; rw [e_6]; rfl) d_Mo_tally_14 ?_
  refine ugfN (v := .ref (yP y b_5 71)) G hP c_7 iMw rfl 71 (by decide) rfl q2834 rfl rfl d_Mo_tally_17 ?_
  refine lv_iload_n G.1 G.2.1 d_Mo_tally_20 rfl (lv_at hl 1 rfl) ?_
  refine W.eq (g2 := F0 m 21 ls [.int v1, .ref (yP y b_5 71)]) rfl ?_
  refine lv_dup2_11 G.1 G.2.1 d_Mo_tally_21 rfl rfl ?_
  refine uiald G hP (kdp c_7 rfl) (typ c_7 rfl) h d_Mo_tally_22 (fun x_8 h => ?_)
  refine lv_iconst (v := 1) G.1 G.2.1 d_Mo_tally_23 (by decide) ?_
  refine lv_iadd G.1 G.2.1 d_Mo_tally_24 ?_
  refine uiast G hP hD hS (kdp c_7 rfl) (typ c_7 rfl) h d_Mo_tally_25 (fun s_9 H locs h hP hD hS => ?_)
  exact hret _ _ _ _ _ _ ls h hP hD hS (Nat.le_refl _) (Nat.le_refl _) d_Mo_tally_26
def y_Mo_pop : MethodName := ⟨"ClassWorksModel", "pop", "(I)I"⟩
abbrev b_Mo_pop : ByteArray := prog_14_method_96_code
theorem d_Mo_pop_0 : decode b_Mo_pop 0 = .ok (.aload_n 0, 1) := by decide +kernel
theorem d_Mo_pop_1 : decode b_Mo_pop 1 = .ok (.getfield 917, 3) := by decide +kernel
theorem d_Mo_pop_4 : decode b_Mo_pop 4 = .ok (.getfield 933, 3) := by decide +kernel
theorem d_Mo_pop_7 : decode b_Mo_pop 7 = .ok (.iload_n 1, 1) := by decide +kernel
theorem d_Mo_pop_8 : decode b_Mo_pop 8 = .ok (.dup2, 1) := by decide +kernel
theorem d_Mo_pop_9 : decode b_Mo_pop 9 = .ok (.iaload, 1) := by decide +kernel
theorem d_Mo_pop_10 : decode b_Mo_pop 10 = .ok (.iconst 1, 1) := by decide +kernel
theorem d_Mo_pop_11 : decode b_Mo_pop 11 = .ok (.isub, 1) := by decide +kernel
theorem d_Mo_pop_12 : decode b_Mo_pop 12 = .ok (.iastore, 1) := by decide +kernel
theorem d_Mo_pop_13 : decode b_Mo_pop 13 = .ok (.aload_n 0, 1) := by decide +kernel
theorem d_Mo_pop_14 : decode b_Mo_pop 14 = .ok (.getfield 917, 3) := by decide +kernel
theorem d_Mo_pop_17 : decode b_Mo_pop 17 = .ok (.getfield 936, 3) := by decide +kernel
theorem d_Mo_pop_20 : decode b_Mo_pop 20 = .ok (.bipush 44, 2) := by decide +kernel
theorem d_Mo_pop_22 : decode b_Mo_pop 22 = .ok (.iload_n 1, 1) := by decide +kernel
theorem d_Mo_pop_23 : decode b_Mo_pop 23 = .ok (.imul, 1) := by decide +kernel
theorem d_Mo_pop_24 : decode b_Mo_pop 24 = .ok (.bipush 20, 2) := by decide +kernel
theorem d_Mo_pop_26 : decode b_Mo_pop 26 = .ok (.iadd, 1) := by decide +kernel
theorem d_Mo_pop_27 : decode b_Mo_pop 27 = .ok (.aload_n 0, 1) := by decide +kernel
theorem d_Mo_pop_28 : decode b_Mo_pop 28 = .ok (.getfield 917, 3) := by decide +kernel
theorem d_Mo_pop_31 : decode b_Mo_pop 31 = .ok (.getfield 933, 3) := by decide +kernel
theorem d_Mo_pop_34 : decode b_Mo_pop 34 = .ok (.iload_n 1, 1) := by decide +kernel
theorem d_Mo_pop_35 : decode b_Mo_pop 35 = .ok (.iaload, 1) := by decide +kernel
theorem d_Mo_pop_36 : decode b_Mo_pop 36 = .ok (.iadd, 1) := by decide +kernel
theorem d_Mo_pop_37 : decode b_Mo_pop 37 = .ok (.iaload, 1) := by decide +kernel
theorem d_Mo_pop_38 : decode b_Mo_pop 38 = .ok (.ireturn, 1) := by decide +kernel
abbrev ru_Mo_pop : Room := { frames := 0, cells := 0, slots := 0, locals := 0 }
def wu_Mo_pop (y : Ly) (Post : St → Int32 → Prop) (σ : St) (a0 : Nat) (v1 : Int32) : Prop := ∃ b_1 : Nat, sO σ a0 46 = some b_1 ∧ cl b_1 = 12 ∧ xA y σ b_1 19 v1 (fun x_4 : Int32 => xS y σ b_1 19 v1 (x_4 - 1) (fun s_5 : St => ∃ b_6 : Nat, sO s_5 a0 46 = some b_6 ∧ cl b_6 = 12 ∧ ∃ b_9 : Nat, sO s_5 a0 46 = some b_9 ∧ cl b_9 = 12 ∧ xA y s_5 b_9 19 v1 (fun x_12 : Int32 => xA y s_5 b_6 20 (((44 * v1) + 20) + x_12) (fun x_13 : Int32 => Post s_5 x_13))))
set_option maxHeartbeats 4000000 in
set_option maxRecDepth 100000 in
theorem cu_Mo_pop (l : Launch) (D : va_G) (g : Nat → ClassId) (ad : Nat → Nat) (y : Ly) (Post : St → Int32 → Prop) (σ : St) (a0 : Nat) (v1 : Int32) (sz : Nat) (h_a0 : cl a0 = 14) (h : wu_Mo_pop y Post σ a0 v1) : Met l y_Mo_pop (mw y_Mo_pop b_Mo_pop 2 (some .int)) ru_Mo_pop (PC g D [] [.ref (ad a0), .int v1] sz (ws g ad y σ)) (va_Qi (fun (r : Int32) (u : St) => Post u r) (QW D (va_A (ws g ad y σ) sz) (fun u => ws g ad y u)) (va_A (ws g ad y σ) sz)) 0 0 (va_A (ws g ad y σ) sz) := by
  refine ofI (by decide +kernel) (Nat.le_of_ble_eq_true rfl) ?_
  intro p e s m args below meth c A Q ls H locs G hsz hP hD hS hl hret
  subst hsz
  have hl : lv_has ls 2 [(0, .ref (ad a0)), (1, .int v1)] := hl
  unfold wu_Mo_pop at h
  refine lv_aload_n G.1 G.2.1 d_Mo_pop_0 rfl (lv_at hl 0 rfl) ?_
  obtain ⟨b_1, e_2, c_3, h⟩ := h
  refine ugf (v := .ref (ad b_1)) G hP h_a0 iMo rfl 46 (by decide) rfl q3110 rfl (by show va_rf ((sO σ a0 46).map ad) = _; rw [e_2]; rfl) d_Mo_pop_1 ?_
  refine ugfN (v := .ref (yP y b_1 19)) G hP c_3 iMr rfl 19 (by decide) rfl q3011 rfl rfl d_Mo_pop_4 ?_
  refine lv_iload_n G.1 G.2.1 d_Mo_pop_7 rfl (lv_at hl 1 rfl) ?_
  refine lv_dup2_11 G.1 G.2.1 d_Mo_pop_8 rfl rfl ?_
  refine uiald G hP (kdp c_3 rfl) (typ c_3 rfl) h d_Mo_pop_9 (fun x_4 h => ?_)
  refine lv_iconst (v := 1) G.1 G.2.1 d_Mo_pop_10 (by decide) ?_
  refine lv_isub G.1 G.2.1 d_Mo_pop_11 ?_
  refine uiast G hP hD hS (kdp c_3 rfl) (typ c_3 rfl) h d_Mo_pop_12 (fun s_5 H locs h hP hD hS => ?_)
  refine lv_aload_n G.1 G.2.1 d_Mo_pop_13 rfl (lv_at hl 0 rfl) ?_
  obtain ⟨b_6, e_7, c_8, h⟩ := h
  refine ugf (v := .ref (ad b_6)) G hP h_a0 iMo rfl 46 (by decide) rfl q3110 rfl (by show va_rf ((sO s_5 a0 46).map ad) = _; rw [e_7]; rfl) d_Mo_pop_14 ?_
  refine W.eq (g2 := F0 m 17 ls [.ref (ad b_6)]) rfl ?_
  refine ugfN (v := .ref (yP y b_6 20)) G hP c_8 iMr rfl 20 (by decide) rfl q3013 rfl rfl d_Mo_pop_17 ?_
  refine lv_bipush (v := 44) G.1 G.2.1 d_Mo_pop_20 (by decide) ?_
  refine lv_iload_n G.1 G.2.1 d_Mo_pop_22 rfl (lv_at hl 1 rfl) ?_
  refine lv_imul G.1 G.2.1 d_Mo_pop_23 ?_
  refine lv_bipush (v := 20) G.1 G.2.1 d_Mo_pop_24 (by decide) ?_
  refine lv_iadd G.1 G.2.1 d_Mo_pop_26 ?_
  refine lv_aload_n G.1 G.2.1 d_Mo_pop_27 rfl (lv_at hl 0 rfl) ?_
  obtain ⟨b_9, e_10, c_11, h⟩ := h
  refine ugf (v := .ref (ad b_9)) G hP h_a0 iMo rfl 46 (by decide) rfl q3110 rfl (by show va_rf ((sO s_5 a0 46).map ad) = _; rw [e_10]; rfl) d_Mo_pop_28 ?_
  refine ugfN (v := .ref (yP y b_9 19)) G hP c_11 iMr rfl 19 (by decide) rfl q3011 rfl rfl d_Mo_pop_31 ?_
  refine lv_iload_n G.1 G.2.1 d_Mo_pop_34 rfl (lv_at hl 1 rfl) ?_
  refine uiald G hP (kdp c_11 rfl) (typ c_11 rfl) h d_Mo_pop_35 (fun x_12 h => ?_)
  refine lv_iadd G.1 G.2.1 d_Mo_pop_36 ?_
  refine W.eq (g2 := F0 m 37 ls [.int (((44 * v1) + 20) + x_12), .ref (yP y b_6 20)]) rfl ?_
  refine uiald G hP (kdp c_8 rfl) (typ c_8 rfl) h d_Mo_pop_37 (fun x_13 h => ?_)
  exact hret _ _ _ _ _ _ _ ls h hP hD hS (Nat.le_refl _) (Nat.le_refl _) d_Mo_pop_38
def y_Mo_ownFields : MethodName := ⟨"ClassWorksModel", "ownFields", "(II)I"⟩
abbrev b_Mo_ownFields : ByteArray := prog_14_method_91_code
theorem d_Mo_ownFields_0 : decode b_Mo_ownFields 0 = .ok (.iconst 0, 1) := by decide +kernel
theorem d_Mo_ownFields_1 : decode b_Mo_ownFields 1 = .ok (.istore_n 3, 1) := by decide +kernel
theorem d_Mo_ownFields_2 : decode b_Mo_ownFields 2 = .ok (.iconst 0, 1) := by decide +kernel
theorem d_Mo_ownFields_3 : decode b_Mo_ownFields 3 = .ok (.istore 4, 2) := by decide +kernel
theorem d_Mo_ownFields_5 : decode b_Mo_ownFields 5 = .ok (.iload 4, 2) := by decide +kernel
theorem d_Mo_ownFields_7 : decode b_Mo_ownFields 7 = .ok (.iload_n 2, 1) := by decide +kernel
theorem d_Mo_ownFields_8 : decode b_Mo_ownFields 8 = .ok (.if_icmp .ge 37, 3) := by decide +kernel
theorem d_Mo_ownFields_11 : decode b_Mo_ownFields 11 = .ok (.iload_n 3, 1) := by decide +kernel
theorem d_Mo_ownFields_12 : decode b_Mo_ownFields 12 = .ok (.aload_n 0, 1) := by decide +kernel
theorem d_Mo_ownFields_13 : decode b_Mo_ownFields 13 = .ok (.getfield 522, 3) := by decide +kernel
theorem d_Mo_ownFields_16 : decode b_Mo_ownFields 16 = .ok (.getfield 627, 3) := by decide +kernel
theorem d_Mo_ownFields_19 : decode b_Mo_ownFields 19 = .ok (.bipush 8, 2) := by decide +kernel
theorem d_Mo_ownFields_21 : decode b_Mo_ownFields 21 = .ok (.iload_n 1, 1) := by decide +kernel
theorem d_Mo_ownFields_22 : decode b_Mo_ownFields 22 = .ok (.imul, 1) := by decide +kernel
theorem d_Mo_ownFields_23 : decode b_Mo_ownFields 23 = .ok (.iload 4, 2) := by decide +kernel
theorem d_Mo_ownFields_25 : decode b_Mo_ownFields 25 = .ok (.iadd, 1) := by decide +kernel
theorem d_Mo_ownFields_26 : decode b_Mo_ownFields 26 = .ok (.iaload, 1) := by decide +kernel
theorem d_Mo_ownFields_27 : decode b_Mo_ownFields 27 = .ok (.iconst 1, 1) := by decide +kernel
theorem d_Mo_ownFields_28 : decode b_Mo_ownFields 28 = .ok (.iand, 1) := by decide +kernel
theorem d_Mo_ownFields_29 : decode b_Mo_ownFields 29 = .ok (.ifCond .ne 7, 3) := by decide +kernel
theorem d_Mo_ownFields_32 : decode b_Mo_ownFields 32 = .ok (.iconst 1, 1) := by decide +kernel
theorem d_Mo_ownFields_33 : decode b_Mo_ownFields 33 = .ok (.goto 4, 3) := by decide +kernel
theorem d_Mo_ownFields_36 : decode b_Mo_ownFields 36 = .ok (.iconst 0, 1) := by decide +kernel
theorem d_Mo_ownFields_37 : decode b_Mo_ownFields 37 = .ok (.iadd, 1) := by decide +kernel
theorem d_Mo_ownFields_38 : decode b_Mo_ownFields 38 = .ok (.istore_n 3, 1) := by decide +kernel
theorem d_Mo_ownFields_39 : decode b_Mo_ownFields 39 = .ok (.iinc 4 1, 3) := by decide +kernel
theorem d_Mo_ownFields_42 : decode b_Mo_ownFields 42 = .ok (.goto (-37), 3) := by decide +kernel
theorem d_Mo_ownFields_45 : decode b_Mo_ownFields 45 = .ok (.iload_n 3, 1) := by decide +kernel
theorem d_Mo_ownFields_46 : decode b_Mo_ownFields 46 = .ok (.ireturn, 1) := by decide +kernel
abbrev ru_Mo_ownFields : Room := { frames := 0, cells := 0, slots := 0, locals := 0 }
def wj_Mo_ownFields_37 (y : Ly) (Post : St → Int32 → Prop) (K_5 : St → Int32 → Int32 → Int32 → Int32 → Prop) (a0 : Nat) (s_j37 : St) (x1j37 : Int32) (x2j37 : Int32) (x4j37 : Int32) (z0j37 : Int32) (z1j37 : Int32) : Prop := K_5 s_j37 x1j37 x2j37 (z0j37 + z1j37) (x4j37 + 1)
def wb_Mo_ownFields_5 (y : Ly) (Post : St → Int32 → Prop) (K_5 : St → Int32 → Int32 → Int32 → Int32 → Prop) (a0 : Nat) (s_h5 : St) (x1h5 : Int32) (x2h5 : Int32) (x3h5 : Int32) (x4h5 : Int32) : Prop := ((x2h5 ≤ x4h5 → Post s_h5 x3h5) ∧ (¬ (x2h5 ≤ x4h5) → ∃ b_1 : Nat, sO s_h5 a0 45 = some b_1 ∧ cl b_1 = 13 ∧ xA y s_h5 b_1 14 ((8 * x1h5) + x4h5) (fun x_4 : Int32 => ((¬ (x_4 &&& 1) = 0 → wj_Mo_ownFields_37 y Post K_5 a0 s_h5 x1h5 x2h5 x4h5 x3h5 0) ∧ ((x_4 &&& 1) = 0 → wj_Mo_ownFields_37 y Post K_5 a0 s_h5 x1h5 x2h5 x4h5 x3h5 1)))))
def wl_Mo_ownFields_5 (y : Ly) (Post : St → Int32 → Prop) (a0 : Nat) (s_h5 : St) (x1h5 : Int32) (x2h5 : Int32) (x3h5 : Int32) (x4h5 : Int32) : Prop := ∃ (I : St → Int32 → Int32 → Int32 → Int32 → Prop) (μ : St → Int32 → Int32 → Int32 → Int32 → Nat), I s_h5 x1h5 x2h5 x3h5 x4h5 ∧ ∀ (u : St) (t0 : Int32) (t1 : Int32) (t2 : Int32) (t3 : Int32), I u t0 t1 t2 t3 → wb_Mo_ownFields_5 y Post (fun z t0q t1q t2q t3q => I z t0q t1q t2q t3q ∧ μ z t0q t1q t2q t3q < μ u t0 t1 t2 t3) a0 u t0 t1 t2 t3
def wu_Mo_ownFields (y : Ly) (Post : St → Int32 → Prop) (σ : St) (a0 : Nat) (v1 : Int32) (v2 : Int32) : Prop := wl_Mo_ownFields_5 y Post a0 σ v1 v2 0 0
set_option maxHeartbeats 4000000 in
set_option maxRecDepth 100000 in
theorem cu_Mo_ownFields (l : Launch) (D : va_G) (g : Nat → ClassId) (ad : Nat → Nat) (y : Ly) (Post : St → Int32 → Prop) (σ : St) (a0 : Nat) (v1 : Int32) (v2 : Int32) (sz : Nat) (h_a0 : cl a0 = 14) (h : wu_Mo_ownFields y Post σ a0 v1 v2) : Met l y_Mo_ownFields (mw y_Mo_ownFields b_Mo_ownFields 5 (some .int)) ru_Mo_ownFields (PC g D [] [.ref (ad a0), .int v1, .int v2] sz (ws g ad y σ)) (va_Qi (fun (r : Int32) (u : St) => Post u r) (QW D (va_A (ws g ad y σ) sz) (fun u => ws g ad y u)) (va_A (ws g ad y σ) sz)) 0 0 (va_A (ws g ad y σ) sz) := by
  refine ofI (by decide +kernel) (Nat.le_of_ble_eq_true rfl) ?_
  intro p e s m args below meth c A Q ls H locs G hsz hP hD hS hl hret
  subst hsz
  have hl : lv_has ls 5 [(0, .ref (ad a0)), (1, .int v1), (2, .int v2)] := hl
  unfold wu_Mo_ownFields at h
  refine lv_iconst (v := 0) G.1 G.2.1 d_Mo_ownFields_0 (by decide) ?_
  refine lv_istore_n (lv' := [(3, .int 0), (0, .ref (ad a0)), (1, .int v1), (2, .int v2)]) G.1 G.2.1 d_Mo_ownFields_1 rfl hl (by decide) rfl (fun ls hl => ?_)
  refine lv_iconst (v := 0) G.1 G.2.1 d_Mo_ownFields_2 (by decide) ?_
  refine lv_istore (lv' := [(4, .int 0), (3, .int 0), (0, .ref (ad a0)), (1, .int v1), (2, .int v2)]) G.1 G.2.1 d_Mo_ownFields_3 hl (by decide) rfl (fun ls hl => ?_)
  unfold wl_Mo_ownFields_5 at h
  obtain ⟨I_5, μ_5, hI_5, hB_5⟩ := h
  have L_5 : ∀ (n_5 : Nat) (s_h5 : St) (x1h5 : Int32) (x2h5 : Int32) (x3h5 : Int32) (x4h5 : Int32), μ_5 s_h5 x1h5 x2h5 x3h5 x4h5 < n_5 → I_5 s_h5 x1h5 x2h5 x3h5 x4h5 → ∀ (H : Heap) (locs : List Loc), va_P D CL (ws g ad y s_h5) H → va_D A (ws g ad y s_h5) → va_S A s.heap H locs → ∀ ls, lv_has ls 5 [(0, .ref (ad a0)), (1, .int x1h5), (2, .int x2h5), (3, .int x3h5), (4, .int x4h5)] → W p l e ru_Mo_ownFields s m args below meth c H locs 0 0 Q (F0 m 5 ls []) := by
    intro n_5
    induction n_5 with
    | zero => intro s_h5 x1h5 x2h5 x3h5 x4h5 hμ; exact absurd hμ (Nat.not_lt_zero _)
    | succ n_5 ih_5 =>
      intro s_h5 x1h5 x2h5 x3h5 x4h5 hμ_5 hJ H locs hP hD hS ls hl
      obtain ⟨K_5, hK_5, h⟩ : ∃ K : St → Int32 → Int32 → Int32 → Int32 → Prop, (∀ z (t0 : Int32) (t1 : Int32) (t2 : Int32) (t3 : Int32), K z t0 t1 t2 t3 → I_5 z t0 t1 t2 t3 ∧ μ_5 z t0 t1 t2 t3 < μ_5 s_h5 x1h5 x2h5 x3h5 x4h5) ∧ wb_Mo_ownFields_5 y Post K a0 s_h5 x1h5 x2h5 x3h5 x4h5 := ⟨_, fun _ _ _ _ _ h => h, hB_5 s_h5 x1h5 x2h5 x3h5 x4h5 hJ⟩
      unfold wb_Mo_ownFields_5 at h
      refine lv_iload G.1 G.2.1 d_Mo_ownFields_5 (lv_at hl 4 rfl) ?_
      refine lv_iload_n G.1 G.2.1 d_Mo_ownFields_7 rfl (lv_at hl 2 rfl) ?_
      refine lv_icmp_ge (tgt := 45) G.1 G.2.1 d_Mo_ownFields_8 (by decide) (fun c8 => ?_) (fun c8 => ?_)
      · skip
        have h := h.1 c8
        refine lv_iload_n G.1 G.2.1 d_Mo_ownFields_45 rfl (lv_at hl 3 rfl) ?_
        exact hret _ _ _ _ _ _ _ ls h hP hD hS (Nat.le_refl _) (Nat.le_refl _) d_Mo_ownFields_46
      · skip
        have h := h.2 c8
        refine lv_iload_n G.1 G.2.1 d_Mo_ownFields_11 rfl (lv_at hl 3 rfl) ?_
        refine lv_aload_n G.1 G.2.1 d_Mo_ownFields_12 rfl (lv_at hl 0 rfl) ?_
        obtain ⟨b_1, e_2, c_3, h⟩ := h
        refine ugf (v := .ref (ad b_1)) G hP h_a0 iMo rfl 45 (by decide) rfl q3109 rfl (by show va_rf ((sO s_h5 a0 45).map ad) = _; rw [e_2]; rfl) d_Mo_ownFields_13 ?_
        refine ugfN (v := .ref (yP y b_1 14)) G hP c_3 iMw rfl 14 (by decide) rfl q2732 rfl rfl d_Mo_ownFields_16 ?_
        refine lv_bipush (v := 8) G.1 G.2.1 d_Mo_ownFields_19 (by decide) ?_
        refine lv_iload_n G.1 G.2.1 d_Mo_ownFields_21 rfl (lv_at hl 1 rfl) ?_
        refine lv_imul G.1 G.2.1 d_Mo_ownFields_22 ?_
        refine lv_iload G.1 G.2.1 d_Mo_ownFields_23 (lv_at hl 4 rfl) ?_
        refine W.eq (g2 := F0 m 25 ls [.int x4h5, .int (8 * x1h5), .ref (yP y b_1 14), .int x3h5]) rfl ?_
        refine lv_iadd G.1 G.2.1 d_Mo_ownFields_25 ?_
        refine uiald G hP (kdp c_3 rfl) (typ c_3 rfl) h d_Mo_ownFields_26 (fun x_4 h => ?_)
        refine lv_iconst (v := 1) G.1 G.2.1 d_Mo_ownFields_27 (by decide) ?_
        refine lv_iand G.1 G.2.1 d_Mo_ownFields_28 ?_
        have J_37 : ∀ (s_j37 : St) (x1j37 : Int32) (x2j37 : Int32) (x4j37 : Int32) (z0j37 : Int32) (z1j37 : Int32) (H : Heap) (locs : List Loc), wj_Mo_ownFields_37 y Post K_5 a0 s_j37 x1j37 x2j37 x4j37 z0j37 z1j37 → va_P D CL (ws g ad y s_j37) H → va_D A (ws g ad y s_j37) → va_S A s.heap H locs → ∀ ls, lv_has ls 5 [(0, .ref (ad a0)), (1, .int x1j37), (2, .int x2j37), (4, .int x4j37)] → W p l e ru_Mo_ownFields s m args below meth c H locs 0 0 Q (F0 m 37 ls [.int z1j37, .int z0j37]) := by
          intro s_j37 x1j37 x2j37 x4j37 z0j37 z1j37 H locs h hP hD hS ls hl
          unfold wj_Mo_ownFields_37 at h
          refine lv_iadd G.1 G.2.1 d_Mo_ownFields_37 ?_
          refine lv_istore_n (lv' := [(3, .int (z0j37 + z1j37)), (0, .ref (ad a0)), (1, .int x1j37), (2, .int x2j37), (4, .int x4j37)]) G.1 G.2.1 d_Mo_ownFields_38 rfl hl (by decide) rfl (fun ls hl => ?_)
          refine lv_iinc (v := x4j37 + 1) (lv' := [(4, .int (x4j37 + 1)), (3, .int (z0j37 + z1j37)), (0, .ref (ad a0)), (1, .int x1j37), (2, .int x2j37)]) G.1 G.2.1 d_Mo_ownFields_39 hl (k := 4) rfl rfl (by decide) rfl (fun ls hl => ?_)
          refine lv_goto (tgt := 5) G.1 G.2.1 d_Mo_ownFields_42 (by decide) ?_
          have h := hK_5 s_j37 x1j37 x2j37 (z0j37 + z1j37) (x4j37 + 1) h
          exact ih_5 s_j37 x1j37 x2j37 (z0j37 + z1j37) (x4j37 + 1) (Nat.lt_of_lt_of_le h.2 (Nat.le_of_lt_succ hμ_5)) h.1 H locs hP hD hS ls (lv_sub hl [2, 3, 4, 1, 0] rfl)
        refine lv_if_ne (tgt := 36) G.1 G.2.1 d_Mo_ownFields_29 (by decide) (fun c29 => ?_) (fun c29 => ?_)
        · skip
          have h := h.1 c29
          refine lv_iconst (v := 0) G.1 G.2.1 d_Mo_ownFields_36 (by decide) ?_
          exact J_37 s_h5 x1h5 x2h5 x4h5 x3h5 0 H locs h hP hD hS ls (lv_sub hl [0, 1, 2, 4] rfl)
        · skip
          have h := h.2 c29
          refine lv_iconst (v := 1) G.1 G.2.1 d_Mo_ownFields_32 (by decide) ?_
          refine lv_goto (tgt := 37) G.1 G.2.1 d_Mo_ownFields_33 (by decide) ?_
          exact J_37 s_h5 x1h5 x2h5 x4h5 x3h5 1 H locs h hP hD hS ls (lv_sub hl [0, 1, 2, 4] rfl)
  exact L_5 _ σ v1 v2 0 0 (Nat.lt_succ_self _) hI_5 H locs hP hD hS ls (lv_sub hl [2, 3, 4, 1, 0] rfl)
theorem q3959 : Cond.methodLink "ClassWorksModel" 896 y_Mo_ownFields ∈ lw_ok := lw_okmem (List.mem_of_getElem? (i := 3959) (by decide +kernel)) rfl
theorem q3962 : Cond.code y_Mo_ownFields b_Mo_ownFields 5 (some .int) ∈ lw_ok := lw_okmem (List.mem_of_getElem? (i := 3962) (by decide +kernel)) rfl
theorem q3961 : Cond.instanceMethod y_Mo_ownFields ∈ lw_ok := lw_okmem (List.mem_of_getElem? (i := 3961) (by decide +kernel)) rfl
theorem q279 : Cond.selects y_Mo_ownFields.cls y_Mo_ownFields y_Mo_ownFields ∈ lw_ok := lw_okmem (List.mem_of_getElem? (i := 279) (by decide +kernel)) rfl
theorem w9_Mo_ownFields : CWv y_Mo_ownFields b_Mo_ownFields 5 (some .int) 2 ∧ Cond.instanceMethod y_Mo_ownFields ∈ lw_ok ∧ Cond.selects y_Mo_ownFields.cls y_Mo_ownFields y_Mo_ownFields ∈ lw_ok := ⟨⟨q3962, q348, by decide +kernel, by decide +kernel, by decide +kernel⟩, q3961, q279⟩
def y_Mo_fieldsOf : MethodName := ⟨"ClassWorksModel", "fieldsOf", "(I)I"⟩
abbrev b_Mo_fieldsOf : ByteArray := prog_14_method_90_code
theorem d_Mo_fieldsOf_0 : decode b_Mo_fieldsOf 0 = .ok (.iconst 0, 1) := by decide +kernel
theorem d_Mo_fieldsOf_1 : decode b_Mo_fieldsOf 1 = .ok (.istore_n 2, 1) := by decide +kernel
theorem d_Mo_fieldsOf_2 : decode b_Mo_fieldsOf 2 = .ok (.iload_n 1, 1) := by decide +kernel
theorem d_Mo_fieldsOf_3 : decode b_Mo_fieldsOf 3 = .ok (.istore_n 3, 1) := by decide +kernel
theorem d_Mo_fieldsOf_4 : decode b_Mo_fieldsOf 4 = .ok (.iload_n 3, 1) := by decide +kernel
theorem d_Mo_fieldsOf_5 : decode b_Mo_fieldsOf 5 = .ok (.ifCond .lt 29, 3) := by decide +kernel
theorem d_Mo_fieldsOf_8 : decode b_Mo_fieldsOf 8 = .ok (.iload_n 2, 1) := by decide +kernel
theorem d_Mo_fieldsOf_9 : decode b_Mo_fieldsOf 9 = .ok (.aload_n 0, 1) := by decide +kernel
theorem d_Mo_fieldsOf_10 : decode b_Mo_fieldsOf 10 = .ok (.iload_n 3, 1) := by decide +kernel
theorem d_Mo_fieldsOf_11 : decode b_Mo_fieldsOf 11 = .ok (.aload_n 0, 1) := by decide +kernel
theorem d_Mo_fieldsOf_12 : decode b_Mo_fieldsOf 12 = .ok (.getfield 522, 3) := by decide +kernel
theorem d_Mo_fieldsOf_15 : decode b_Mo_fieldsOf 15 = .ok (.getfield 435, 3) := by decide +kernel
theorem d_Mo_fieldsOf_18 : decode b_Mo_fieldsOf 18 = .ok (.iload_n 3, 1) := by decide +kernel
theorem d_Mo_fieldsOf_19 : decode b_Mo_fieldsOf 19 = .ok (.iaload, 1) := by decide +kernel
theorem d_Mo_fieldsOf_20 : decode b_Mo_fieldsOf 20 = .ok (.invokevirtual 896, 3) := by decide +kernel
theorem d_Mo_fieldsOf_23 : decode b_Mo_fieldsOf 23 = .ok (.iadd, 1) := by decide +kernel
theorem d_Mo_fieldsOf_24 : decode b_Mo_fieldsOf 24 = .ok (.istore_n 2, 1) := by decide +kernel
theorem d_Mo_fieldsOf_25 : decode b_Mo_fieldsOf 25 = .ok (.aload_n 0, 1) := by decide +kernel
theorem d_Mo_fieldsOf_26 : decode b_Mo_fieldsOf 26 = .ok (.iload_n 3, 1) := by decide +kernel
theorem d_Mo_fieldsOf_27 : decode b_Mo_fieldsOf 27 = .ok (.invokevirtual 725, 3) := by decide +kernel
theorem d_Mo_fieldsOf_30 : decode b_Mo_fieldsOf 30 = .ok (.istore_n 3, 1) := by decide +kernel
theorem d_Mo_fieldsOf_31 : decode b_Mo_fieldsOf 31 = .ok (.goto (-27), 3) := by decide +kernel
theorem d_Mo_fieldsOf_34 : decode b_Mo_fieldsOf 34 = .ok (.iload_n 2, 1) := by decide +kernel
theorem d_Mo_fieldsOf_35 : decode b_Mo_fieldsOf 35 = .ok (.ireturn, 1) := by decide +kernel
abbrev ru_Mo_fieldsOf : Room := { frames := 2, cells := 0, slots := 0, locals := 43 }
def wb_Mo_fieldsOf_4 (y : Ly) (Post : St → Int32 → Prop) (K_4 : St → Int32 → Int32 → Prop) (a0 : Nat) (s_h4 : St) (x2h4 : Int32) (x3h4 : Int32) : Prop := ((x3h4 < 0 → Post s_h4 x2h4) ∧ (¬ (x3h4 < 0) → ∃ b_1 : Nat, sO s_h4 a0 45 = some b_1 ∧ cl b_1 = 13 ∧ xA y s_h4 b_1 8 x3h4 (fun x_4 : Int32 => wu_Mo_ownFields y (fun (s_6 : St) (r_5 : Int32) => wu_Mo_parentOf y (fun (s_8 : St) (r_7 : Int32) => K_4 s_8 (x2h4 + r_5) r_7) s_6 a0 x3h4) s_h4 a0 x3h4 x_4)))
def wl_Mo_fieldsOf_4 (y : Ly) (Post : St → Int32 → Prop) (a0 : Nat) (s_h4 : St) (x2h4 : Int32) (x3h4 : Int32) : Prop := ∃ (I : St → Int32 → Int32 → Prop) (μ : St → Int32 → Int32 → Nat), I s_h4 x2h4 x3h4 ∧ ∀ (u : St) (t0 : Int32) (t1 : Int32), I u t0 t1 → wb_Mo_fieldsOf_4 y Post (fun z t0q t1q => I z t0q t1q ∧ μ z t0q t1q < μ u t0 t1) a0 u t0 t1
def wu_Mo_fieldsOf (y : Ly) (Post : St → Int32 → Prop) (σ : St) (a0 : Nat) (v1 : Int32) : Prop := wl_Mo_fieldsOf_4 y Post a0 σ 0 v1
set_option maxHeartbeats 4000000 in
set_option maxRecDepth 100000 in
theorem cu_Mo_fieldsOf (l : Launch) (D : va_G) (g : Nat → ClassId) (ad : Nat → Nat) (y : Ly) (Post : St → Int32 → Prop) (σ : St) (a0 : Nat) (v1 : Int32) (sz : Nat) (h_a0 : cl a0 = 14) (h : wu_Mo_fieldsOf y Post σ a0 v1) : Met l y_Mo_fieldsOf (mw y_Mo_fieldsOf b_Mo_fieldsOf 4 (some .int)) ru_Mo_fieldsOf (PC g D [] [.ref (ad a0), .int v1] sz (ws g ad y σ)) (va_Qi (fun (r : Int32) (u : St) => Post u r) (QW D (va_A (ws g ad y σ) sz) (fun u => ws g ad y u)) (va_A (ws g ad y σ) sz)) 0 0 (va_A (ws g ad y σ) sz) := by
  refine ofI (by decide +kernel) (Nat.le_of_ble_eq_true rfl) ?_
  intro p e s m args below meth c A Q ls H locs G hsz hP hD hS hl hret
  subst hsz
  have hl : lv_has ls 4 [(0, .ref (ad a0)), (1, .int v1)] := hl
  unfold wu_Mo_fieldsOf at h
  refine lv_iconst (v := 0) G.1 G.2.1 d_Mo_fieldsOf_0 (by decide) ?_
  refine lv_istore_n (lv' := [(2, .int 0), (0, .ref (ad a0)), (1, .int v1)]) G.1 G.2.1 d_Mo_fieldsOf_1 rfl hl (by decide) rfl (fun ls hl => ?_)
  refine lv_iload_n G.1 G.2.1 d_Mo_fieldsOf_2 rfl (lv_at hl 2 rfl) ?_
  refine lv_istore_n (lv' := [(3, .int v1), (2, .int 0), (0, .ref (ad a0)), (1, .int v1)]) G.1 G.2.1 d_Mo_fieldsOf_3 rfl hl (by decide) rfl (fun ls hl => ?_)
  unfold wl_Mo_fieldsOf_4 at h
  obtain ⟨I_4, μ_4, hI_4, hB_4⟩ := h
  have L_4 : ∀ (n_4 : Nat) (s_h4 : St) (x2h4 : Int32) (x3h4 : Int32), μ_4 s_h4 x2h4 x3h4 < n_4 → I_4 s_h4 x2h4 x3h4 → ∀ (H : Heap) (locs : List Loc), va_P D CL (ws g ad y s_h4) H → va_D A (ws g ad y s_h4) → va_S A s.heap H locs → ∀ ls, lv_has ls 4 [(0, .ref (ad a0)), (2, .int x2h4), (3, .int x3h4)] → W p l e ru_Mo_fieldsOf s m args below meth c H locs 0 0 Q (F0 m 4 ls []) := by
    intro n_4
    induction n_4 with
    | zero => intro s_h4 x2h4 x3h4 hμ; exact absurd hμ (Nat.not_lt_zero _)
    | succ n_4 ih_4 =>
      intro s_h4 x2h4 x3h4 hμ_4 hJ H locs hP hD hS ls hl
      obtain ⟨K_4, hK_4, h⟩ : ∃ K : St → Int32 → Int32 → Prop, (∀ z (t0 : Int32) (t1 : Int32), K z t0 t1 → I_4 z t0 t1 ∧ μ_4 z t0 t1 < μ_4 s_h4 x2h4 x3h4) ∧ wb_Mo_fieldsOf_4 y Post K a0 s_h4 x2h4 x3h4 := ⟨_, fun _ _ _ h => h, hB_4 s_h4 x2h4 x3h4 hJ⟩
      unfold wb_Mo_fieldsOf_4 at h
      refine lv_iload_n G.1 G.2.1 d_Mo_fieldsOf_4 rfl (lv_at hl 2 rfl) ?_
      refine lv_if_lt (tgt := 34) G.1 G.2.1 d_Mo_fieldsOf_5 (by decide) (fun c5 => ?_) (fun c5 => ?_)
      · skip
        have h := h.1 c5
        refine lv_iload_n G.1 G.2.1 d_Mo_fieldsOf_34 rfl (lv_at hl 1 rfl) ?_
        exact hret _ _ _ _ _ _ _ ls h hP hD hS (Nat.le_refl _) (Nat.le_refl _) d_Mo_fieldsOf_35
      · skip
        have h := h.2 c5
        refine lv_iload_n G.1 G.2.1 d_Mo_fieldsOf_8 rfl (lv_at hl 1 rfl) ?_
        refine lv_aload_n G.1 G.2.1 d_Mo_fieldsOf_9 rfl (lv_at hl 0 rfl) ?_
        refine lv_iload_n G.1 G.2.1 d_Mo_fieldsOf_10 rfl (lv_at hl 2 rfl) ?_
        refine lv_aload_n G.1 G.2.1 d_Mo_fieldsOf_11 rfl (lv_at hl 0 rfl) ?_
        obtain ⟨b_1, e_2, c_3, h⟩ := h
        refine ugf (v := .ref (ad b_1)) G hP h_a0 iMo rfl 45 (by decide) rfl q3109 rfl (by show va_rf ((sO s_h4 a0 45).map ad) = _; rw [e_2]; rfl) d_Mo_fieldsOf_12 ?_
        refine ugfN (v := .ref (yP y b_1 8)) G hP c_3 iMw rfl 8 (by decide) rfl q2720 rfl rfl d_Mo_fieldsOf_15 ?_
        refine lv_iload_n G.1 G.2.1 d_Mo_fieldsOf_18 rfl (lv_at hl 2 rfl) ?_
        refine uiald G hP (kdp c_3 rfl) (typ c_3 rfl) h d_Mo_fieldsOf_19 (fun x_4 h => ?_)
        refine ucVi (As := [.int x3h4, .int x_4]) (rest := [.int x2h4]) G hP hD hS (cu_Mo_ownFields l D g ad y _ s_h4 a0 x3h4 x_4 H.size h_a0 h) w9_Mo_ownFields q3959 ⟨Nat.le_of_ble_eq_true rfl, Nat.le_of_ble_eq_true rfl⟩ rfl rfl h_a0 (q := (RMo, TMo, 131)) rfl rfl hl.1 rfl (Nat.le_of_ble_eq_true rfl) rfl ⟨Nat.le_refl _, Nat.le_refl _⟩ d_Mo_fieldsOf_20 (fun r_5 s_6 H locs h hP hD hS => ?_)
        refine W.eq (g2 := F0 m 23 ls [.int r_5, .int x2h4]) rfl ?_
        refine lv_iadd G.1 G.2.1 d_Mo_fieldsOf_23 ?_
        refine lv_istore_n (lv' := [(2, .int (x2h4 + r_5)), (0, .ref (ad a0)), (3, .int x3h4)]) G.1 G.2.1 d_Mo_fieldsOf_24 rfl hl (by decide) rfl (fun ls hl => ?_)
        refine lv_aload_n G.1 G.2.1 d_Mo_fieldsOf_25 rfl (lv_at hl 1 rfl) ?_
        refine lv_iload_n G.1 G.2.1 d_Mo_fieldsOf_26 rfl (lv_at hl 2 rfl) ?_
        refine ucVi (As := [.int x3h4]) (rest := []) G hP hD hS (cu_Mo_parentOf l D g ad y _ s_6 a0 x3h4 H.size h_a0 h) w9_Mo_parentOf q3689 ⟨Nat.le_of_ble_eq_true rfl, Nat.le_of_ble_eq_true rfl⟩ rfl rfl h_a0 (q := (RMo, TMo, 131)) rfl rfl hl.1 rfl (Nat.le_of_ble_eq_true rfl) rfl ⟨Nat.le_refl _, Nat.le_refl _⟩ d_Mo_fieldsOf_27 (fun r_7 s_8 H locs h hP hD hS => ?_)
        refine lv_istore_n (lv' := [(3, .int r_7), (2, .int (x2h4 + r_5)), (0, .ref (ad a0))]) G.1 G.2.1 d_Mo_fieldsOf_30 rfl hl (by decide) rfl (fun ls hl => ?_)
        refine lv_goto (tgt := 4) G.1 G.2.1 d_Mo_fieldsOf_31 (by decide) ?_
        have h := hK_4 s_8 (x2h4 + r_5) r_7 h
        exact ih_4 s_8 (x2h4 + r_5) r_7 (Nat.lt_of_lt_of_le h.2 (Nat.le_of_lt_succ hμ_4)) h.1 H locs hP hD hS ls (lv_sub hl [2, 1, 0] rfl)
  exact L_4 _ σ 0 v1 (Nat.lt_succ_self _) hI_4 H locs hP hD hS ls (lv_sub hl [2, 1, 0] rfl)
theorem q3955 : Cond.methodLink "ClassWorksModel" 899 y_Mo_fieldsOf ∈ lw_ok := lw_okmem (List.mem_of_getElem? (i := 3955) (by decide +kernel)) rfl
theorem q3958 : Cond.code y_Mo_fieldsOf b_Mo_fieldsOf 4 (some .int) ∈ lw_ok := lw_okmem (List.mem_of_getElem? (i := 3958) (by decide +kernel)) rfl
theorem q3957 : Cond.instanceMethod y_Mo_fieldsOf ∈ lw_ok := lw_okmem (List.mem_of_getElem? (i := 3957) (by decide +kernel)) rfl
theorem q278 : Cond.selects y_Mo_fieldsOf.cls y_Mo_fieldsOf y_Mo_fieldsOf ∈ lw_ok := lw_okmem (List.mem_of_getElem? (i := 278) (by decide +kernel)) rfl
theorem w9_Mo_fieldsOf : CWv y_Mo_fieldsOf b_Mo_fieldsOf 4 (some .int) 1 ∧ Cond.instanceMethod y_Mo_fieldsOf ∈ lw_ok ∧ Cond.selects y_Mo_fieldsOf.cls y_Mo_fieldsOf y_Mo_fieldsOf ∈ lw_ok := ⟨⟨q3958, q348, by decide +kernel, by decide +kernel, by decide +kernel⟩, q3957, q278⟩
def y_Mo_slotOf : MethodName := ⟨"ClassWorksModel", "slotOf", "(I)I"⟩
abbrev b_Mo_slotOf : ByteArray := prog_14_method_92_code
theorem d_Mo_slotOf_0 : decode b_Mo_slotOf 0 = .ok (.iload_n 1, 1) := by decide +kernel
theorem d_Mo_slotOf_1 : decode b_Mo_slotOf 1 = .ok (.bipush 8, 2) := by decide +kernel
theorem d_Mo_slotOf_3 : decode b_Mo_slotOf 3 = .ok (.idiv, 1) := by decide +kernel
theorem d_Mo_slotOf_4 : decode b_Mo_slotOf 4 = .ok (.istore_n 2, 1) := by decide +kernel
theorem d_Mo_slotOf_5 : decode b_Mo_slotOf 5 = .ok (.aload_n 0, 1) := by decide +kernel
theorem d_Mo_slotOf_6 : decode b_Mo_slotOf 6 = .ok (.iload_n 2, 1) := by decide +kernel
theorem d_Mo_slotOf_7 : decode b_Mo_slotOf 7 = .ok (.invokevirtual 725, 3) := by decide +kernel
theorem d_Mo_slotOf_10 : decode b_Mo_slotOf 10 = .ok (.istore_n 3, 1) := by decide +kernel
theorem d_Mo_slotOf_11 : decode b_Mo_slotOf 11 = .ok (.iload_n 3, 1) := by decide +kernel
theorem d_Mo_slotOf_12 : decode b_Mo_slotOf 12 = .ok (.ifCond .lt 11, 3) := by decide +kernel
theorem d_Mo_slotOf_15 : decode b_Mo_slotOf 15 = .ok (.aload_n 0, 1) := by decide +kernel
theorem d_Mo_slotOf_16 : decode b_Mo_slotOf 16 = .ok (.iload_n 3, 1) := by decide +kernel
theorem d_Mo_slotOf_17 : decode b_Mo_slotOf 17 = .ok (.invokevirtual 899, 3) := by decide +kernel
theorem d_Mo_slotOf_20 : decode b_Mo_slotOf 20 = .ok (.goto 4, 3) := by decide +kernel
theorem d_Mo_slotOf_23 : decode b_Mo_slotOf 23 = .ok (.iconst 0, 1) := by decide +kernel
theorem d_Mo_slotOf_24 : decode b_Mo_slotOf 24 = .ok (.aload_n 0, 1) := by decide +kernel
theorem d_Mo_slotOf_25 : decode b_Mo_slotOf 25 = .ok (.iload_n 2, 1) := by decide +kernel
theorem d_Mo_slotOf_26 : decode b_Mo_slotOf 26 = .ok (.iload_n 1, 1) := by decide +kernel
theorem d_Mo_slotOf_27 : decode b_Mo_slotOf 27 = .ok (.bipush 8, 2) := by decide +kernel
theorem d_Mo_slotOf_29 : decode b_Mo_slotOf 29 = .ok (.irem, 1) := by decide +kernel
theorem d_Mo_slotOf_30 : decode b_Mo_slotOf 30 = .ok (.invokevirtual 896, 3) := by decide +kernel
theorem d_Mo_slotOf_33 : decode b_Mo_slotOf 33 = .ok (.iadd, 1) := by decide +kernel
theorem d_Mo_slotOf_34 : decode b_Mo_slotOf 34 = .ok (.ireturn, 1) := by decide +kernel
abbrev ru_Mo_slotOf : Room := { frames := 3, cells := 0, slots := 0, locals := 66 }
def wj_Mo_slotOf_24 (y : Ly) (Post : St → Int32 → Prop) (a0 : Nat) (s_j24 : St) (x1j24 : Int32) (x2j24 : Int32) (z0j24 : Int32) : Prop := wu_Mo_ownFields y (fun (s_4 : St) (r_3 : Int32) => Post s_4 (z0j24 + r_3)) s_j24 a0 x2j24 (x1j24 - x1j24 / 8 * 8)
def wu_Mo_slotOf (y : Ly) (Post : St → Int32 → Prop) (σ : St) (a0 : Nat) (v1 : Int32) : Prop := wu_Mo_parentOf y (fun (s_2 : St) (r_1 : Int32) => ((r_1 < 0 → wj_Mo_slotOf_24 y Post a0 s_2 v1 (v1 / 8) 0) ∧ (¬ (r_1 < 0) → wu_Mo_fieldsOf y (fun (s_6 : St) (r_5 : Int32) => wj_Mo_slotOf_24 y Post a0 s_6 v1 (v1 / 8) r_5) s_2 a0 r_1))) σ a0 (v1 / 8)
set_option maxHeartbeats 4000000 in
set_option maxRecDepth 100000 in
theorem cu_Mo_slotOf (l : Launch) (D : va_G) (g : Nat → ClassId) (ad : Nat → Nat) (y : Ly) (Post : St → Int32 → Prop) (σ : St) (a0 : Nat) (v1 : Int32) (sz : Nat) (h_a0 : cl a0 = 14) (h : wu_Mo_slotOf y Post σ a0 v1) : Met l y_Mo_slotOf (mw y_Mo_slotOf b_Mo_slotOf 4 (some .int)) ru_Mo_slotOf (PC g D [] [.ref (ad a0), .int v1] sz (ws g ad y σ)) (va_Qi (fun (r : Int32) (u : St) => Post u r) (QW D (va_A (ws g ad y σ) sz) (fun u => ws g ad y u)) (va_A (ws g ad y σ) sz)) 0 0 (va_A (ws g ad y σ) sz) := by
  refine ofI (by decide +kernel) (Nat.le_of_ble_eq_true rfl) ?_
  intro p e s m args below meth c A Q ls H locs G hsz hP hD hS hl hret
  subst hsz
  have hl : lv_has ls 4 [(0, .ref (ad a0)), (1, .int v1)] := hl
  unfold wu_Mo_slotOf at h
  refine lv_iload_n G.1 G.2.1 d_Mo_slotOf_0 rfl (lv_at hl 1 rfl) ?_
  refine lv_bipush (v := 8) G.1 G.2.1 d_Mo_slotOf_1 (by decide) ?_
  refine lv_idiv G.1 G.2.1 d_Mo_slotOf_3 (by decide) ?_
  refine lv_istore_n (lv' := [(2, .int (v1 / 8)), (0, .ref (ad a0)), (1, .int v1)]) G.1 G.2.1 d_Mo_slotOf_4 rfl hl (by decide) rfl (fun ls hl => ?_)
  refine lv_aload_n G.1 G.2.1 d_Mo_slotOf_5 rfl (lv_at hl 1 rfl) ?_
  refine lv_iload_n G.1 G.2.1 d_Mo_slotOf_6 rfl (lv_at hl 0 rfl) ?_
  refine ucVi (As := [.int (v1 / 8)]) (rest := []) G hP hD hS (cu_Mo_parentOf l D g ad y _ σ a0 (v1 / 8) H.size h_a0 h) w9_Mo_parentOf q3689 ⟨Nat.le_of_ble_eq_true rfl, Nat.le_of_ble_eq_true rfl⟩ rfl rfl h_a0 (q := (RMo, TMo, 131)) rfl rfl hl.1 rfl (Nat.le_of_ble_eq_true rfl) rfl ⟨Nat.le_refl _, Nat.le_refl _⟩ d_Mo_slotOf_7 (fun r_1 s_2 H locs h hP hD hS => ?_)
  refine lv_istore_n (lv' := [(3, .int r_1), (2, .int (v1 / 8)), (0, .ref (ad a0)), (1, .int v1)]) G.1 G.2.1 d_Mo_slotOf_10 rfl hl (by decide) rfl (fun ls hl => ?_)
  refine lv_iload_n G.1 G.2.1 d_Mo_slotOf_11 rfl (lv_at hl 0 rfl) ?_
  have J_24 : ∀ (s_j24 : St) (x1j24 : Int32) (x2j24 : Int32) (z0j24 : Int32) (H : Heap) (locs : List Loc), wj_Mo_slotOf_24 y Post a0 s_j24 x1j24 x2j24 z0j24 → va_P D CL (ws g ad y s_j24) H → va_D A (ws g ad y s_j24) → va_S A s.heap H locs → ∀ ls, lv_has ls 4 [(0, .ref (ad a0)), (1, .int x1j24), (2, .int x2j24)] → W p l e ru_Mo_slotOf s m args below meth c H locs 0 0 Q (F0 m 24 ls [.int z0j24]) := by
    intro s_j24 x1j24 x2j24 z0j24 H locs h hP hD hS ls hl
    unfold wj_Mo_slotOf_24 at h
    refine lv_aload_n G.1 G.2.1 d_Mo_slotOf_24 rfl (lv_at hl 0 rfl) ?_
    refine lv_iload_n G.1 G.2.1 d_Mo_slotOf_25 rfl (lv_at hl 2 rfl) ?_
    refine lv_iload_n G.1 G.2.1 d_Mo_slotOf_26 rfl (lv_at hl 1 rfl) ?_
    refine lv_bipush (v := 8) G.1 G.2.1 d_Mo_slotOf_27 (by decide) ?_
    refine lv_irem G.1 G.2.1 d_Mo_slotOf_29 (by decide) ?_
    refine ucVi (As := [.int x2j24, .int (x1j24 - x1j24 / 8 * 8)]) (rest := [.int z0j24]) G hP hD hS (cu_Mo_ownFields l D g ad y _ s_j24 a0 x2j24 (x1j24 - x1j24 / 8 * 8) H.size h_a0 h) w9_Mo_ownFields q3959 ⟨Nat.le_of_ble_eq_true rfl, Nat.le_of_ble_eq_true rfl⟩ rfl rfl h_a0 (q := (RMo, TMo, 131)) rfl rfl hl.1 rfl (Nat.le_of_ble_eq_true rfl) rfl ⟨Nat.le_refl _, Nat.le_refl _⟩ d_Mo_slotOf_30 (fun r_3 s_4 H locs h hP hD hS => ?_)
    refine lv_iadd G.1 G.2.1 d_Mo_slotOf_33 ?_
    exact hret _ _ _ _ _ _ _ ls h hP hD hS (Nat.le_refl _) (Nat.le_refl _) d_Mo_slotOf_34
  refine lv_if_lt (tgt := 23) G.1 G.2.1 d_Mo_slotOf_12 (by decide) (fun c12 => ?_) (fun c12 => ?_)
  · skip
    have h := h.1 c12
    refine lv_iconst (v := 0) G.1 G.2.1 d_Mo_slotOf_23 (by decide) ?_
    exact J_24 s_2 v1 (v1 / 8) 0 H locs h hP hD hS ls (lv_sub hl [2, 3, 1] rfl)
  · skip
    have h := h.2 c12
    refine lv_aload_n G.1 G.2.1 d_Mo_slotOf_15 rfl (lv_at hl 2 rfl) ?_
    refine W.eq (g2 := F0 m 16 ls [.ref (ad a0)]) rfl ?_
    refine lv_iload_n G.1 G.2.1 d_Mo_slotOf_16 rfl (lv_at hl 0 rfl) ?_
    refine ucVi (As := [.int r_1]) (rest := []) G hP hD hS (cu_Mo_fieldsOf l D g ad y _ s_2 a0 r_1 H.size h_a0 h) w9_Mo_fieldsOf q3955 ⟨Nat.le_of_ble_eq_true rfl, Nat.le_of_ble_eq_true rfl⟩ rfl rfl h_a0 (q := (RMo, TMo, 131)) rfl rfl hl.1 rfl (Nat.le_of_ble_eq_true rfl) rfl ⟨Nat.le_refl _, Nat.le_refl _⟩ d_Mo_slotOf_17 (fun r_5 s_6 H locs h hP hD hS => ?_)
    refine lv_goto (tgt := 24) G.1 G.2.1 d_Mo_slotOf_20 (by decide) ?_
    exact J_24 s_6 v1 (v1 / 8) r_5 H locs h hP hD hS ls (lv_sub hl [2, 3, 1] rfl)
def y_Mo_newThing : MethodName := ⟨"ClassWorksModel", "newThing", "(II)I"⟩
abbrev b_Mo_newThing : ByteArray := prog_14_method_89_code
theorem q2792 : Cond.fieldLinkNest "ClassWorksModel" 884 "ClassWorksModel$World" "thingFroms" "[I" "ClassWorksModel" ∈ lw_nest := lw_nestmem (List.mem_of_getElem? (i := 2792) (by decide +kernel)) rfl
theorem q2794 : Cond.fieldLinkNest "ClassWorksModel" 887 "ClassWorksModel$World" "thingSizes" "[I" "ClassWorksModel" ∈ lw_nest := lw_nestmem (List.mem_of_getElem? (i := 2794) (by decide +kernel)) rfl
theorem q2801 : Cond.fieldLinkNest "ClassWorksModel" 893 "ClassWorksModel$World" "cells" "[I" "ClassWorksModel" ∈ lw_nest := lw_nestmem (List.mem_of_getElem? (i := 2801) (by decide +kernel)) rfl
theorem d_Mo_newThing_0 : decode b_Mo_newThing 0 = .ok (.aload_n 0, 1) := by decide +kernel
theorem d_Mo_newThing_1 : decode b_Mo_newThing 1 = .ok (.getfield 522, 3) := by decide +kernel
theorem d_Mo_newThing_4 : decode b_Mo_newThing 4 = .ok (.getfield 507, 3) := by decide +kernel
theorem d_Mo_newThing_7 : decode b_Mo_newThing 7 = .ok (.sipush 800, 3) := by decide +kernel
theorem d_Mo_newThing_10 : decode b_Mo_newThing 10 = .ok (.if_icmp .eq 18, 3) := by decide +kernel
theorem d_Mo_newThing_13 : decode b_Mo_newThing 13 = .ok (.aload_n 0, 1) := by decide +kernel
theorem d_Mo_newThing_14 : decode b_Mo_newThing 14 = .ok (.getfield 522, 3) := by decide +kernel
theorem d_Mo_newThing_17 : decode b_Mo_newThing 17 = .ok (.getfield 513, 3) := by decide +kernel
theorem d_Mo_newThing_20 : decode b_Mo_newThing 20 = .ok (.iload_n 2, 1) := by decide +kernel
theorem d_Mo_newThing_21 : decode b_Mo_newThing 21 = .ok (.iadd, 1) := by decide +kernel
theorem d_Mo_newThing_22 : decode b_Mo_newThing 22 = .ok (.sipush 4000, 3) := by decide +kernel
theorem d_Mo_newThing_25 : decode b_Mo_newThing 25 = .ok (.if_icmp .le 5, 3) := by decide +kernel
theorem d_Mo_newThing_28 : decode b_Mo_newThing 28 = .ok (.iconst (-1), 1) := by decide +kernel
theorem d_Mo_newThing_29 : decode b_Mo_newThing 29 = .ok (.ireturn, 1) := by decide +kernel
theorem d_Mo_newThing_30 : decode b_Mo_newThing 30 = .ok (.aload_n 0, 1) := by decide +kernel
theorem d_Mo_newThing_31 : decode b_Mo_newThing 31 = .ok (.getfield 522, 3) := by decide +kernel
theorem d_Mo_newThing_34 : decode b_Mo_newThing 34 = .ok (.dup, 1) := by decide +kernel
theorem d_Mo_newThing_35 : decode b_Mo_newThing 35 = .ok (.getfield 507, 3) := by decide +kernel
theorem d_Mo_newThing_38 : decode b_Mo_newThing 38 = .ok (.iconst 1, 1) := by decide +kernel
theorem d_Mo_newThing_39 : decode b_Mo_newThing 39 = .ok (.iadd, 1) := by decide +kernel
theorem d_Mo_newThing_40 : decode b_Mo_newThing 40 = .ok (.putfield 507, 3) := by decide +kernel
theorem d_Mo_newThing_43 : decode b_Mo_newThing 43 = .ok (.iconst 1, 1) := by decide +kernel
theorem d_Mo_newThing_44 : decode b_Mo_newThing 44 = .ok (.istore_n 3, 1) := by decide +kernel
theorem d_Mo_newThing_45 : decode b_Mo_newThing 45 = .ok (.aload_n 0, 1) := by decide +kernel
theorem d_Mo_newThing_46 : decode b_Mo_newThing 46 = .ok (.getfield 522, 3) := by decide +kernel
theorem d_Mo_newThing_49 : decode b_Mo_newThing 49 = .ok (.getfield 510, 3) := by decide +kernel
theorem d_Mo_newThing_52 : decode b_Mo_newThing 52 = .ok (.iload_n 3, 1) := by decide +kernel
theorem d_Mo_newThing_53 : decode b_Mo_newThing 53 = .ok (.baload, 1) := by decide +kernel
theorem d_Mo_newThing_54 : decode b_Mo_newThing 54 = .ok (.ifCond .eq 9, 3) := by decide +kernel
theorem d_Mo_newThing_57 : decode b_Mo_newThing 57 = .ok (.iinc 3 1, 3) := by decide +kernel
theorem d_Mo_newThing_60 : decode b_Mo_newThing 60 = .ok (.goto (-15), 3) := by decide +kernel
theorem d_Mo_newThing_63 : decode b_Mo_newThing 63 = .ok (.aload_n 0, 1) := by decide +kernel
theorem d_Mo_newThing_64 : decode b_Mo_newThing 64 = .ok (.getfield 522, 3) := by decide +kernel
theorem d_Mo_newThing_67 : decode b_Mo_newThing 67 = .ok (.getfield 510, 3) := by decide +kernel
theorem d_Mo_newThing_70 : decode b_Mo_newThing 70 = .ok (.iload_n 3, 1) := by decide +kernel
theorem d_Mo_newThing_71 : decode b_Mo_newThing 71 = .ok (.iconst 1, 1) := by decide +kernel
theorem d_Mo_newThing_72 : decode b_Mo_newThing 72 = .ok (.bastore, 1) := by decide +kernel
theorem d_Mo_newThing_73 : decode b_Mo_newThing 73 = .ok (.aload_n 0, 1) := by decide +kernel
theorem d_Mo_newThing_74 : decode b_Mo_newThing 74 = .ok (.getfield 522, 3) := by decide +kernel
theorem d_Mo_newThing_77 : decode b_Mo_newThing 77 = .ok (.getfield 872, 3) := by decide +kernel
theorem d_Mo_newThing_80 : decode b_Mo_newThing 80 = .ok (.iload_n 3, 1) := by decide +kernel
theorem d_Mo_newThing_81 : decode b_Mo_newThing 81 = .ok (.iload_n 1, 1) := by decide +kernel
theorem d_Mo_newThing_82 : decode b_Mo_newThing 82 = .ok (.iastore, 1) := by decide +kernel
theorem d_Mo_newThing_83 : decode b_Mo_newThing 83 = .ok (.aload_n 0, 1) := by decide +kernel
theorem d_Mo_newThing_84 : decode b_Mo_newThing 84 = .ok (.getfield 522, 3) := by decide +kernel
theorem d_Mo_newThing_87 : decode b_Mo_newThing 87 = .ok (.getfield 884, 3) := by decide +kernel
theorem d_Mo_newThing_90 : decode b_Mo_newThing 90 = .ok (.iload_n 3, 1) := by decide +kernel
theorem d_Mo_newThing_91 : decode b_Mo_newThing 91 = .ok (.aload_n 0, 1) := by decide +kernel
theorem d_Mo_newThing_92 : decode b_Mo_newThing 92 = .ok (.getfield 522, 3) := by decide +kernel
theorem d_Mo_newThing_95 : decode b_Mo_newThing 95 = .ok (.getfield 513, 3) := by decide +kernel
theorem d_Mo_newThing_98 : decode b_Mo_newThing 98 = .ok (.iastore, 1) := by decide +kernel
theorem d_Mo_newThing_99 : decode b_Mo_newThing 99 = .ok (.aload_n 0, 1) := by decide +kernel
theorem d_Mo_newThing_100 : decode b_Mo_newThing 100 = .ok (.getfield 522, 3) := by decide +kernel
theorem d_Mo_newThing_103 : decode b_Mo_newThing 103 = .ok (.getfield 887, 3) := by decide +kernel
theorem d_Mo_newThing_106 : decode b_Mo_newThing 106 = .ok (.iload_n 3, 1) := by decide +kernel
theorem d_Mo_newThing_107 : decode b_Mo_newThing 107 = .ok (.iload_n 2, 1) := by decide +kernel
theorem d_Mo_newThing_108 : decode b_Mo_newThing 108 = .ok (.iastore, 1) := by decide +kernel
theorem d_Mo_newThing_109 : decode b_Mo_newThing 109 = .ok (.aload_n 0, 1) := by decide +kernel
theorem d_Mo_newThing_110 : decode b_Mo_newThing 110 = .ok (.getfield 522, 3) := by decide +kernel
theorem d_Mo_newThing_113 : decode b_Mo_newThing 113 = .ok (.getfield 890, 3) := by decide +kernel
theorem d_Mo_newThing_116 : decode b_Mo_newThing 116 = .ok (.iload_n 3, 1) := by decide +kernel
theorem d_Mo_newThing_117 : decode b_Mo_newThing 117 = .ok (.iconst 0, 1) := by decide +kernel
theorem d_Mo_newThing_118 : decode b_Mo_newThing 118 = .ok (.iastore, 1) := by decide +kernel
theorem d_Mo_newThing_119 : decode b_Mo_newThing 119 = .ok (.iconst 0, 1) := by decide +kernel
theorem d_Mo_newThing_120 : decode b_Mo_newThing 120 = .ok (.istore 4, 2) := by decide +kernel
theorem d_Mo_newThing_122 : decode b_Mo_newThing 122 = .ok (.iload 4, 2) := by decide +kernel
theorem d_Mo_newThing_124 : decode b_Mo_newThing 124 = .ok (.iload_n 2, 1) := by decide +kernel
theorem d_Mo_newThing_125 : decode b_Mo_newThing 125 = .ok (.if_icmp .ge 28, 3) := by decide +kernel
theorem d_Mo_newThing_128 : decode b_Mo_newThing 128 = .ok (.aload_n 0, 1) := by decide +kernel
theorem d_Mo_newThing_129 : decode b_Mo_newThing 129 = .ok (.getfield 522, 3) := by decide +kernel
theorem d_Mo_newThing_132 : decode b_Mo_newThing 132 = .ok (.getfield 893, 3) := by decide +kernel
theorem d_Mo_newThing_135 : decode b_Mo_newThing 135 = .ok (.aload_n 0, 1) := by decide +kernel
theorem d_Mo_newThing_136 : decode b_Mo_newThing 136 = .ok (.getfield 522, 3) := by decide +kernel
theorem d_Mo_newThing_139 : decode b_Mo_newThing 139 = .ok (.getfield 513, 3) := by decide +kernel
theorem d_Mo_newThing_142 : decode b_Mo_newThing 142 = .ok (.iload 4, 2) := by decide +kernel
theorem d_Mo_newThing_144 : decode b_Mo_newThing 144 = .ok (.iadd, 1) := by decide +kernel
theorem d_Mo_newThing_145 : decode b_Mo_newThing 145 = .ok (.iconst 0, 1) := by decide +kernel
theorem d_Mo_newThing_146 : decode b_Mo_newThing 146 = .ok (.iastore, 1) := by decide +kernel
theorem d_Mo_newThing_147 : decode b_Mo_newThing 147 = .ok (.iinc 4 1, 3) := by decide +kernel
theorem d_Mo_newThing_150 : decode b_Mo_newThing 150 = .ok (.goto (-28), 3) := by decide +kernel
theorem d_Mo_newThing_153 : decode b_Mo_newThing 153 = .ok (.aload_n 0, 1) := by decide +kernel
theorem d_Mo_newThing_154 : decode b_Mo_newThing 154 = .ok (.getfield 522, 3) := by decide +kernel
theorem d_Mo_newThing_157 : decode b_Mo_newThing 157 = .ok (.dup, 1) := by decide +kernel
theorem d_Mo_newThing_158 : decode b_Mo_newThing 158 = .ok (.getfield 513, 3) := by decide +kernel
theorem d_Mo_newThing_161 : decode b_Mo_newThing 161 = .ok (.iload_n 2, 1) := by decide +kernel
theorem d_Mo_newThing_162 : decode b_Mo_newThing 162 = .ok (.iadd, 1) := by decide +kernel
theorem d_Mo_newThing_163 : decode b_Mo_newThing 163 = .ok (.putfield 513, 3) := by decide +kernel
theorem d_Mo_newThing_166 : decode b_Mo_newThing 166 = .ok (.iload_n 3, 1) := by decide +kernel
theorem d_Mo_newThing_167 : decode b_Mo_newThing 167 = .ok (.ireturn, 1) := by decide +kernel
abbrev ru_Mo_newThing : Room := { frames := 0, cells := 0, slots := 0, locals := 0 }
def wj_Mo_newThing_28 (y : Ly) (Post : St → Int32 → Prop) (a0 : Nat) (s_j28 : St) : Prop := Post s_j28 (-1)
def wb_Mo_newThing_122 (y : Ly) (Post : St → Int32 → Prop) (K_122 : St → Int32 → Int32 → Int32 → Prop) (a0 : Nat) (s_h122 : St) (x2h122 : Int32) (x3h122 : Int32) (x4h122 : Int32) : Prop := ((x2h122 ≤ x4h122 → ∃ b_38 : Nat, sO s_h122 a0 45 = some b_38 ∧ cl b_38 = 13 ∧ xP (uV s_h122 b_38 52 ((sV s_h122 b_38 52) + x2h122)) (fun s_41 : St => Post s_41 x3h122)) ∧ (¬ (x2h122 ≤ x4h122) → ∃ b_42 : Nat, sO s_h122 a0 45 = some b_42 ∧ cl b_42 = 13 ∧ ∃ b_45 : Nat, sO s_h122 a0 45 = some b_45 ∧ cl b_45 = 13 ∧ xS y s_h122 b_42 51 ((sV s_h122 b_45 52) + x4h122) 0 (fun s_48 : St => K_122 s_48 x2h122 x3h122 (x4h122 + 1))))
def wl_Mo_newThing_122 (y : Ly) (Post : St → Int32 → Prop) (a0 : Nat) (s_h122 : St) (x2h122 : Int32) (x3h122 : Int32) (x4h122 : Int32) : Prop := ∃ (I : St → Int32 → Int32 → Int32 → Prop) (μ : St → Int32 → Int32 → Int32 → Nat), I s_h122 x2h122 x3h122 x4h122 ∧ ∀ (u : St) (t0 : Int32) (t1 : Int32) (t2 : Int32), I u t0 t1 t2 → wb_Mo_newThing_122 y Post (fun z t0q t1q t2q => I z t0q t1q t2q ∧ μ z t0q t1q t2q < μ u t0 t1 t2) a0 u t0 t1 t2
def wb_Mo_newThing_45 (y : Ly) (Post : St → Int32 → Prop) (K_45 : St → Int32 → Int32 → Int32 → Prop) (a0 : Nat) (s_h45 : St) (x1h45 : Int32) (x2h45 : Int32) (x3h45 : Int32) : Prop := ∃ b_11 : Nat, sO s_h45 a0 45 = some b_11 ∧ cl b_11 = 13 ∧ xA y s_h45 b_11 49 x3h45 (fun x_14 : Int32 => ((x_14 = 0 → ∃ b_15 : Nat, sO s_h45 a0 45 = some b_15 ∧ cl b_15 = 13 ∧ xS y s_h45 b_15 49 x3h45 (vp_nar .boolean 1) (fun s_18 : St => ∃ b_19 : Nat, sO s_18 a0 45 = some b_19 ∧ cl b_19 = 13 ∧ xS y s_18 b_19 45 x3h45 x1h45 (fun s_22 : St => ∃ b_23 : Nat, sO s_22 a0 45 = some b_23 ∧ cl b_23 = 13 ∧ ∃ b_26 : Nat, sO s_22 a0 45 = some b_26 ∧ cl b_26 = 13 ∧ xS y s_22 b_23 46 x3h45 (sV s_22 b_26 52) (fun s_29 : St => ∃ b_30 : Nat, sO s_29 a0 45 = some b_30 ∧ cl b_30 = 13 ∧ xS y s_29 b_30 47 x3h45 x2h45 (fun s_33 : St => ∃ b_34 : Nat, sO s_33 a0 45 = some b_34 ∧ cl b_34 = 13 ∧ xS y s_33 b_34 48 x3h45 0 (fun s_37 : St => wl_Mo_newThing_122 y Post a0 s_37 x2h45 x3h45 0)))))) ∧ (¬ (x_14 = 0) → K_45 s_h45 x1h45 x2h45 (x3h45 + 1))))
def wl_Mo_newThing_45 (y : Ly) (Post : St → Int32 → Prop) (a0 : Nat) (s_h45 : St) (x1h45 : Int32) (x2h45 : Int32) (x3h45 : Int32) : Prop := ∃ (I : St → Int32 → Int32 → Int32 → Prop) (μ : St → Int32 → Int32 → Int32 → Nat), I s_h45 x1h45 x2h45 x3h45 ∧ ∀ (u : St) (t0 : Int32) (t1 : Int32) (t2 : Int32), I u t0 t1 t2 → wb_Mo_newThing_45 y Post (fun z t0q t1q t2q => I z t0q t1q t2q ∧ μ z t0q t1q t2q < μ u t0 t1 t2) a0 u t0 t1 t2
def wu_Mo_newThing (y : Ly) (Post : St → Int32 → Prop) (σ : St) (a0 : Nat) (v1 : Int32) (v2 : Int32) : Prop := ∃ b_1 : Nat, sO σ a0 45 = some b_1 ∧ cl b_1 = 13 ∧ (((sV σ b_1 50) = 800 → wj_Mo_newThing_28 y Post a0 σ) ∧ (¬ ((sV σ b_1 50) = 800) → ∃ b_4 : Nat, sO σ a0 45 = some b_4 ∧ cl b_4 = 13 ∧ ((((sV σ b_4 52) + v2) ≤ 4000 → ∃ b_7 : Nat, sO σ a0 45 = some b_7 ∧ cl b_7 = 13 ∧ xP (uV σ b_7 50 ((sV σ b_7 50) + 1)) (fun s_10 : St => wl_Mo_newThing_45 y Post a0 s_10 v1 v2 1)) ∧ (¬ (((sV σ b_4 52) + v2) ≤ 4000) → wj_Mo_newThing_28 y Post a0 σ))))
set_option maxHeartbeats 4000000 in
set_option maxRecDepth 100000 in
theorem cu_Mo_newThing (l : Launch) (D : va_G) (g : Nat → ClassId) (ad : Nat → Nat) (y : Ly) (Post : St → Int32 → Prop) (σ : St) (a0 : Nat) (v1 : Int32) (v2 : Int32) (sz : Nat) (h_a0 : cl a0 = 14) (h : wu_Mo_newThing y Post σ a0 v1 v2) : Met l y_Mo_newThing (mw y_Mo_newThing b_Mo_newThing 5 (some .int)) ru_Mo_newThing (PC g D [] [.ref (ad a0), .int v1, .int v2] sz (ws g ad y σ)) (va_Qi (fun (r : Int32) (u : St) => Post u r) (QW D (va_A (ws g ad y σ) sz) (fun u => ws g ad y u)) (va_A (ws g ad y σ) sz)) 0 0 (va_A (ws g ad y σ) sz) := by
  refine ofI (by decide +kernel) (Nat.le_of_ble_eq_true rfl) ?_
  intro p e s m args below meth c A Q ls H locs G hsz hP hD hS hl hret
  subst hsz
  have hl : lv_has ls 5 [(0, .ref (ad a0)), (1, .int v1), (2, .int v2)] := hl
  unfold wu_Mo_newThing at h
  refine lv_aload_n G.1 G.2.1 d_Mo_newThing_0 rfl (lv_at hl 0 rfl) ?_
  obtain ⟨b_1, e_2, c_3, h⟩ := h
  refine ugf (v := .ref (ad b_1)) G hP h_a0 iMo rfl 45 (by decide) rfl q3109 rfl (by show va_rf ((sO σ a0 45).map ad) = _; rw [e_2]; rfl) d_Mo_newThing_1 ?_
  refine ugfN (v := .int (sV σ b_1 50)) G hP c_3 iMw rfl 50 (by decide) rfl q2799 rfl rfl d_Mo_newThing_4 ?_
  refine lv_sipush (v := 800) G.1 G.2.1 d_Mo_newThing_7 (by decide) ?_
  have J_28 : ∀ (s_j28 : St) (H : Heap) (locs : List Loc), wj_Mo_newThing_28 y Post a0 s_j28 → va_P D CL (ws g ad y s_j28) H → va_D A (ws g ad y s_j28) → va_S A s.heap H locs → ∀ ls, lv_has ls 5 [] → W p l e ru_Mo_newThing s m args below meth c H locs 0 0 Q (F0 m 28 ls []) := by
    intro s_j28 H locs h hP hD hS ls hl
    unfold wj_Mo_newThing_28 at h
    refine lv_iconst (v := (-1)) G.1 G.2.1 d_Mo_newThing_28 (by decide) ?_
    exact hret _ _ _ _ _ _ _ ls h hP hD hS (Nat.le_refl _) (Nat.le_refl _) d_Mo_newThing_29
  refine lv_icmp_eq (tgt := 28) G.1 G.2.1 d_Mo_newThing_10 (by decide) (fun c10 => ?_) (fun c10 => ?_)
  · skip
    have h := h.1 c10
    exact J_28 σ H locs h hP hD hS ls (lv_sub hl [] rfl)
  · skip
    have h := h.2 c10
    refine lv_aload_n G.1 G.2.1 d_Mo_newThing_13 rfl (lv_at hl 0 rfl) ?_
    obtain ⟨b_4, e_5, c_6, h⟩ := h
    refine ugf (v := .ref (ad b_4)) G hP h_a0 iMo rfl 45 (by decide) rfl q3109 rfl (by show va_rf ((sO σ a0 45).map ad) = _; rw [e_5]; rfl) d_Mo_newThing_14 ?_
    refine ugfN (v := .int (sV σ b_4 52)) G hP c_6 iMw rfl 52 (by decide) rfl q2802 rfl rfl d_Mo_newThing_17 ?_
    refine lv_iload_n G.1 G.2.1 d_Mo_newThing_20 rfl (lv_at hl 2 rfl) ?_
    refine lv_iadd G.1 G.2.1 d_Mo_newThing_21 ?_
    refine lv_sipush (v := 4000) G.1 G.2.1 d_Mo_newThing_22 (by decide) ?_
    refine W.eq (g2 := F0 m 25 ls [.int 4000, .int ((sV σ b_4 52) + v2)]) rfl ?_
    refine lv_icmp_le (tgt := 30) G.1 G.2.1 d_Mo_newThing_25 (by decide) (fun c25 => ?_) (fun c25 => ?_)
    · skip
      have h := h.1 c25
      refine lv_aload_n G.1 G.2.1 d_Mo_newThing_30 rfl (lv_at hl 0 rfl) ?_
      obtain ⟨b_7, e_8, c_9, h⟩ := h
      refine ugf (v := .ref (ad b_7)) G hP h_a0 iMo rfl 45 (by decide) rfl q3109 rfl (by show va_rf ((sO σ a0 45).map ad) = _; rw [e_8]; rfl) d_Mo_newThing_31 ?_
      refine lv_dup G.1 G.2.1 d_Mo_newThing_34 rfl ?_
      refine ugfN (v := .int (sV σ b_7 50)) G hP c_9 iMw rfl 50 (by decide) rfl q2799 rfl rfl d_Mo_newThing_35 ?_
      refine lv_iconst (v := 1) G.1 G.2.1 d_Mo_newThing_38 (by decide) ?_
      refine lv_iadd G.1 G.2.1 d_Mo_newThing_39 ?_
      refine upfN G hP hD hS h 50 putV c_9 iMw tMw tMw_ok nMw rfl (by decide) rfl q2799 rfl rfl fV rfl rfl d_Mo_newThing_40 (fun s_10 H locs h hP hD hS => ?_)
      refine lv_iconst (v := 1) G.1 G.2.1 d_Mo_newThing_43 (by decide) ?_
      refine lv_istore_n (lv' := [(3, .int 1), (0, .ref (ad a0)), (1, .int v1), (2, .int v2)]) G.1 G.2.1 d_Mo_newThing_44 rfl hl (by decide) rfl (fun ls hl => ?_)
      unfold wl_Mo_newThing_45 at h
      obtain ⟨I_45, μ_45, hI_45, hB_45⟩ := h
      have L_45 : ∀ (n_45 : Nat) (s_h45 : St) (x1h45 : Int32) (x2h45 : Int32) (x3h45 : Int32), μ_45 s_h45 x1h45 x2h45 x3h45 < n_45 → I_45 s_h45 x1h45 x2h45 x3h45 → ∀ (H : Heap) (locs : List Loc), va_P D CL (ws g ad y s_h45) H → va_D A (ws g ad y s_h45) → va_S A s.heap H locs → ∀ ls, lv_has ls 5 [(0, .ref (ad a0)), (1, .int x1h45), (2, .int x2h45), (3, .int x3h45)] → W p l e ru_Mo_newThing s m args below meth c H locs 0 0 Q (F0 m 45 ls []) := by
        intro n_45
        induction n_45 with
        | zero => intro s_h45 x1h45 x2h45 x3h45 hμ; exact absurd hμ (Nat.not_lt_zero _)
        | succ n_45 ih_45 =>
          intro s_h45 x1h45 x2h45 x3h45 hμ_45 hJ H locs hP hD hS ls hl
          obtain ⟨K_45, hK_45, h⟩ : ∃ K : St → Int32 → Int32 → Int32 → Prop, (∀ z (t0 : Int32) (t1 : Int32) (t2 : Int32), K z t0 t1 t2 → I_45 z t0 t1 t2 ∧ μ_45 z t0 t1 t2 < μ_45 s_h45 x1h45 x2h45 x3h45) ∧ wb_Mo_newThing_45 y Post K a0 s_h45 x1h45 x2h45 x3h45 := ⟨_, fun _ _ _ _ h => h, hB_45 s_h45 x1h45 x2h45 x3h45 hJ⟩
          unfold wb_Mo_newThing_45 at h
          refine lv_aload_n G.1 G.2.1 d_Mo_newThing_45 rfl (lv_at hl 0 rfl) ?_
          obtain ⟨b_11, e_12, c_13, h⟩ := h
          refine ugf (v := .ref (ad b_11)) G hP h_a0 iMo rfl 45 (by decide) rfl q3109 rfl (by show va_rf ((sO s_h45 a0 45).map ad) = _; rw [e_12]; rfl) d_Mo_newThing_46 ?_
          refine ugfN (v := .ref (yP y b_11 49)) G hP c_13 iMw rfl 49 (by decide) rfl q2798 rfl rfl d_Mo_newThing_49 ?_
          refine lv_iload_n G.1 G.2.1 d_Mo_newThing_52 rfl (lv_at hl 3 rfl) ?_
          refine uzald G hP (kdp c_13 rfl) (typ c_13 rfl) h d_Mo_newThing_53 (fun x_14 h => ?_)
          refine lv_if_eq (tgt := 63) G.1 G.2.1 d_Mo_newThing_54 (by decide) (fun c54 => ?_) (fun c54 => ?_)
          · skip
            have h := h.1 c54
            refine lv_aload_n G.1 G.2.1 d_Mo_newThing_63 rfl (lv_at hl 0 rfl) ?_
            obtain ⟨b_15, e_16, c_17, h⟩ := h
            refine ugf (v := .ref (ad b_15)) G hP h_a0 iMo rfl 45 (by decide) rfl q3109 rfl (by show va_rf ((sO s_h45 a0 45).map ad) = _; rw [e_16]; rfl) d_Mo_newThing_64 ?_
            refine ugfN (v := .ref (yP y b_15 49)) G hP c_17 iMw rfl 49 (by decide) rfl q2798 rfl rfl d_Mo_newThing_67 ?_
            refine lv_iload_n G.1 G.2.1 d_Mo_newThing_70 rfl (lv_at hl 3 rfl) ?_
            refine lv_iconst (v := 1) G.1 G.2.1 d_Mo_newThing_71 (by decide) ?_
            refine W.eq (g2 := F0 m 72 ls [.int 1, .int x3h45, .ref (yP y b_15 49)]) rfl ?_
            refine uzast G hP hD hS (kdp c_17 rfl) (typ c_17 rfl) h d_Mo_newThing_72 (fun s_18 H locs h hP hD hS => ?_)
            refine lv_aload_n G.1 G.2.1 d_Mo_newThing_73 rfl (lv_at hl 0 rfl) ?_
            obtain ⟨b_19, e_20, c_21, h⟩ := h
            refine ugf (v := .ref (ad b_19)) G hP h_a0 iMo rfl 45 (by decide) rfl q3109 rfl (by show va_rf ((sO s_18 a0 45).map ad) = _; rw [e_20]; rfl) d_Mo_newThing_74 ?_
            refine ugfN (v := .ref (yP y b_19 45)) G hP c_21 iMw rfl 45 (by decide) rfl q2790 rfl rfl d_Mo_newThing_77 ?_
            refine lv_iload_n G.1 G.2.1 d_Mo_newThing_80 rfl (lv_at hl 3 rfl) ?_
            refine lv_iload_n G.1 G.2.1 d_Mo_newThing_81 rfl (lv_at hl 1 rfl) ?_
            refine uiast G hP hD hS (kdp c_21 rfl) (typ c_21 rfl) h d_Mo_newThing_82 (fun s_22 H locs h hP hD hS => ?_)
            refine lv_aload_n G.1 G.2.1 d_Mo_newThing_83 rfl (lv_at hl 0 rfl) ?_
            obtain ⟨b_23, e_24, c_25, h⟩ := h
            refine ugf (v := .ref (ad b_23)) G hP h_a0 iMo rfl 45 (by decide) rfl q3109 rfl (by show va_rf ((sO s_22 a0 45).map ad) = _; rw [e_24]; rfl) d_Mo_newThing_84 ?_
            refine ugfN (v := .ref (yP y b_23 46)) G hP c_25 iMw rfl 46 (by decide) rfl q2792 rfl rfl d_Mo_newThing_87 ?_
            refine lv_iload_n G.1 G.2.1 d_Mo_newThing_90 rfl (lv_at hl 3 rfl) ?_
            refine lv_aload_n G.1 G.2.1 d_Mo_newThing_91 rfl (lv_at hl 0 rfl) ?_
            refine W.eq (g2 := F0 m 92 ls [.ref (ad a0), .int x3h45, .ref (yP y b_23 46)]) rfl ?_
            obtain ⟨b_26, e_27, c_28, h⟩ := h
            refine ugf (v := .ref (ad b_26)) G hP h_a0 iMo rfl 45 (by decide) rfl q3109 rfl (by show va_rf ((sO s_22 a0 45).map ad) = _; rw [e_27]; rfl) d_Mo_newThing_92 ?_
            refine ugfN (v := .int (sV s_22 b_26 52)) G hP c_28 iMw rfl 52 (by decide) rfl q2802 rfl rfl d_Mo_newThing_95 ?_
            refine uiast G hP hD hS (kdp c_25 rfl) (typ c_25 rfl) h d_Mo_newThing_98 (fun s_29 H locs h hP hD hS => ?_)
            refine lv_aload_n G.1 G.2.1 d_Mo_newThing_99 rfl (lv_at hl 0 rfl) ?_
            obtain ⟨b_30, e_31, c_32, h⟩ := h
            refine ugf (v := .ref (ad b_30)) G hP h_a0 iMo rfl 45 (by decide) rfl q3109 rfl (by show va_rf ((sO s_29 a0 45).map ad) = _; rw [e_31]; rfl) d_Mo_newThing_100 ?_
            refine ugfN (v := .ref (yP y b_30 47)) G hP c_32 iMw rfl 47 (by decide) rfl q2794 rfl rfl d_Mo_newThing_103 ?_
            refine lv_iload_n G.1 G.2.1 d_Mo_newThing_106 rfl (lv_at hl 3 rfl) ?_
            refine lv_iload_n G.1 G.2.1 d_Mo_newThing_107 rfl (lv_at hl 2 rfl) ?_
            refine uiast G hP hD hS (kdp c_32 rfl) (typ c_32 rfl) h d_Mo_newThing_108 (fun s_33 H locs h hP hD hS => ?_)
            refine lv_aload_n G.1 G.2.1 d_Mo_newThing_109 rfl (lv_at hl 0 rfl) ?_
            obtain ⟨b_34, e_35, c_36, h⟩ := h
            refine ugf (v := .ref (ad b_34)) G hP h_a0 iMo rfl 45 (by decide) rfl q3109 rfl (by show va_rf ((sO s_33 a0 45).map ad) = _; rw [e_35]; rfl) d_Mo_newThing_110 ?_
            refine ugfN (v := .ref (yP y b_34 48)) G hP c_36 iMw rfl 48 (by decide) rfl q2796 rfl rfl d_Mo_newThing_113 ?_
            refine W.eq (g2 := F0 m 116 ls [.ref (yP y b_34 48)]) rfl ?_
            refine lv_iload_n G.1 G.2.1 d_Mo_newThing_116 rfl (lv_at hl 3 rfl) ?_
            refine lv_iconst (v := 0) G.1 G.2.1 d_Mo_newThing_117 (by decide) ?_
            refine uiast G hP hD hS (kdp c_36 rfl) (typ c_36 rfl) h d_Mo_newThing_118 (fun s_37 H locs h hP hD hS => ?_)
            refine lv_iconst (v := 0) G.1 G.2.1 d_Mo_newThing_119 (by decide) ?_
            refine lv_istore (lv' := [(4, .int 0), (0, .ref (ad a0)), (1, .int x1h45), (2, .int x2h45), (3, .int x3h45)]) G.1 G.2.1 d_Mo_newThing_120 hl (by decide) rfl (fun ls hl => ?_)
            unfold wl_Mo_newThing_122 at h
            obtain ⟨I_122, μ_122, hI_122, hB_122⟩ := h
            have L_122 : ∀ (n_122 : Nat) (s_h122 : St) (x2h122 : Int32) (x3h122 : Int32) (x4h122 : Int32), μ_122 s_h122 x2h122 x3h122 x4h122 < n_122 → I_122 s_h122 x2h122 x3h122 x4h122 → ∀ (H : Heap) (locs : List Loc), va_P D CL (ws g ad y s_h122) H → va_D A (ws g ad y s_h122) → va_S A s.heap H locs → ∀ ls, lv_has ls 5 [(0, .ref (ad a0)), (2, .int x2h122), (3, .int x3h122), (4, .int x4h122)] → W p l e ru_Mo_newThing s m args below meth c H locs 0 0 Q (F0 m 122 ls []) := by
              intro n_122
              induction n_122 with
              | zero => intro s_h122 x2h122 x3h122 x4h122 hμ; exact absurd hμ (Nat.not_lt_zero _)
              | succ n_122 ih_122 =>
                intro s_h122 x2h122 x3h122 x4h122 hμ_122 hJ H locs hP hD hS ls hl
                obtain ⟨K_122, hK_122, h⟩ : ∃ K : St → Int32 → Int32 → Int32 → Prop, (∀ z (t0 : Int32) (t1 : Int32) (t2 : Int32), K z t0 t1 t2 → I_122 z t0 t1 t2 ∧ μ_122 z t0 t1 t2 < μ_122 s_h122 x2h122 x3h122 x4h122) ∧ wb_Mo_newThing_122 y Post K a0 s_h122 x2h122 x3h122 x4h122 := ⟨_, fun _ _ _ _ h => h, hB_122 s_h122 x2h122 x3h122 x4h122 hJ⟩
                unfold wb_Mo_newThing_122 at h
                refine lv_iload G.1 G.2.1 d_Mo_newThing_122 (lv_at hl 3 rfl) ?_
                refine lv_iload_n G.1 G.2.1 d_Mo_newThing_124 rfl (lv_at hl 1 rfl) ?_
                refine lv_icmp_ge (tgt := 153) G.1 G.2.1 d_Mo_newThing_125 (by decide) (fun c125 => ?_) (fun c125 => ?_)
                · skip
                  have h := h.1 c125
                  refine lv_aload_n G.1 G.2.1 d_Mo_newThing_153 rfl (lv_at hl 0 rfl) ?_
                  obtain ⟨b_38, e_39, c_40, h⟩ := h
                  refine ugf (v := .ref (ad b_38)) G hP h_a0 iMo rfl 45 (by decide) rfl q3109 rfl (by show va_rf ((sO s_h122 a0 45).map ad) = _; rw [e_39]; rfl) d_Mo_newThing_154 ?_
                  refine lv_dup G.1 G.2.1 d_Mo_newThing_157 rfl ?_
                  refine ugfN (v := .int (sV s_h122 b_38 52)) G hP c_40 iMw rfl 52 (by decide) rfl q2802 rfl rfl d_Mo_newThing_158 ?_
                  refine lv_iload_n G.1 G.2.1 d_Mo_newThing_161 rfl (lv_at hl 1 rfl) ?_
                  refine lv_iadd G.1 G.2.1 d_Mo_newThing_162 ?_
                  refine upfN G hP hD hS h 52 putV c_40 iMw tMw tMw_ok nMw rfl (by decide) rfl q2802 rfl rfl fV rfl rfl d_Mo_newThing_163 (fun s_41 H locs h hP hD hS => ?_)
                  refine lv_iload_n G.1 G.2.1 d_Mo_newThing_166 rfl (lv_at hl 2 rfl) ?_
                  refine W.eq (g2 := F0 m 167 ls [.int x3h122]) rfl ?_
                  exact hret _ _ _ _ _ _ _ ls h hP hD hS (Nat.le_refl _) (Nat.le_refl _) d_Mo_newThing_167
                · skip
                  have h := h.2 c125
                  refine lv_aload_n G.1 G.2.1 d_Mo_newThing_128 rfl (lv_at hl 0 rfl) ?_
                  obtain ⟨b_42, e_43, c_44, h⟩ := h
                  refine ugf (v := .ref (ad b_42)) G hP h_a0 iMo rfl 45 (by decide) rfl q3109 rfl (by show va_rf ((sO s_h122 a0 45).map ad) = _; rw [e_43]; rfl) d_Mo_newThing_129 ?_
                  refine ugfN (v := .ref (yP y b_42 51)) G hP c_44 iMw rfl 51 (by decide) rfl q2801 rfl rfl d_Mo_newThing_132 ?_
                  refine lv_aload_n G.1 G.2.1 d_Mo_newThing_135 rfl (lv_at hl 0 rfl) ?_
                  obtain ⟨b_45, e_46, c_47, h⟩ := h
                  refine ugf (v := .ref (ad b_45)) G hP h_a0 iMo rfl 45 (by decide) rfl q3109 rfl (by show va_rf ((sO s_h122 a0 45).map ad) = _; rw [e_46]; rfl) d_Mo_newThing_136 ?_
                  refine ugfN (v := .int (sV s_h122 b_45 52)) G hP c_47 iMw rfl 52 (by decide) rfl q2802 rfl rfl d_Mo_newThing_139 ?_
                  refine lv_iload G.1 G.2.1 d_Mo_newThing_142 (lv_at hl 3 rfl) ?_
                  refine lv_iadd G.1 G.2.1 d_Mo_newThing_144 ?_
                  refine W.eq (g2 := F0 m 145 ls [.int ((sV s_h122 b_45 52) + x4h122), .ref (yP y b_42 51)]) rfl ?_
                  refine lv_iconst (v := 0) G.1 G.2.1 d_Mo_newThing_145 (by decide) ?_
                  refine uiast G hP hD hS (kdp c_44 rfl) (typ c_44 rfl) h d_Mo_newThing_146 (fun s_48 H locs h hP hD hS => ?_)
                  refine lv_iinc (v := x4h122 + 1) (lv' := [(4, .int (x4h122 + 1)), (0, .ref (ad a0)), (2, .int x2h122), (3, .int x3h122)]) G.1 G.2.1 d_Mo_newThing_147 hl (k := 3) rfl rfl (by decide) rfl (fun ls hl => ?_)
                  refine lv_goto (tgt := 122) G.1 G.2.1 d_Mo_newThing_150 (by decide) ?_
                  have h := hK_122 s_48 x2h122 x3h122 (x4h122 + 1) h
                  exact ih_122 s_48 x2h122 x3h122 (x4h122 + 1) (Nat.lt_of_lt_of_le h.2 (Nat.le_of_lt_succ hμ_122)) h.1 H locs hP hD hS ls (lv_sub hl [1, 2, 3, 0] rfl)
            exact L_122 _ s_37 x2h45 x3h45 0 (Nat.lt_succ_self _) hI_122 H locs hP hD hS ls (lv_sub hl [1, 3, 4, 0] rfl)
          · skip
            have h := h.2 c54
            refine lv_iinc (v := x3h45 + 1) (lv' := [(3, .int (x3h45 + 1)), (0, .ref (ad a0)), (1, .int x1h45), (2, .int x2h45)]) G.1 G.2.1 d_Mo_newThing_57 hl (k := 3) rfl rfl (by decide) rfl (fun ls hl => ?_)
            refine lv_goto (tgt := 45) G.1 G.2.1 d_Mo_newThing_60 (by decide) ?_
            have h := hK_45 s_h45 x1h45 x2h45 (x3h45 + 1) h
            exact ih_45 s_h45 x1h45 x2h45 (x3h45 + 1) (Nat.lt_of_lt_of_le h.2 (Nat.le_of_lt_succ hμ_45)) h.1 H locs hP hD hS ls (lv_sub hl [1, 2, 3, 0] rfl)
      exact L_45 _ s_10 v1 v2 1 (Nat.lt_succ_self _) hI_45 H locs hP hD hS ls (lv_sub hl [1, 2, 3, 0] rfl)
    · skip
      have h := h.2 c25
      exact J_28 σ H locs h hP hD hS ls (lv_sub hl [] rfl)
def y_Mo_lock : MethodName := ⟨"ClassWorksModel", "lock", "(II)V"⟩
abbrev b_Mo_lock : ByteArray := prog_14_method_118_code
theorem d_Mo_lock_0 : decode b_Mo_lock 0 = .ok (.iload_n 1, 1) := by decide +kernel
theorem d_Mo_lock_1 : decode b_Mo_lock 1 = .ok (.sipush 1001, 3) := by decide +kernel
theorem d_Mo_lock_4 : decode b_Mo_lock 4 = .ok (.if_icmp .lt 37, 3) := by decide +kernel
theorem d_Mo_lock_7 : decode b_Mo_lock 7 = .ok (.aload_n 0, 1) := by decide +kernel
theorem d_Mo_lock_8 : decode b_Mo_lock 8 = .ok (.getfield 522, 3) := by decide +kernel
theorem d_Mo_lock_11 : decode b_Mo_lock 11 = .ok (.getfield 878, 3) := by decide +kernel
theorem d_Mo_lock_14 : decode b_Mo_lock 14 = .ok (.iload_n 1, 1) := by decide +kernel
theorem d_Mo_lock_15 : decode b_Mo_lock 15 = .ok (.sipush 1001, 3) := by decide +kernel
theorem d_Mo_lock_18 : decode b_Mo_lock 18 = .ok (.isub, 1) := by decide +kernel
theorem d_Mo_lock_19 : decode b_Mo_lock 19 = .ok (.iload_n 2, 1) := by decide +kernel
theorem d_Mo_lock_20 : decode b_Mo_lock 20 = .ok (.iastore, 1) := by decide +kernel
theorem d_Mo_lock_21 : decode b_Mo_lock 21 = .ok (.aload_n 0, 1) := by decide +kernel
theorem d_Mo_lock_22 : decode b_Mo_lock 22 = .ok (.getfield 522, 3) := by decide +kernel
theorem d_Mo_lock_25 : decode b_Mo_lock 25 = .ok (.getfield 881, 3) := by decide +kernel
theorem d_Mo_lock_28 : decode b_Mo_lock 28 = .ok (.iload_n 1, 1) := by decide +kernel
theorem d_Mo_lock_29 : decode b_Mo_lock 29 = .ok (.sipush 1001, 3) := by decide +kernel
theorem d_Mo_lock_32 : decode b_Mo_lock 32 = .ok (.isub, 1) := by decide +kernel
theorem d_Mo_lock_33 : decode b_Mo_lock 33 = .ok (.aload_n 0, 1) := by decide +kernel
theorem d_Mo_lock_34 : decode b_Mo_lock 34 = .ok (.getfield 908, 3) := by decide +kernel
theorem d_Mo_lock_37 : decode b_Mo_lock 37 = .ok (.iastore, 1) := by decide +kernel
theorem d_Mo_lock_38 : decode b_Mo_lock 38 = .ok (.goto 26, 3) := by decide +kernel
theorem d_Mo_lock_41 : decode b_Mo_lock 41 = .ok (.aload_n 0, 1) := by decide +kernel
theorem d_Mo_lock_42 : decode b_Mo_lock 42 = .ok (.getfield 522, 3) := by decide +kernel
theorem d_Mo_lock_45 : decode b_Mo_lock 45 = .ok (.getfield 890, 3) := by decide +kernel
theorem d_Mo_lock_48 : decode b_Mo_lock 48 = .ok (.iload_n 1, 1) := by decide +kernel
theorem d_Mo_lock_49 : decode b_Mo_lock 49 = .ok (.iload_n 2, 1) := by decide +kernel
theorem d_Mo_lock_50 : decode b_Mo_lock 50 = .ok (.iastore, 1) := by decide +kernel
theorem d_Mo_lock_51 : decode b_Mo_lock 51 = .ok (.aload_n 0, 1) := by decide +kernel
theorem d_Mo_lock_52 : decode b_Mo_lock 52 = .ok (.getfield 522, 3) := by decide +kernel
theorem d_Mo_lock_55 : decode b_Mo_lock 55 = .ok (.getfield 1084, 3) := by decide +kernel
theorem d_Mo_lock_58 : decode b_Mo_lock 58 = .ok (.iload_n 1, 1) := by decide +kernel
theorem d_Mo_lock_59 : decode b_Mo_lock 59 = .ok (.aload_n 0, 1) := by decide +kernel
theorem d_Mo_lock_60 : decode b_Mo_lock 60 = .ok (.getfield 908, 3) := by decide +kernel
theorem d_Mo_lock_63 : decode b_Mo_lock 63 = .ok (.iastore, 1) := by decide +kernel
theorem d_Mo_lock_64 : decode b_Mo_lock 64 = .ok (.return_, 1) := by decide +kernel
abbrev ru_Mo_lock : Room := { frames := 0, cells := 0, slots := 0, locals := 0 }
def wj_Mo_lock_64 (y : Ly) (Post : St → Prop) (a0 : Nat) (s_j64 : St) : Prop := Post s_j64
def wu_Mo_lock (y : Ly) (Post : St → Prop) (σ : St) (a0 : Nat) (v1 : Int32) (v2 : Int32) : Prop := ((v1 < 1001 → ∃ b_1 : Nat, sO σ a0 45 = some b_1 ∧ cl b_1 = 13 ∧ xS y σ b_1 48 v1 v2 (fun s_4 : St => ∃ b_5 : Nat, sO s_4 a0 45 = some b_5 ∧ cl b_5 = 13 ∧ xS y s_4 b_5 57 v1 (sV s_4 a0 47) (fun s_8 : St => wj_Mo_lock_64 y Post a0 s_8))) ∧ (¬ (v1 < 1001) → ∃ b_9 : Nat, sO σ a0 45 = some b_9 ∧ cl b_9 = 13 ∧ xS y σ b_9 55 (v1 - 1001) v2 (fun s_12 : St => ∃ b_13 : Nat, sO s_12 a0 45 = some b_13 ∧ cl b_13 = 13 ∧ xS y s_12 b_13 58 (v1 - 1001) (sV s_12 a0 47) (fun s_16 : St => wj_Mo_lock_64 y Post a0 s_16))))
set_option maxHeartbeats 4000000 in
set_option maxRecDepth 100000 in
theorem cu_Mo_lock (l : Launch) (D : va_G) (g : Nat → ClassId) (ad : Nat → Nat) (y : Ly) (Post : St → Prop) (σ : St) (a0 : Nat) (v1 : Int32) (v2 : Int32) (sz : Nat) (h_a0 : cl a0 = 14) (h : wu_Mo_lock y Post σ a0 v1 v2) : Met l y_Mo_lock (mw y_Mo_lock b_Mo_lock 3 (none)) ru_Mo_lock (PC g D [] [.ref (ad a0), .int v1, .int v2] sz (ws g ad y σ)) (va_Qv (fun u : St => Post u) (QW D (va_A (ws g ad y σ) sz) (fun u => ws g ad y u)) (va_A (ws g ad y σ) sz)) 0 0 (va_A (ws g ad y σ) sz) := by
  refine ofV (by decide +kernel) (Nat.le_of_ble_eq_true rfl) ?_
  intro p e s m args below meth c A Q ls H locs G hsz hP hD hS hl hret
  subst hsz
  have hl : lv_has ls 3 [(0, .ref (ad a0)), (1, .int v1), (2, .int v2)] := hl
  unfold wu_Mo_lock at h
  refine lv_iload_n G.1 G.2.1 d_Mo_lock_0 rfl (lv_at hl 1 rfl) ?_
  refine lv_sipush (v := 1001) G.1 G.2.1 d_Mo_lock_1 (by decide) ?_
  have J_64 : ∀ (s_j64 : St) (H : Heap) (locs : List Loc), wj_Mo_lock_64 y Post a0 s_j64 → va_P D CL (ws g ad y s_j64) H → va_D A (ws g ad y s_j64) → va_S A s.heap H locs → ∀ ls, lv_has ls 3 [] → W p l e ru_Mo_lock s m args below meth c H locs 0 0 Q (F0 m 64 ls []) := by
    intro s_j64 H locs h hP hD hS ls hl
    unfold wj_Mo_lock_64 at h
    exact hret _ _ _ _ _ _ ls h hP hD hS (Nat.le_refl _) (Nat.le_refl _) d_Mo_lock_64
  refine lv_icmp_lt (tgt := 41) G.1 G.2.1 d_Mo_lock_4 (by decide) (fun c4 => ?_) (fun c4 => ?_)
  · skip
    have h := h.1 c4
    refine lv_aload_n G.1 G.2.1 d_Mo_lock_41 rfl (lv_at hl 0 rfl) ?_
    obtain ⟨b_1, e_2, c_3, h⟩ := h
    refine ugf (v := .ref (ad b_1)) G hP h_a0 iMo rfl 45 (by decide) rfl q3109 rfl (by show va_rf ((sO σ a0 45).map ad) = _; rw [e_2]; rfl) d_Mo_lock_42 ?_
    refine ugfN (v := .ref (yP y b_1 48)) G hP c_3 iMw rfl 48 (by decide) rfl q2796 rfl rfl d_Mo_lock_45 ?_
    refine lv_iload_n G.1 G.2.1 d_Mo_lock_48 rfl (lv_at hl 1 rfl) ?_
    refine lv_iload_n G.1 G.2.1 d_Mo_lock_49 rfl (lv_at hl 2 rfl) ?_
    refine uiast G hP hD hS (kdp c_3 rfl) (typ c_3 rfl) h d_Mo_lock_50 (fun s_4 H locs h hP hD hS => ?_)
    refine lv_aload_n G.1 G.2.1 d_Mo_lock_51 rfl (lv_at hl 0 rfl) ?_
    obtain ⟨b_5, e_6, c_7, h⟩ := h
    refine ugf (v := .ref (ad b_5)) G hP h_a0 iMo rfl 45 (by decide) rfl q3109 rfl (by show va_rf ((sO s_4 a0 45).map ad) = _; rw [e_6]; rfl) d_Mo_lock_52 ?_
    refine W.eq (g2 := F0 m 55 ls [.ref (ad b_5)]) rfl ?_
    refine ugfN (v := .ref (yP y b_5 57)) G hP c_7 iMw rfl 57 (by decide) rfl q2811 rfl rfl d_Mo_lock_55 ?_
    refine lv_iload_n G.1 G.2.1 d_Mo_lock_58 rfl (lv_at hl 1 rfl) ?_
    refine lv_aload_n G.1 G.2.1 d_Mo_lock_59 rfl (lv_at hl 0 rfl) ?_
    refine ugf (v := .int (sV s_4 a0 47)) G hP h_a0 iMo rfl 47 (by decide) rfl q3111 rfl rfl d_Mo_lock_60 ?_
    refine uiast G hP hD hS (kdp c_7 rfl) (typ c_7 rfl) h d_Mo_lock_63 (fun s_8 H locs h hP hD hS => ?_)
    exact J_64 s_8 H locs h hP hD hS ls (lv_sub hl [] rfl)
  · skip
    have h := h.2 c4
    refine lv_aload_n G.1 G.2.1 d_Mo_lock_7 rfl (lv_at hl 0 rfl) ?_
    obtain ⟨b_9, e_10, c_11, h⟩ := h
    refine ugf (v := .ref (ad b_9)) G hP h_a0 iMo rfl 45 (by decide) rfl q3109 rfl (by show va_rf ((sO σ a0 45).map ad) = _; rw [e_10]; rfl) d_Mo_lock_8 ?_
    refine ugfN (v := .ref (yP y b_9 55)) G hP c_11 iMw rfl 55 (by decide) rfl q2808 rfl rfl d_Mo_lock_11 ?_
    refine lv_iload_n G.1 G.2.1 d_Mo_lock_14 rfl (lv_at hl 1 rfl) ?_
    refine lv_sipush (v := 1001) G.1 G.2.1 d_Mo_lock_15 (by decide) ?_
    refine lv_isub G.1 G.2.1 d_Mo_lock_18 ?_
    refine lv_iload_n G.1 G.2.1 d_Mo_lock_19 rfl (lv_at hl 2 rfl) ?_
    refine uiast G hP hD hS (kdp c_11 rfl) (typ c_11 rfl) h d_Mo_lock_20 (fun s_12 H locs h hP hD hS => ?_)
    refine W.eq (g2 := F0 m 21 ls []) rfl ?_
    refine lv_aload_n G.1 G.2.1 d_Mo_lock_21 rfl (lv_at hl 0 rfl) ?_
    obtain ⟨b_13, e_14, c_15, h⟩ := h
    refine ugf (v := .ref (ad b_13)) G hP h_a0 iMo rfl 45 (by decide) rfl q3109 rfl (by show va_rf ((sO s_12 a0 45).map ad) = _; rw [e_14]; rfl) d_Mo_lock_22 ?_
    refine ugfN (v := .ref (yP y b_13 58)) G hP c_15 iMw rfl 58 (by decide) rfl q2813 rfl rfl d_Mo_lock_25 ?_
    refine lv_iload_n G.1 G.2.1 d_Mo_lock_28 rfl (lv_at hl 1 rfl) ?_
    refine lv_sipush (v := 1001) G.1 G.2.1 d_Mo_lock_29 (by decide) ?_
    refine lv_isub G.1 G.2.1 d_Mo_lock_32 ?_
    refine lv_aload_n G.1 G.2.1 d_Mo_lock_33 rfl (lv_at hl 0 rfl) ?_
    refine ugf (v := .int (sV s_12 a0 47)) G hP h_a0 iMo rfl 47 (by decide) rfl q3111 rfl rfl d_Mo_lock_34 ?_
    refine uiast G hP hD hS (kdp c_15 rfl) (typ c_15 rfl) h d_Mo_lock_37 (fun s_16 H locs h hP hD hS => ?_)
    refine lv_goto (tgt := 64) G.1 G.2.1 d_Mo_lock_38 (by decide) ?_
    exact J_64 s_16 H locs h hP hD hS ls (lv_sub hl [] rfl)
theorem q3947 : Cond.methodLink "ClassWorksModel" 1057 y_Mo_pop ∈ lw_ok := lw_okmem (List.mem_of_getElem? (i := 3947) (by decide +kernel)) rfl
theorem q3950 : Cond.code y_Mo_pop b_Mo_pop 2 (some .int) ∈ lw_ok := lw_okmem (List.mem_of_getElem? (i := 3950) (by decide +kernel)) rfl
theorem q3949 : Cond.instanceMethod y_Mo_pop ∈ lw_ok := lw_okmem (List.mem_of_getElem? (i := 3949) (by decide +kernel)) rfl
theorem q276 : Cond.selects y_Mo_pop.cls y_Mo_pop y_Mo_pop ∈ lw_ok := lw_okmem (List.mem_of_getElem? (i := 276) (by decide +kernel)) rfl
theorem w9_Mo_pop : CWv y_Mo_pop b_Mo_pop 2 (some .int) 1 ∧ Cond.instanceMethod y_Mo_pop ∈ lw_ok ∧ Cond.selects y_Mo_pop.cls y_Mo_pop y_Mo_pop ∈ lw_ok := ⟨⟨q3950, q348, by decide +kernel, by decide +kernel, by decide +kernel⟩, q3949, q276⟩
def y_Mo_goStep : MethodName := ⟨"ClassWorksModel", "goStep", "(III)V"⟩
abbrev b_Mo_goStep : ByteArray := prog_14_method_111_code
theorem d_Mo_goStep_0 : decode b_Mo_goStep 0 = .ok (.iload_n 3, 1) := by decide +kernel
theorem d_Mo_goStep_1 : decode b_Mo_goStep 1 = .ok (.bipush 40, 2) := by decide +kernel
theorem d_Mo_goStep_3 : decode b_Mo_goStep 3 = .ok (.if_icmp .ne 87, 3) := by decide +kernel
theorem d_Mo_goStep_6 : decode b_Mo_goStep 6 = .ok (.aload_n 0, 1) := by decide +kernel
theorem d_Mo_goStep_7 : decode b_Mo_goStep 7 = .ok (.iload_n 1, 1) := by decide +kernel
theorem d_Mo_goStep_8 : decode b_Mo_goStep 8 = .ok (.invokevirtual 1057, 3) := by decide +kernel
theorem d_Mo_goStep_11 : decode b_Mo_goStep 11 = .ok (.i2l, 1) := by decide +kernel
theorem d_Mo_goStep_12 : decode b_Mo_goStep 12 = .ok (.aload_n 0, 1) := by decide +kernel
theorem d_Mo_goStep_13 : decode b_Mo_goStep 13 = .ok (.getfield 522, 3) := by decide +kernel
theorem d_Mo_goStep_16 : decode b_Mo_goStep 16 = .ok (.getfield 677, 3) := by decide +kernel
theorem d_Mo_goStep_19 : decode b_Mo_goStep 19 = .ok (.iload_n 2, 1) := by decide +kernel
theorem d_Mo_goStep_20 : decode b_Mo_goStep 20 = .ok (.iaload, 1) := by decide +kernel
theorem d_Mo_goStep_21 : decode b_Mo_goStep 21 = .ok (.i2l, 1) := by decide +kernel
theorem d_Mo_goStep_22 : decode b_Mo_goStep 22 = .ok (.lsub, 1) := by decide +kernel
theorem d_Mo_goStep_23 : decode b_Mo_goStep 23 = .ok (.lstore 4, 2) := by decide +kernel
theorem d_Mo_goStep_25 : decode b_Mo_goStep 25 = .ok (.aload_n 0, 1) := by decide +kernel
theorem d_Mo_goStep_26 : decode b_Mo_goStep 26 = .ok (.getfield 522, 3) := by decide +kernel
theorem d_Mo_goStep_29 : decode b_Mo_goStep 29 = .ok (.getfield 683, 3) := by decide +kernel
theorem d_Mo_goStep_32 : decode b_Mo_goStep 32 = .ok (.iload_n 2, 1) := by decide +kernel
theorem d_Mo_goStep_33 : decode b_Mo_goStep 33 = .ok (.iaload, 1) := by decide +kernel
theorem d_Mo_goStep_34 : decode b_Mo_goStep 34 = .ok (.iconst 1, 1) := by decide +kernel
theorem d_Mo_goStep_35 : decode b_Mo_goStep 35 = .ok (.isub, 1) := by decide +kernel
theorem d_Mo_goStep_36 : decode b_Mo_goStep 36 = .ok (.istore 6, 2) := by decide +kernel
theorem d_Mo_goStep_38 : decode b_Mo_goStep 38 = .ok (.aload_n 0, 1) := by decide +kernel
theorem d_Mo_goStep_39 : decode b_Mo_goStep 39 = .ok (.getfield 917, 3) := by decide +kernel
theorem d_Mo_goStep_42 : decode b_Mo_goStep 42 = .ok (.getfield 930, 3) := by decide +kernel
theorem d_Mo_goStep_45 : decode b_Mo_goStep 45 = .ok (.iload_n 1, 1) := by decide +kernel
theorem d_Mo_goStep_46 : decode b_Mo_goStep 46 = .ok (.aload_n 0, 1) := by decide +kernel
theorem d_Mo_goStep_47 : decode b_Mo_goStep 47 = .ok (.getfield 522, 3) := by decide +kernel
theorem d_Mo_goStep_50 : decode b_Mo_goStep 50 = .ok (.getfield 689, 3) := by decide +kernel
theorem d_Mo_goStep_53 : decode b_Mo_goStep 53 = .ok (.aload_n 0, 1) := by decide +kernel
theorem d_Mo_goStep_54 : decode b_Mo_goStep 54 = .ok (.getfield 522, 3) := by decide +kernel
theorem d_Mo_goStep_57 : decode b_Mo_goStep 57 = .ok (.getfield 680, 3) := by decide +kernel
theorem d_Mo_goStep_60 : decode b_Mo_goStep 60 = .ok (.iload_n 2, 1) := by decide +kernel
theorem d_Mo_goStep_61 : decode b_Mo_goStep 61 = .ok (.iaload, 1) := by decide +kernel
theorem d_Mo_goStep_62 : decode b_Mo_goStep 62 = .ok (.lload 4, 2) := by decide +kernel
theorem d_Mo_goStep_64 : decode b_Mo_goStep 64 = .ok (.lconst 0, 1) := by decide +kernel
theorem d_Mo_goStep_65 : decode b_Mo_goStep 65 = .ok (.lcmp, 1) := by decide +kernel
theorem d_Mo_goStep_66 : decode b_Mo_goStep 66 = .ok (.ifCond .lt 18, 3) := by decide +kernel
theorem d_Mo_goStep_69 : decode b_Mo_goStep 69 = .ok (.lload 4, 2) := by decide +kernel
theorem d_Mo_goStep_71 : decode b_Mo_goStep 71 = .ok (.iload 6, 2) := by decide +kernel
theorem d_Mo_goStep_73 : decode b_Mo_goStep 73 = .ok (.i2l, 1) := by decide +kernel
theorem d_Mo_goStep_74 : decode b_Mo_goStep 74 = .ok (.lcmp, 1) := by decide +kernel
theorem d_Mo_goStep_75 : decode b_Mo_goStep 75 = .ok (.ifCond .ge 9, 3) := by decide +kernel
theorem d_Mo_goStep_78 : decode b_Mo_goStep 78 = .ok (.lload 4, 2) := by decide +kernel
theorem d_Mo_goStep_80 : decode b_Mo_goStep 80 = .ok (.l2i, 1) := by decide +kernel
theorem d_Mo_goStep_81 : decode b_Mo_goStep 81 = .ok (.goto 5, 3) := by decide +kernel
theorem d_Mo_goStep_84 : decode b_Mo_goStep 84 = .ok (.iload 6, 2) := by decide +kernel
theorem d_Mo_goStep_86 : decode b_Mo_goStep 86 = .ok (.iadd, 1) := by decide +kernel
theorem d_Mo_goStep_87 : decode b_Mo_goStep 87 = .ok (.iaload, 1) := by decide +kernel
theorem d_Mo_goStep_88 : decode b_Mo_goStep 88 = .ok (.iastore, 1) := by decide +kernel
theorem d_Mo_goStep_89 : decode b_Mo_goStep 89 = .ok (.return_, 1) := by decide +kernel
theorem d_Mo_goStep_90 : decode b_Mo_goStep 90 = .ok (.iconst 1, 1) := by decide +kernel
theorem d_Mo_goStep_91 : decode b_Mo_goStep 91 = .ok (.istore 4, 2) := by decide +kernel
theorem d_Mo_goStep_93 : decode b_Mo_goStep 93 = .ok (.iload_n 3, 1) := by decide +kernel
theorem d_Mo_goStep_94 : decode b_Mo_goStep 94 = .ok (.bipush 23, 2) := by decide +kernel
theorem d_Mo_goStep_96 : decode b_Mo_goStep 96 = .ok (.if_icmp .eq 313, 3) := by decide +kernel
theorem d_Mo_goStep_99 : decode b_Mo_goStep 99 = .ok (.aload_n 0, 1) := by decide +kernel
theorem d_Mo_goStep_100 : decode b_Mo_goStep 100 = .ok (.iload_n 1, 1) := by decide +kernel
theorem d_Mo_goStep_101 : decode b_Mo_goStep 101 = .ok (.invokevirtual 1057, 3) := by decide +kernel
theorem d_Mo_goStep_104 : decode b_Mo_goStep 104 = .ok (.istore 5, 2) := by decide +kernel
theorem d_Mo_goStep_106 : decode b_Mo_goStep 106 = .ok (.iload_n 3, 1) := by decide +kernel
theorem d_Mo_goStep_107 : decode b_Mo_goStep 107 = .ok (.bipush 30, 2) := by decide +kernel
theorem d_Mo_goStep_109 : decode b_Mo_goStep 109 = .ok (.if_icmp .lt 9, 3) := by decide +kernel
theorem d_Mo_goStep_112 : decode b_Mo_goStep 112 = .ok (.iload_n 3, 1) := by decide +kernel
theorem d_Mo_goStep_113 : decode b_Mo_goStep 113 = .ok (.bipush 35, 2) := by decide +kernel
theorem d_Mo_goStep_115 : decode b_Mo_goStep 115 = .ok (.if_icmp .le 15, 3) := by decide +kernel
theorem d_Mo_goStep_118 : decode b_Mo_goStep 118 = .ok (.iload_n 3, 1) := by decide +kernel
theorem d_Mo_goStep_119 : decode b_Mo_goStep 119 = .ok (.bipush 38, 2) := by decide +kernel
theorem d_Mo_goStep_121 : decode b_Mo_goStep 121 = .ok (.if_icmp .eq 9, 3) := by decide +kernel
theorem d_Mo_goStep_124 : decode b_Mo_goStep 124 = .ok (.iload_n 3, 1) := by decide +kernel
theorem d_Mo_goStep_125 : decode b_Mo_goStep 125 = .ok (.bipush 39, 2) := by decide +kernel
theorem d_Mo_goStep_127 : decode b_Mo_goStep 127 = .ok (.if_icmp .ne 11, 3) := by decide +kernel
theorem d_Mo_goStep_130 : decode b_Mo_goStep 130 = .ok (.aload_n 0, 1) := by decide +kernel
theorem d_Mo_goStep_131 : decode b_Mo_goStep 131 = .ok (.iload_n 1, 1) := by decide +kernel
theorem d_Mo_goStep_132 : decode b_Mo_goStep 132 = .ok (.invokevirtual 1057, 3) := by decide +kernel
theorem d_Mo_goStep_135 : decode b_Mo_goStep 135 = .ok (.goto 4, 3) := by decide +kernel
theorem d_Mo_goStep_138 : decode b_Mo_goStep 138 = .ok (.iconst 0, 1) := by decide +kernel
theorem d_Mo_goStep_139 : decode b_Mo_goStep 139 = .ok (.istore 6, 2) := by decide +kernel
theorem d_Mo_goStep_141 : decode b_Mo_goStep 141 = .ok (.iload_n 3, 1) := by decide +kernel
theorem d_Mo_goStep_142 : decode b_Mo_goStep 142 = .ok (.tableswitch 253 24 39 #[78, 93, 108, 123, 138, 153, 168, 185, 202, 219, 236, 253, 78, 93, 168, 185], 78) := by decide +kernel
theorem d_Mo_goStep_220 : decode b_Mo_goStep 220 = .ok (.iload 5, 2) := by decide +kernel
theorem d_Mo_goStep_222 : decode b_Mo_goStep 222 = .ok (.ifCond .ne 7, 3) := by decide +kernel
theorem d_Mo_goStep_225 : decode b_Mo_goStep 225 = .ok (.iconst 1, 1) := by decide +kernel
theorem d_Mo_goStep_226 : decode b_Mo_goStep 226 = .ok (.goto 4, 3) := by decide +kernel
theorem d_Mo_goStep_229 : decode b_Mo_goStep 229 = .ok (.iconst 0, 1) := by decide +kernel
theorem d_Mo_goStep_230 : decode b_Mo_goStep 230 = .ok (.istore 4, 2) := by decide +kernel
theorem d_Mo_goStep_232 : decode b_Mo_goStep 232 = .ok (.goto 177, 3) := by decide +kernel
theorem d_Mo_goStep_235 : decode b_Mo_goStep 235 = .ok (.iload 5, 2) := by decide +kernel
theorem d_Mo_goStep_237 : decode b_Mo_goStep 237 = .ok (.ifCond .eq 7, 3) := by decide +kernel
theorem d_Mo_goStep_240 : decode b_Mo_goStep 240 = .ok (.iconst 1, 1) := by decide +kernel
theorem d_Mo_goStep_241 : decode b_Mo_goStep 241 = .ok (.goto 4, 3) := by decide +kernel
theorem d_Mo_goStep_244 : decode b_Mo_goStep 244 = .ok (.iconst 0, 1) := by decide +kernel
theorem d_Mo_goStep_245 : decode b_Mo_goStep 245 = .ok (.istore 4, 2) := by decide +kernel
theorem d_Mo_goStep_247 : decode b_Mo_goStep 247 = .ok (.goto 162, 3) := by decide +kernel
theorem d_Mo_goStep_250 : decode b_Mo_goStep 250 = .ok (.iload 5, 2) := by decide +kernel
theorem d_Mo_goStep_252 : decode b_Mo_goStep 252 = .ok (.ifCond .ge 7, 3) := by decide +kernel
theorem d_Mo_goStep_255 : decode b_Mo_goStep 255 = .ok (.iconst 1, 1) := by decide +kernel
theorem d_Mo_goStep_256 : decode b_Mo_goStep 256 = .ok (.goto 4, 3) := by decide +kernel
theorem d_Mo_goStep_259 : decode b_Mo_goStep 259 = .ok (.iconst 0, 1) := by decide +kernel
theorem d_Mo_goStep_260 : decode b_Mo_goStep 260 = .ok (.istore 4, 2) := by decide +kernel
theorem d_Mo_goStep_262 : decode b_Mo_goStep 262 = .ok (.goto 147, 3) := by decide +kernel
theorem d_Mo_goStep_265 : decode b_Mo_goStep 265 = .ok (.iload 5, 2) := by decide +kernel
theorem d_Mo_goStep_267 : decode b_Mo_goStep 267 = .ok (.ifCond .lt 7, 3) := by decide +kernel
theorem d_Mo_goStep_270 : decode b_Mo_goStep 270 = .ok (.iconst 1, 1) := by decide +kernel
theorem d_Mo_goStep_271 : decode b_Mo_goStep 271 = .ok (.goto 4, 3) := by decide +kernel
theorem d_Mo_goStep_274 : decode b_Mo_goStep 274 = .ok (.iconst 0, 1) := by decide +kernel
theorem d_Mo_goStep_275 : decode b_Mo_goStep 275 = .ok (.istore 4, 2) := by decide +kernel
theorem d_Mo_goStep_277 : decode b_Mo_goStep 277 = .ok (.goto 132, 3) := by decide +kernel
theorem d_Mo_goStep_280 : decode b_Mo_goStep 280 = .ok (.iload 5, 2) := by decide +kernel
theorem d_Mo_goStep_282 : decode b_Mo_goStep 282 = .ok (.ifCond .le 7, 3) := by decide +kernel
theorem d_Mo_goStep_285 : decode b_Mo_goStep 285 = .ok (.iconst 1, 1) := by decide +kernel
theorem d_Mo_goStep_286 : decode b_Mo_goStep 286 = .ok (.goto 4, 3) := by decide +kernel
theorem d_Mo_goStep_289 : decode b_Mo_goStep 289 = .ok (.iconst 0, 1) := by decide +kernel
theorem d_Mo_goStep_290 : decode b_Mo_goStep 290 = .ok (.istore 4, 2) := by decide +kernel
theorem d_Mo_goStep_292 : decode b_Mo_goStep 292 = .ok (.goto 117, 3) := by decide +kernel
theorem d_Mo_goStep_295 : decode b_Mo_goStep 295 = .ok (.iload 5, 2) := by decide +kernel
theorem d_Mo_goStep_297 : decode b_Mo_goStep 297 = .ok (.ifCond .gt 7, 3) := by decide +kernel
theorem d_Mo_goStep_300 : decode b_Mo_goStep 300 = .ok (.iconst 1, 1) := by decide +kernel
theorem d_Mo_goStep_301 : decode b_Mo_goStep 301 = .ok (.goto 4, 3) := by decide +kernel
theorem d_Mo_goStep_304 : decode b_Mo_goStep 304 = .ok (.iconst 0, 1) := by decide +kernel
theorem d_Mo_goStep_305 : decode b_Mo_goStep 305 = .ok (.istore 4, 2) := by decide +kernel
theorem d_Mo_goStep_307 : decode b_Mo_goStep 307 = .ok (.goto 102, 3) := by decide +kernel
theorem d_Mo_goStep_310 : decode b_Mo_goStep 310 = .ok (.iload 6, 2) := by decide +kernel
theorem d_Mo_goStep_312 : decode b_Mo_goStep 312 = .ok (.iload 5, 2) := by decide +kernel
theorem d_Mo_goStep_314 : decode b_Mo_goStep 314 = .ok (.if_icmp .ne 7, 3) := by decide +kernel
theorem d_Mo_goStep_317 : decode b_Mo_goStep 317 = .ok (.iconst 1, 1) := by decide +kernel
theorem d_Mo_goStep_318 : decode b_Mo_goStep 318 = .ok (.goto 4, 3) := by decide +kernel
theorem d_Mo_goStep_321 : decode b_Mo_goStep 321 = .ok (.iconst 0, 1) := by decide +kernel
theorem d_Mo_goStep_322 : decode b_Mo_goStep 322 = .ok (.istore 4, 2) := by decide +kernel
theorem d_Mo_goStep_324 : decode b_Mo_goStep 324 = .ok (.goto 85, 3) := by decide +kernel
theorem d_Mo_goStep_327 : decode b_Mo_goStep 327 = .ok (.iload 6, 2) := by decide +kernel
theorem d_Mo_goStep_329 : decode b_Mo_goStep 329 = .ok (.iload 5, 2) := by decide +kernel
theorem d_Mo_goStep_331 : decode b_Mo_goStep 331 = .ok (.if_icmp .eq 7, 3) := by decide +kernel
theorem d_Mo_goStep_334 : decode b_Mo_goStep 334 = .ok (.iconst 1, 1) := by decide +kernel
theorem d_Mo_goStep_335 : decode b_Mo_goStep 335 = .ok (.goto 4, 3) := by decide +kernel
theorem d_Mo_goStep_338 : decode b_Mo_goStep 338 = .ok (.iconst 0, 1) := by decide +kernel
theorem d_Mo_goStep_339 : decode b_Mo_goStep 339 = .ok (.istore 4, 2) := by decide +kernel
theorem d_Mo_goStep_341 : decode b_Mo_goStep 341 = .ok (.goto 68, 3) := by decide +kernel
theorem d_Mo_goStep_344 : decode b_Mo_goStep 344 = .ok (.iload 6, 2) := by decide +kernel
theorem d_Mo_goStep_346 : decode b_Mo_goStep 346 = .ok (.iload 5, 2) := by decide +kernel
theorem d_Mo_goStep_348 : decode b_Mo_goStep 348 = .ok (.if_icmp .ge 7, 3) := by decide +kernel
theorem d_Mo_goStep_351 : decode b_Mo_goStep 351 = .ok (.iconst 1, 1) := by decide +kernel
theorem d_Mo_goStep_352 : decode b_Mo_goStep 352 = .ok (.goto 4, 3) := by decide +kernel
theorem d_Mo_goStep_355 : decode b_Mo_goStep 355 = .ok (.iconst 0, 1) := by decide +kernel
theorem d_Mo_goStep_356 : decode b_Mo_goStep 356 = .ok (.istore 4, 2) := by decide +kernel
theorem d_Mo_goStep_358 : decode b_Mo_goStep 358 = .ok (.goto 51, 3) := by decide +kernel
theorem d_Mo_goStep_361 : decode b_Mo_goStep 361 = .ok (.iload 6, 2) := by decide +kernel
theorem d_Mo_goStep_363 : decode b_Mo_goStep 363 = .ok (.iload 5, 2) := by decide +kernel
theorem d_Mo_goStep_365 : decode b_Mo_goStep 365 = .ok (.if_icmp .lt 7, 3) := by decide +kernel
theorem d_Mo_goStep_368 : decode b_Mo_goStep 368 = .ok (.iconst 1, 1) := by decide +kernel
theorem d_Mo_goStep_369 : decode b_Mo_goStep 369 = .ok (.goto 4, 3) := by decide +kernel
theorem d_Mo_goStep_372 : decode b_Mo_goStep 372 = .ok (.iconst 0, 1) := by decide +kernel
theorem d_Mo_goStep_373 : decode b_Mo_goStep 373 = .ok (.istore 4, 2) := by decide +kernel
theorem d_Mo_goStep_375 : decode b_Mo_goStep 375 = .ok (.goto 34, 3) := by decide +kernel
theorem d_Mo_goStep_378 : decode b_Mo_goStep 378 = .ok (.iload 6, 2) := by decide +kernel
theorem d_Mo_goStep_380 : decode b_Mo_goStep 380 = .ok (.iload 5, 2) := by decide +kernel
theorem d_Mo_goStep_382 : decode b_Mo_goStep 382 = .ok (.if_icmp .le 7, 3) := by decide +kernel
theorem d_Mo_goStep_385 : decode b_Mo_goStep 385 = .ok (.iconst 1, 1) := by decide +kernel
theorem d_Mo_goStep_386 : decode b_Mo_goStep 386 = .ok (.goto 4, 3) := by decide +kernel
theorem d_Mo_goStep_389 : decode b_Mo_goStep 389 = .ok (.iconst 0, 1) := by decide +kernel
theorem d_Mo_goStep_390 : decode b_Mo_goStep 390 = .ok (.istore 4, 2) := by decide +kernel
theorem d_Mo_goStep_392 : decode b_Mo_goStep 392 = .ok (.goto 17, 3) := by decide +kernel
theorem d_Mo_goStep_395 : decode b_Mo_goStep 395 = .ok (.iload 6, 2) := by decide +kernel
theorem d_Mo_goStep_397 : decode b_Mo_goStep 397 = .ok (.iload 5, 2) := by decide +kernel
theorem d_Mo_goStep_399 : decode b_Mo_goStep 399 = .ok (.if_icmp .gt 7, 3) := by decide +kernel
theorem d_Mo_goStep_402 : decode b_Mo_goStep 402 = .ok (.iconst 1, 1) := by decide +kernel
theorem d_Mo_goStep_403 : decode b_Mo_goStep 403 = .ok (.goto 4, 3) := by decide +kernel
theorem d_Mo_goStep_406 : decode b_Mo_goStep 406 = .ok (.iconst 0, 1) := by decide +kernel
theorem d_Mo_goStep_407 : decode b_Mo_goStep 407 = .ok (.istore 4, 2) := by decide +kernel
theorem d_Mo_goStep_409 : decode b_Mo_goStep 409 = .ok (.aload_n 0, 1) := by decide +kernel
theorem d_Mo_goStep_410 : decode b_Mo_goStep 410 = .ok (.getfield 917, 3) := by decide +kernel
theorem d_Mo_goStep_413 : decode b_Mo_goStep 413 = .ok (.getfield 930, 3) := by decide +kernel
theorem d_Mo_goStep_416 : decode b_Mo_goStep 416 = .ok (.iload_n 1, 1) := by decide +kernel
theorem d_Mo_goStep_417 : decode b_Mo_goStep 417 = .ok (.iload 4, 2) := by decide +kernel
theorem d_Mo_goStep_419 : decode b_Mo_goStep 419 = .ok (.ifCond .eq 15, 3) := by decide +kernel
theorem d_Mo_goStep_422 : decode b_Mo_goStep 422 = .ok (.aload_n 0, 1) := by decide +kernel
theorem d_Mo_goStep_423 : decode b_Mo_goStep 423 = .ok (.getfield 522, 3) := by decide +kernel
theorem d_Mo_goStep_426 : decode b_Mo_goStep 426 = .ok (.getfield 677, 3) := by decide +kernel
theorem d_Mo_goStep_429 : decode b_Mo_goStep 429 = .ok (.iload_n 2, 1) := by decide +kernel
theorem d_Mo_goStep_430 : decode b_Mo_goStep 430 = .ok (.iaload, 1) := by decide +kernel
theorem d_Mo_goStep_431 : decode b_Mo_goStep 431 = .ok (.goto 14, 3) := by decide +kernel
theorem d_Mo_goStep_434 : decode b_Mo_goStep 434 = .ok (.aload_n 0, 1) := by decide +kernel
theorem d_Mo_goStep_435 : decode b_Mo_goStep 435 = .ok (.getfield 917, 3) := by decide +kernel
theorem d_Mo_goStep_438 : decode b_Mo_goStep 438 = .ok (.getfield 930, 3) := by decide +kernel
theorem d_Mo_goStep_441 : decode b_Mo_goStep 441 = .ok (.iload_n 1, 1) := by decide +kernel
theorem d_Mo_goStep_442 : decode b_Mo_goStep 442 = .ok (.iaload, 1) := by decide +kernel
theorem d_Mo_goStep_443 : decode b_Mo_goStep 443 = .ok (.iconst 1, 1) := by decide +kernel
theorem d_Mo_goStep_444 : decode b_Mo_goStep 444 = .ok (.iadd, 1) := by decide +kernel
theorem d_Mo_goStep_445 : decode b_Mo_goStep 445 = .ok (.iastore, 1) := by decide +kernel
theorem d_Mo_goStep_446 : decode b_Mo_goStep 446 = .ok (.return_, 1) := by decide +kernel
abbrev ru_Mo_goStep : Room := { frames := 1, cells := 0, slots := 0, locals := 21 }
def wj_Mo_goStep_445 (y : Ly) (Post : St → Prop) (a0 : Nat) (s_j445 : St) (z0j445 : Nat) (z0j445k : Nat) (z1j445 : Int32) (z2j445 : Int32) : Prop := (kd (cl z0j445) z0j445k = 2 ∧ tyx (cl z0j445) z0j445k = 0) ∧ xS y s_j445 z0j445 z0j445k z1j445 z2j445 (fun s_4 : St => Post s_4)
def wj_Mo_goStep_409 (y : Ly) (Post : St → Prop) (a0 : Nat) (s_j409 : St) (x1j409 : Int32) (x2j409 : Int32) (x4j409 : Int32) : Prop := ∃ b_1 : Nat, sO s_j409 a0 46 = some b_1 ∧ cl b_1 = 12 ∧ ((x4j409 = 0 → ∃ b_5 : Nat, sO s_j409 a0 46 = some b_5 ∧ cl b_5 = 12 ∧ xA y s_j409 b_5 18 x1j409 (fun x_8 : Int32 => wj_Mo_goStep_445 y Post a0 s_j409 b_1 18 x1j409 (x_8 + 1))) ∧ (¬ (x4j409 = 0) → ∃ b_9 : Nat, sO s_j409 a0 45 = some b_9 ∧ cl b_9 = 13 ∧ xA y s_j409 b_9 31 x2j409 (fun x_12 : Int32 => wj_Mo_goStep_445 y Post a0 s_j409 b_1 18 x1j409 x_12)))
def wj_Mo_goStep_230 (y : Ly) (Post : St → Prop) (a0 : Nat) (s_j230 : St) (x1j230 : Int32) (x2j230 : Int32) (z0j230 : Int32) : Prop := wj_Mo_goStep_409 y Post a0 s_j230 x1j230 x2j230 z0j230
def wj_Mo_goStep_245 (y : Ly) (Post : St → Prop) (a0 : Nat) (s_j245 : St) (x1j245 : Int32) (x2j245 : Int32) (z0j245 : Int32) : Prop := wj_Mo_goStep_409 y Post a0 s_j245 x1j245 x2j245 z0j245
def wj_Mo_goStep_260 (y : Ly) (Post : St → Prop) (a0 : Nat) (s_j260 : St) (x1j260 : Int32) (x2j260 : Int32) (z0j260 : Int32) : Prop := wj_Mo_goStep_409 y Post a0 s_j260 x1j260 x2j260 z0j260
def wj_Mo_goStep_275 (y : Ly) (Post : St → Prop) (a0 : Nat) (s_j275 : St) (x1j275 : Int32) (x2j275 : Int32) (z0j275 : Int32) : Prop := wj_Mo_goStep_409 y Post a0 s_j275 x1j275 x2j275 z0j275
def wj_Mo_goStep_290 (y : Ly) (Post : St → Prop) (a0 : Nat) (s_j290 : St) (x1j290 : Int32) (x2j290 : Int32) (z0j290 : Int32) : Prop := wj_Mo_goStep_409 y Post a0 s_j290 x1j290 x2j290 z0j290
def wj_Mo_goStep_305 (y : Ly) (Post : St → Prop) (a0 : Nat) (s_j305 : St) (x1j305 : Int32) (x2j305 : Int32) (z0j305 : Int32) : Prop := wj_Mo_goStep_409 y Post a0 s_j305 x1j305 x2j305 z0j305
def wj_Mo_goStep_322 (y : Ly) (Post : St → Prop) (a0 : Nat) (s_j322 : St) (x1j322 : Int32) (x2j322 : Int32) (z0j322 : Int32) : Prop := wj_Mo_goStep_409 y Post a0 s_j322 x1j322 x2j322 z0j322
def wj_Mo_goStep_339 (y : Ly) (Post : St → Prop) (a0 : Nat) (s_j339 : St) (x1j339 : Int32) (x2j339 : Int32) (z0j339 : Int32) : Prop := wj_Mo_goStep_409 y Post a0 s_j339 x1j339 x2j339 z0j339
def wj_Mo_goStep_356 (y : Ly) (Post : St → Prop) (a0 : Nat) (s_j356 : St) (x1j356 : Int32) (x2j356 : Int32) (z0j356 : Int32) : Prop := wj_Mo_goStep_409 y Post a0 s_j356 x1j356 x2j356 z0j356
def wj_Mo_goStep_373 (y : Ly) (Post : St → Prop) (a0 : Nat) (s_j373 : St) (x1j373 : Int32) (x2j373 : Int32) (z0j373 : Int32) : Prop := wj_Mo_goStep_409 y Post a0 s_j373 x1j373 x2j373 z0j373
def wj_Mo_goStep_390 (y : Ly) (Post : St → Prop) (a0 : Nat) (s_j390 : St) (x1j390 : Int32) (x2j390 : Int32) (z0j390 : Int32) : Prop := wj_Mo_goStep_409 y Post a0 s_j390 x1j390 x2j390 z0j390
def wj_Mo_goStep_407 (y : Ly) (Post : St → Prop) (a0 : Nat) (s_j407 : St) (x1j407 : Int32) (x2j407 : Int32) (z0j407 : Int32) : Prop := wj_Mo_goStep_409 y Post a0 s_j407 x1j407 x2j407 z0j407
def wj_Mo_goStep_139 (y : Ly) (Post : St → Prop) (a0 : Nat) (s_j139 : St) (x1j139 : Int32) (x2j139 : Int32) (x3j139 : Int32) (x5j139 : Int32) (z0j139 : Int32) : Prop := ((x3j139 = 24 → ((¬ x5j139 = 0 → wj_Mo_goStep_230 y Post a0 s_j139 x1j139 x2j139 0) ∧ (x5j139 = 0 → wj_Mo_goStep_230 y Post a0 s_j139 x1j139 x2j139 1))) ∧ (¬ (x3j139 = 24) → ((x3j139 = 25 → ((x5j139 = 0 → wj_Mo_goStep_245 y Post a0 s_j139 x1j139 x2j139 0) ∧ (¬ (x5j139 = 0) → wj_Mo_goStep_245 y Post a0 s_j139 x1j139 x2j139 1))) ∧ (¬ (x3j139 = 25) → ((x3j139 = 26 → ((0 ≤ x5j139 → wj_Mo_goStep_260 y Post a0 s_j139 x1j139 x2j139 0) ∧ (¬ (0 ≤ x5j139) → wj_Mo_goStep_260 y Post a0 s_j139 x1j139 x2j139 1))) ∧ (¬ (x3j139 = 26) → ((x3j139 = 27 → ((x5j139 < 0 → wj_Mo_goStep_275 y Post a0 s_j139 x1j139 x2j139 0) ∧ (¬ (x5j139 < 0) → wj_Mo_goStep_275 y Post a0 s_j139 x1j139 x2j139 1))) ∧ (¬ (x3j139 = 27) → ((x3j139 = 28 → ((x5j139 ≤ 0 → wj_Mo_goStep_290 y Post a0 s_j139 x1j139 x2j139 0) ∧ (¬ (x5j139 ≤ 0) → wj_Mo_goStep_290 y Post a0 s_j139 x1j139 x2j139 1))) ∧ (¬ (x3j139 = 28) → ((x3j139 = 29 → ((0 < x5j139 → wj_Mo_goStep_305 y Post a0 s_j139 x1j139 x2j139 0) ∧ (¬ (0 < x5j139) → wj_Mo_goStep_305 y Post a0 s_j139 x1j139 x2j139 1))) ∧ (¬ (x3j139 = 29) → ((x3j139 = 30 → ((¬ z0j139 = x5j139 → wj_Mo_goStep_322 y Post a0 s_j139 x1j139 x2j139 0) ∧ (z0j139 = x5j139 → wj_Mo_goStep_322 y Post a0 s_j139 x1j139 x2j139 1))) ∧ (¬ (x3j139 = 30) → ((x3j139 = 31 → ((z0j139 = x5j139 → wj_Mo_goStep_339 y Post a0 s_j139 x1j139 x2j139 0) ∧ (¬ (z0j139 = x5j139) → wj_Mo_goStep_339 y Post a0 s_j139 x1j139 x2j139 1))) ∧ (¬ (x3j139 = 31) → ((x3j139 = 32 → ((x5j139 ≤ z0j139 → wj_Mo_goStep_356 y Post a0 s_j139 x1j139 x2j139 0) ∧ (¬ (x5j139 ≤ z0j139) → wj_Mo_goStep_356 y Post a0 s_j139 x1j139 x2j139 1))) ∧ (¬ (x3j139 = 32) → ((x3j139 = 33 → ((z0j139 < x5j139 → wj_Mo_goStep_373 y Post a0 s_j139 x1j139 x2j139 0) ∧ (¬ (z0j139 < x5j139) → wj_Mo_goStep_373 y Post a0 s_j139 x1j139 x2j139 1))) ∧ (¬ (x3j139 = 33) → ((x3j139 = 34 → ((z0j139 ≤ x5j139 → wj_Mo_goStep_390 y Post a0 s_j139 x1j139 x2j139 0) ∧ (¬ (z0j139 ≤ x5j139) → wj_Mo_goStep_390 y Post a0 s_j139 x1j139 x2j139 1))) ∧ (¬ (x3j139 = 34) → ((x3j139 = 35 → ((x5j139 < z0j139 → wj_Mo_goStep_407 y Post a0 s_j139 x1j139 x2j139 0) ∧ (¬ (x5j139 < z0j139) → wj_Mo_goStep_407 y Post a0 s_j139 x1j139 x2j139 1))) ∧ (¬ (x3j139 = 35) → ((x3j139 = 36 → ((¬ x5j139 = 0 → wj_Mo_goStep_230 y Post a0 s_j139 x1j139 x2j139 0) ∧ (x5j139 = 0 → wj_Mo_goStep_230 y Post a0 s_j139 x1j139 x2j139 1))) ∧ (¬ (x3j139 = 36) → ((x3j139 = 37 → ((x5j139 = 0 → wj_Mo_goStep_245 y Post a0 s_j139 x1j139 x2j139 0) ∧ (¬ (x5j139 = 0) → wj_Mo_goStep_245 y Post a0 s_j139 x1j139 x2j139 1))) ∧ (¬ (x3j139 = 37) → ((x3j139 = 38 → ((¬ z0j139 = x5j139 → wj_Mo_goStep_322 y Post a0 s_j139 x1j139 x2j139 0) ∧ (z0j139 = x5j139 → wj_Mo_goStep_322 y Post a0 s_j139 x1j139 x2j139 1))) ∧ (¬ (x3j139 = 38) → ((x3j139 = 39 → ((z0j139 = x5j139 → wj_Mo_goStep_339 y Post a0 s_j139 x1j139 x2j139 0) ∧ (¬ (z0j139 = x5j139) → wj_Mo_goStep_339 y Post a0 s_j139 x1j139 x2j139 1))) ∧ (¬ (x3j139 = 39) → ((x5j139 < z0j139 → wj_Mo_goStep_407 y Post a0 s_j139 x1j139 x2j139 0) ∧ (¬ (x5j139 < z0j139) → wj_Mo_goStep_407 y Post a0 s_j139 x1j139 x2j139 1))))))))))))))))))))))))))))))))))
def wj_Mo_goStep_130 (y : Ly) (Post : St → Prop) (a0 : Nat) (s_j130 : St) (x1j130 : Int32) (x2j130 : Int32) (x3j130 : Int32) (x5j130 : Int32) : Prop := wu_Mo_pop y (fun (s_16 : St) (r_15 : Int32) => wj_Mo_goStep_139 y Post a0 s_16 x1j130 x2j130 x3j130 x5j130 r_15) s_j130 a0 x1j130
def wj_Mo_goStep_118 (y : Ly) (Post : St → Prop) (a0 : Nat) (s_j118 : St) (x1j118 : Int32) (x2j118 : Int32) (x3j118 : Int32) (x5j118 : Int32) : Prop := ((x3j118 = 38 → wj_Mo_goStep_130 y Post a0 s_j118 x1j118 x2j118 x3j118 x5j118) ∧ (¬ (x3j118 = 38) → ((¬ x3j118 = 39 → wj_Mo_goStep_139 y Post a0 s_j118 x1j118 x2j118 x3j118 x5j118 0) ∧ (x3j118 = 39 → wj_Mo_goStep_130 y Post a0 s_j118 x1j118 x2j118 x3j118 x5j118))))
def wj_Mo_goStep_86 (y : Ly) (Post : St → Prop) (a0 : Nat) (s_j86 : St) (z0j86 : Nat) (z0j86k : Nat) (z1j86 : Int32) (z2j86 : Nat) (z2j86k : Nat) (z3j86 : Int32) (z4j86 : Int32) : Prop := (kd (cl z0j86) z0j86k = 2 ∧ tyx (cl z0j86) z0j86k = 0) ∧ (kd (cl z2j86) z2j86k = 2 ∧ tyx (cl z2j86) z2j86k = 0) ∧ xA y s_j86 z2j86 z2j86k (z3j86 + z4j86) (fun x_37 : Int32 => xS y s_j86 z0j86 z0j86k z1j86 x_37 (fun s_38 : St => Post s_38))
def wj_Mo_goStep_84 (y : Ly) (Post : St → Prop) (a0 : Nat) (s_j84 : St) (x6j84 : Int32) (z0j84 : Nat) (z0j84k : Nat) (z1j84 : Int32) (z2j84 : Nat) (z2j84k : Nat) (z3j84 : Int32) : Prop := (kd (cl z0j84) z0j84k = 2 ∧ tyx (cl z0j84) z0j84k = 0) ∧ (kd (cl z2j84) z2j84k = 2 ∧ tyx (cl z2j84) z2j84k = 0) ∧ wj_Mo_goStep_86 y Post a0 s_j84 z0j84 z0j84k z1j84 z2j84 z2j84k z3j84 x6j84
def wu_Mo_goStep (y : Ly) (Post : St → Prop) (σ : St) (a0 : Nat) (v1 : Int32) (v2 : Int32) (v3 : Int32) : Prop := ((¬ v3 = 40 → ((v3 = 23 → wj_Mo_goStep_409 y Post a0 σ v1 v2 1) ∧ (¬ (v3 = 23) → wu_Mo_pop y (fun (s_14 : St) (r_13 : Int32) => ((v3 < 30 → wj_Mo_goStep_118 y Post a0 s_14 v1 v2 v3 r_13) ∧ (¬ (v3 < 30) → ((v3 ≤ 35 → wj_Mo_goStep_130 y Post a0 s_14 v1 v2 v3 r_13) ∧ (¬ (v3 ≤ 35) → wj_Mo_goStep_118 y Post a0 s_14 v1 v2 v3 r_13))))) σ a0 v1))) ∧ (v3 = 40 → wu_Mo_pop y (fun (s_18 : St) (r_17 : Int32) => ∃ b_19 : Nat, sO s_18 a0 45 = some b_19 ∧ cl b_19 = 13 ∧ xA y s_18 b_19 31 v2 (fun x_22 : Int32 => ∃ b_23 : Nat, sO s_18 a0 45 = some b_23 ∧ cl b_23 = 13 ∧ xA y s_18 b_23 33 v2 (fun x_26 : Int32 => ∃ b_27 : Nat, sO s_18 a0 46 = some b_27 ∧ cl b_27 = 12 ∧ ∃ b_30 : Nat, sO s_18 a0 45 = some b_30 ∧ cl b_30 = 13 ∧ ∃ b_33 : Nat, sO s_18 a0 45 = some b_33 ∧ cl b_33 = 13 ∧ xA y s_18 b_33 32 v2 (fun x_36 : Int32 => (((lg_cmp (r_17.toInt64 - x_22.toInt64) 0) < 0 → wj_Mo_goStep_84 y Post a0 s_18 (x_26 - 1) b_27 18 v1 b_30 36 x_36) ∧ (¬ ((lg_cmp (r_17.toInt64 - x_22.toInt64) 0) < 0) → ((0 ≤ (lg_cmp (r_17.toInt64 - x_22.toInt64) ((x_26 - 1).toInt64)) → wj_Mo_goStep_84 y Post a0 s_18 (x_26 - 1) b_27 18 v1 b_30 36 x_36) ∧ (¬ (0 ≤ (lg_cmp (r_17.toInt64 - x_22.toInt64) ((x_26 - 1).toInt64))) → wj_Mo_goStep_86 y Post a0 s_18 b_27 18 v1 b_30 36 x_36 ((r_17.toInt64 - x_22.toInt64).toInt32))))))))) σ a0 v1))
set_option maxHeartbeats 4000000 in
set_option maxRecDepth 100000 in
theorem cu_Mo_goStep (l : Launch) (D : va_G) (g : Nat → ClassId) (ad : Nat → Nat) (y : Ly) (Post : St → Prop) (σ : St) (a0 : Nat) (v1 : Int32) (v2 : Int32) (v3 : Int32) (sz : Nat) (h_a0 : cl a0 = 14) (h : wu_Mo_goStep y Post σ a0 v1 v2 v3) : Met l y_Mo_goStep (mw y_Mo_goStep b_Mo_goStep 7 (none)) ru_Mo_goStep (PC g D [] [.ref (ad a0), .int v1, .int v2, .int v3] sz (ws g ad y σ)) (va_Qv (fun u : St => Post u) (QW D (va_A (ws g ad y σ) sz) (fun u => ws g ad y u)) (va_A (ws g ad y σ) sz)) 0 0 (va_A (ws g ad y σ) sz) := by
  refine ofV (by decide +kernel) (Nat.le_of_ble_eq_true rfl) ?_
  intro p e s m args below meth c A Q ls H locs G hsz hP hD hS hl hret
  subst hsz
  have hl : lv_has ls 7 [(0, .ref (ad a0)), (1, .int v1), (2, .int v2), (3, .int v3)] := hl
  unfold wu_Mo_goStep at h
  refine lv_iload_n G.1 G.2.1 d_Mo_goStep_0 rfl (lv_at hl 3 rfl) ?_
  refine lv_bipush (v := 40) G.1 G.2.1 d_Mo_goStep_1 (by decide) ?_
  refine lv_icmp_ne (tgt := 90) G.1 G.2.1 d_Mo_goStep_3 (by decide) (fun c3 => ?_) (fun c3 => ?_)
  · skip
    have h := h.1 c3
    refine lv_iconst (v := 1) G.1 G.2.1 d_Mo_goStep_90 (by decide) ?_
    refine lv_istore (lv' := [(4, .int 1), (0, .ref (ad a0)), (1, .int v1), (2, .int v2), (3, .int v3)]) G.1 G.2.1 d_Mo_goStep_91 hl (by decide) rfl (fun ls hl => ?_)
    refine lv_iload_n G.1 G.2.1 d_Mo_goStep_93 rfl (lv_at hl 4 rfl) ?_
    refine lv_bipush (v := 23) G.1 G.2.1 d_Mo_goStep_94 (by decide) ?_
    have J_409 : ∀ (s_j409 : St) (x1j409 : Int32) (x2j409 : Int32) (x4j409 : Int32) (H : Heap) (locs : List Loc), wj_Mo_goStep_409 y Post a0 s_j409 x1j409 x2j409 x4j409 → va_P D CL (ws g ad y s_j409) H → va_D A (ws g ad y s_j409) → va_S A s.heap H locs → ∀ ls, lv_has ls 7 [(0, .ref (ad a0)), (1, .int x1j409), (2, .int x2j409), (4, .int x4j409)] → W p l e ru_Mo_goStep s m args below meth c H locs 0 0 Q (F0 m 409 ls []) := by
      intro s_j409 x1j409 x2j409 x4j409 H locs h hP hD hS ls hl
      unfold wj_Mo_goStep_409 at h
      refine lv_aload_n G.1 G.2.1 d_Mo_goStep_409 rfl (lv_at hl 0 rfl) ?_
      obtain ⟨b_1, e_2, c_3, h⟩ := h
      refine ugf (v := .ref (ad b_1)) G hP h_a0 iMo rfl 46 (by decide) rfl q3110 rfl (by show va_rf ((sO s_j409 a0 46).map ad) = _; rw [e_2]; rfl) d_Mo_goStep_410 ?_
      refine ugfN (v := .ref (yP y b_1 18)) G hP c_3 iMr rfl 18 (by decide) rfl q3009 rfl rfl d_Mo_goStep_413 ?_
      refine lv_iload_n G.1 G.2.1 d_Mo_goStep_416 rfl (lv_at hl 1 rfl) ?_
      refine lv_iload G.1 G.2.1 d_Mo_goStep_417 (lv_at hl 3 rfl) ?_
      have J_445 : ∀ (s_j445 : St) (z0j445 : Nat) (z0j445k : Nat) (z1j445 : Int32) (z2j445 : Int32) (H : Heap) (locs : List Loc), wj_Mo_goStep_445 y Post a0 s_j445 z0j445 z0j445k z1j445 z2j445 → va_P D CL (ws g ad y s_j445) H → va_D A (ws g ad y s_j445) → va_S A s.heap H locs → ∀ ls, lv_has ls 7 [] → W p l e ru_Mo_goStep s m args below meth c H locs 0 0 Q (F0 m 445 ls [.int z2j445, .int z1j445, .ref (yP y z0j445 z0j445k)]) := by
        intro s_j445 z0j445 z0j445k z1j445 z2j445 H locs h hP hD hS ls hl
        unfold wj_Mo_goStep_445 at h
        obtain ⟨c_z0j445, h⟩ := h
        refine uiast G hP hD hS c_z0j445.1 c_z0j445.2 h d_Mo_goStep_445 (fun s_4 H locs h hP hD hS => ?_)
        exact hret _ _ _ _ _ _ ls h hP hD hS (Nat.le_refl _) (Nat.le_refl _) d_Mo_goStep_446
      refine lv_if_eq (tgt := 434) G.1 G.2.1 d_Mo_goStep_419 (by decide) (fun c419 => ?_) (fun c419 => ?_)
      · skip
        have h := h.1 c419
        refine lv_aload_n G.1 G.2.1 d_Mo_goStep_434 rfl (lv_at hl 0 rfl) ?_
        obtain ⟨b_5, e_6, c_7, h⟩ := h
        refine ugf (v := .ref (ad b_5)) G hP h_a0 iMo rfl 46 (by decide) rfl q3110 rfl (by show va_rf ((sO s_j409 a0 46).map ad) = _; rw [e_6]; rfl) d_Mo_goStep_435 ?_
        refine ugfN (v := .ref (yP y b_5 18)) G hP c_7 iMr rfl 18 (by decide) rfl q3009 rfl rfl d_Mo_goStep_438 ?_
        refine lv_iload_n G.1 G.2.1 d_Mo_goStep_441 rfl (lv_at hl 1 rfl) ?_
        refine uiald G hP (kdp c_7 rfl) (typ c_7 rfl) h d_Mo_goStep_442 (fun x_8 h => ?_)
        refine W.eq (g2 := F0 m 443 ls [.int x_8, .int x1j409, .ref (yP y b_1 18)]) rfl ?_
        refine lv_iconst (v := 1) G.1 G.2.1 d_Mo_goStep_443 (by decide) ?_
        refine lv_iadd G.1 G.2.1 d_Mo_goStep_444 ?_
        exact J_445 s_j409 b_1 18 x1j409 (x_8 + 1) H locs h hP hD hS ls (lv_sub hl [] rfl)
      · skip
        have h := h.2 c419
        refine lv_aload_n G.1 G.2.1 d_Mo_goStep_422 rfl (lv_at hl 0 rfl) ?_
        obtain ⟨b_9, e_10, c_11, h⟩ := h
        refine ugf (v := .ref (ad b_9)) G hP h_a0 iMo rfl 45 (by decide) rfl q3109 rfl (by show va_rf ((sO s_j409 a0 45).map ad) = _; rw [e_10]; rfl) d_Mo_goStep_423 ?_
        refine ugfN (v := .ref (yP y b_9 31)) G hP c_11 iMw rfl 31 (by decide) rfl q2766 rfl rfl d_Mo_goStep_426 ?_
        refine lv_iload_n G.1 G.2.1 d_Mo_goStep_429 rfl (lv_at hl 2 rfl) ?_
        refine uiald G hP (kdp c_11 rfl) (typ c_11 rfl) h d_Mo_goStep_430 (fun x_12 h => ?_)
        refine W.eq (g2 := F0 m 431 ls [.int x_12, .int x1j409, .ref (yP y b_1 18)]) rfl ?_
        refine lv_goto (tgt := 445) G.1 G.2.1 d_Mo_goStep_431 (by decide) ?_
        exact J_445 s_j409 b_1 18 x1j409 x_12 H locs h hP hD hS ls (lv_sub hl [] rfl)
    refine lv_icmp_eq (tgt := 409) G.1 G.2.1 d_Mo_goStep_96 (by decide) (fun c96 => ?_) (fun c96 => ?_)
    · skip
      have h := h.1 c96
      exact J_409 σ v1 v2 1 H locs h hP hD hS ls (lv_sub hl [1, 2, 3, 0] rfl)
    · skip
      have h := h.2 c96
      refine lv_aload_n G.1 G.2.1 d_Mo_goStep_99 rfl (lv_at hl 1 rfl) ?_
      refine lv_iload_n G.1 G.2.1 d_Mo_goStep_100 rfl (lv_at hl 2 rfl) ?_
      refine ucVi (As := [.int v1]) (rest := []) G hP hD hS (cu_Mo_pop l D g ad y _ σ a0 v1 H.size h_a0 h) w9_Mo_pop q3947 ⟨Nat.le_of_ble_eq_true rfl, Nat.le_of_ble_eq_true rfl⟩ rfl rfl h_a0 (q := (RMo, TMo, 131)) rfl rfl hl.1 rfl (Nat.le_of_ble_eq_true rfl) rfl ⟨Nat.le_refl _, Nat.le_refl _⟩ d_Mo_goStep_101 (fun r_13 s_14 H locs h hP hD hS => ?_)
      refine W.eq (g2 := F0 m 104 ls [.int r_13]) rfl ?_
      refine lv_istore (lv' := [(5, .int r_13), (4, .int 1), (0, .ref (ad a0)), (1, .int v1), (2, .int v2), (3, .int v3)]) G.1 G.2.1 d_Mo_goStep_104 hl (by decide) rfl (fun ls hl => ?_)
      refine lv_iload_n G.1 G.2.1 d_Mo_goStep_106 rfl (lv_at hl 5 rfl) ?_
      refine lv_bipush (v := 30) G.1 G.2.1 d_Mo_goStep_107 (by decide) ?_
      have J_139 : ∀ (s_j139 : St) (x1j139 : Int32) (x2j139 : Int32) (x3j139 : Int32) (x5j139 : Int32) (z0j139 : Int32) (H : Heap) (locs : List Loc), wj_Mo_goStep_139 y Post a0 s_j139 x1j139 x2j139 x3j139 x5j139 z0j139 → va_P D CL (ws g ad y s_j139) H → va_D A (ws g ad y s_j139) → va_S A s.heap H locs → ∀ ls, lv_has ls 7 [(0, .ref (ad a0)), (1, .int x1j139), (2, .int x2j139), (3, .int x3j139), (5, .int x5j139)] → W p l e ru_Mo_goStep s m args below meth c H locs 0 0 Q (F0 m 139 ls [.int z0j139]) := by
        intro s_j139 x1j139 x2j139 x3j139 x5j139 z0j139 H locs h hP hD hS ls hl
        unfold wj_Mo_goStep_139 at h
        refine lv_istore (lv' := [(6, .int z0j139), (0, .ref (ad a0)), (1, .int x1j139), (2, .int x2j139), (3, .int x3j139), (5, .int x5j139)]) G.1 G.2.1 d_Mo_goStep_139 hl (by decide) rfl (fun ls hl => ?_)
        refine lv_iload_n G.1 G.2.1 d_Mo_goStep_141 rfl (lv_at hl 4 rfl) ?_
        by_cases e142_24 : x3j139 = 24
        · skip
          have h := h.1 e142_24
          refine lv_tableIn (off := 78) (tgt := 220) G.1 G.2.1 d_Mo_goStep_142 (by rw [e142_24]; decide) (by rw [e142_24]; decide) (by rw [e142_24]; rfl) (by decide) ?_
          refine lv_iload G.1 G.2.1 d_Mo_goStep_220 (lv_at hl 5 rfl) ?_
          have J_230 : ∀ (s_j230 : St) (x1j230 : Int32) (x2j230 : Int32) (z0j230 : Int32) (H : Heap) (locs : List Loc), wj_Mo_goStep_230 y Post a0 s_j230 x1j230 x2j230 z0j230 → va_P D CL (ws g ad y s_j230) H → va_D A (ws g ad y s_j230) → va_S A s.heap H locs → ∀ ls, lv_has ls 7 [(0, .ref (ad a0)), (1, .int x1j230), (2, .int x2j230)] → W p l e ru_Mo_goStep s m args below meth c H locs 0 0 Q (F0 m 230 ls [.int z0j230]) := by
            intro s_j230 x1j230 x2j230 z0j230 H locs h hP hD hS ls hl
            unfold wj_Mo_goStep_230 at h
            refine lv_istore (lv' := [(4, .int z0j230), (0, .ref (ad a0)), (1, .int x1j230), (2, .int x2j230)]) G.1 G.2.1 d_Mo_goStep_230 hl (by decide) rfl (fun ls hl => ?_)
            refine lv_goto (tgt := 409) G.1 G.2.1 d_Mo_goStep_232 (by decide) ?_
            exact J_409 s_j230 x1j230 x2j230 z0j230 H locs h hP hD hS ls (lv_sub hl [1, 2, 3, 0] rfl)
          refine lv_if_ne (tgt := 229) G.1 G.2.1 d_Mo_goStep_222 (by decide) (fun c222 => ?_) (fun c222 => ?_)
          · skip
            have h := h.1 c222
            refine lv_iconst (v := 0) G.1 G.2.1 d_Mo_goStep_229 (by decide) ?_
            exact J_230 s_j139 x1j139 x2j139 0 H locs h hP hD hS ls (lv_sub hl [1, 2, 3] rfl)
          · skip
            have h := h.2 c222
            refine lv_iconst (v := 1) G.1 G.2.1 d_Mo_goStep_225 (by decide) ?_
            refine lv_goto (tgt := 230) G.1 G.2.1 d_Mo_goStep_226 (by decide) ?_
            exact J_230 s_j139 x1j139 x2j139 1 H locs h hP hD hS ls (lv_sub hl [1, 2, 3] rfl)
        replace h := h.2 e142_24
        by_cases e142_25 : x3j139 = 25
        · skip
          have h := h.1 e142_25
          refine lv_tableIn (off := 93) (tgt := 235) G.1 G.2.1 d_Mo_goStep_142 (by rw [e142_25]; decide) (by rw [e142_25]; decide) (by rw [e142_25]; rfl) (by decide) ?_
          refine lv_iload G.1 G.2.1 d_Mo_goStep_235 (lv_at hl 5 rfl) ?_
          have J_245 : ∀ (s_j245 : St) (x1j245 : Int32) (x2j245 : Int32) (z0j245 : Int32) (H : Heap) (locs : List Loc), wj_Mo_goStep_245 y Post a0 s_j245 x1j245 x2j245 z0j245 → va_P D CL (ws g ad y s_j245) H → va_D A (ws g ad y s_j245) → va_S A s.heap H locs → ∀ ls, lv_has ls 7 [(0, .ref (ad a0)), (1, .int x1j245), (2, .int x2j245)] → W p l e ru_Mo_goStep s m args below meth c H locs 0 0 Q (F0 m 245 ls [.int z0j245]) := by
            intro s_j245 x1j245 x2j245 z0j245 H locs h hP hD hS ls hl
            unfold wj_Mo_goStep_245 at h
            refine lv_istore (lv' := [(4, .int z0j245), (0, .ref (ad a0)), (1, .int x1j245), (2, .int x2j245)]) G.1 G.2.1 d_Mo_goStep_245 hl (by decide) rfl (fun ls hl => ?_)
            refine lv_goto (tgt := 409) G.1 G.2.1 d_Mo_goStep_247 (by decide) ?_
            exact J_409 s_j245 x1j245 x2j245 z0j245 H locs h hP hD hS ls (lv_sub hl [1, 2, 3, 0] rfl)
          refine lv_if_eq (tgt := 244) G.1 G.2.1 d_Mo_goStep_237 (by decide) (fun c237 => ?_) (fun c237 => ?_)
          · skip
            have h := h.1 c237
            refine lv_iconst (v := 0) G.1 G.2.1 d_Mo_goStep_244 (by decide) ?_
            exact J_245 s_j139 x1j139 x2j139 0 H locs h hP hD hS ls (lv_sub hl [1, 2, 3] rfl)
          · skip
            have h := h.2 c237
            refine lv_iconst (v := 1) G.1 G.2.1 d_Mo_goStep_240 (by decide) ?_
            refine lv_goto (tgt := 245) G.1 G.2.1 d_Mo_goStep_241 (by decide) ?_
            exact J_245 s_j139 x1j139 x2j139 1 H locs h hP hD hS ls (lv_sub hl [1, 2, 3] rfl)
        replace h := h.2 e142_25
        by_cases e142_26 : x3j139 = 26
        · skip
          have h := h.1 e142_26
          refine lv_tableIn (off := 108) (tgt := 250) G.1 G.2.1 d_Mo_goStep_142 (by rw [e142_26]; decide) (by rw [e142_26]; decide) (by rw [e142_26]; rfl) (by decide) ?_
          refine lv_iload G.1 G.2.1 d_Mo_goStep_250 (lv_at hl 5 rfl) ?_
          have J_260 : ∀ (s_j260 : St) (x1j260 : Int32) (x2j260 : Int32) (z0j260 : Int32) (H : Heap) (locs : List Loc), wj_Mo_goStep_260 y Post a0 s_j260 x1j260 x2j260 z0j260 → va_P D CL (ws g ad y s_j260) H → va_D A (ws g ad y s_j260) → va_S A s.heap H locs → ∀ ls, lv_has ls 7 [(0, .ref (ad a0)), (1, .int x1j260), (2, .int x2j260)] → W p l e ru_Mo_goStep s m args below meth c H locs 0 0 Q (F0 m 260 ls [.int z0j260]) := by
            intro s_j260 x1j260 x2j260 z0j260 H locs h hP hD hS ls hl
            unfold wj_Mo_goStep_260 at h
            refine lv_istore (lv' := [(4, .int z0j260), (0, .ref (ad a0)), (1, .int x1j260), (2, .int x2j260)]) G.1 G.2.1 d_Mo_goStep_260 hl (by decide) rfl (fun ls hl => ?_)
            refine lv_goto (tgt := 409) G.1 G.2.1 d_Mo_goStep_262 (by decide) ?_
            exact J_409 s_j260 x1j260 x2j260 z0j260 H locs h hP hD hS ls (lv_sub hl [1, 2, 3, 0] rfl)
          refine lv_if_ge (tgt := 259) G.1 G.2.1 d_Mo_goStep_252 (by decide) (fun c252 => ?_) (fun c252 => ?_)
          · skip
            have h := h.1 c252
            refine lv_iconst (v := 0) G.1 G.2.1 d_Mo_goStep_259 (by decide) ?_
            exact J_260 s_j139 x1j139 x2j139 0 H locs h hP hD hS ls (lv_sub hl [1, 2, 3] rfl)
          · skip
            have h := h.2 c252
            refine lv_iconst (v := 1) G.1 G.2.1 d_Mo_goStep_255 (by decide) ?_
            refine lv_goto (tgt := 260) G.1 G.2.1 d_Mo_goStep_256 (by decide) ?_
            exact J_260 s_j139 x1j139 x2j139 1 H locs h hP hD hS ls (lv_sub hl [1, 2, 3] rfl)
        replace h := h.2 e142_26
        by_cases e142_27 : x3j139 = 27
        · skip
          have h := h.1 e142_27
          refine lv_tableIn (off := 123) (tgt := 265) G.1 G.2.1 d_Mo_goStep_142 (by rw [e142_27]; decide) (by rw [e142_27]; decide) (by rw [e142_27]; rfl) (by decide) ?_
          refine lv_iload G.1 G.2.1 d_Mo_goStep_265 (lv_at hl 5 rfl) ?_
          have J_275 : ∀ (s_j275 : St) (x1j275 : Int32) (x2j275 : Int32) (z0j275 : Int32) (H : Heap) (locs : List Loc), wj_Mo_goStep_275 y Post a0 s_j275 x1j275 x2j275 z0j275 → va_P D CL (ws g ad y s_j275) H → va_D A (ws g ad y s_j275) → va_S A s.heap H locs → ∀ ls, lv_has ls 7 [(0, .ref (ad a0)), (1, .int x1j275), (2, .int x2j275)] → W p l e ru_Mo_goStep s m args below meth c H locs 0 0 Q (F0 m 275 ls [.int z0j275]) := by
            intro s_j275 x1j275 x2j275 z0j275 H locs h hP hD hS ls hl
            unfold wj_Mo_goStep_275 at h
            refine lv_istore (lv' := [(4, .int z0j275), (0, .ref (ad a0)), (1, .int x1j275), (2, .int x2j275)]) G.1 G.2.1 d_Mo_goStep_275 hl (by decide) rfl (fun ls hl => ?_)
            refine lv_goto (tgt := 409) G.1 G.2.1 d_Mo_goStep_277 (by decide) ?_
            exact J_409 s_j275 x1j275 x2j275 z0j275 H locs h hP hD hS ls (lv_sub hl [1, 2, 3, 0] rfl)
          refine lv_if_lt (tgt := 274) G.1 G.2.1 d_Mo_goStep_267 (by decide) (fun c267 => ?_) (fun c267 => ?_)
          · skip
            have h := h.1 c267
            refine lv_iconst (v := 0) G.1 G.2.1 d_Mo_goStep_274 (by decide) ?_
            exact J_275 s_j139 x1j139 x2j139 0 H locs h hP hD hS ls (lv_sub hl [1, 2, 3] rfl)
          · skip
            have h := h.2 c267
            refine lv_iconst (v := 1) G.1 G.2.1 d_Mo_goStep_270 (by decide) ?_
            refine lv_goto (tgt := 275) G.1 G.2.1 d_Mo_goStep_271 (by decide) ?_
            exact J_275 s_j139 x1j139 x2j139 1 H locs h hP hD hS ls (lv_sub hl [1, 2, 3] rfl)
        replace h := h.2 e142_27
        by_cases e142_28 : x3j139 = 28
        · skip
          have h := h.1 e142_28
          refine lv_tableIn (off := 138) (tgt := 280) G.1 G.2.1 d_Mo_goStep_142 (by rw [e142_28]; decide) (by rw [e142_28]; decide) (by rw [e142_28]; rfl) (by decide) ?_
          refine lv_iload G.1 G.2.1 d_Mo_goStep_280 (lv_at hl 5 rfl) ?_
          have J_290 : ∀ (s_j290 : St) (x1j290 : Int32) (x2j290 : Int32) (z0j290 : Int32) (H : Heap) (locs : List Loc), wj_Mo_goStep_290 y Post a0 s_j290 x1j290 x2j290 z0j290 → va_P D CL (ws g ad y s_j290) H → va_D A (ws g ad y s_j290) → va_S A s.heap H locs → ∀ ls, lv_has ls 7 [(0, .ref (ad a0)), (1, .int x1j290), (2, .int x2j290)] → W p l e ru_Mo_goStep s m args below meth c H locs 0 0 Q (F0 m 290 ls [.int z0j290]) := by
            intro s_j290 x1j290 x2j290 z0j290 H locs h hP hD hS ls hl
            unfold wj_Mo_goStep_290 at h
            refine lv_istore (lv' := [(4, .int z0j290), (0, .ref (ad a0)), (1, .int x1j290), (2, .int x2j290)]) G.1 G.2.1 d_Mo_goStep_290 hl (by decide) rfl (fun ls hl => ?_)
            refine lv_goto (tgt := 409) G.1 G.2.1 d_Mo_goStep_292 (by decide) ?_
            exact J_409 s_j290 x1j290 x2j290 z0j290 H locs h hP hD hS ls (lv_sub hl [1, 2, 3, 0] rfl)
          refine lv_if_le (tgt := 289) G.1 G.2.1 d_Mo_goStep_282 (by decide) (fun c282 => ?_) (fun c282 => ?_)
          · skip
            have h := h.1 c282
            refine lv_iconst (v := 0) G.1 G.2.1 d_Mo_goStep_289 (by decide) ?_
            exact J_290 s_j139 x1j139 x2j139 0 H locs h hP hD hS ls (lv_sub hl [1, 2, 3] rfl)
          · skip
            have h := h.2 c282
            refine lv_iconst (v := 1) G.1 G.2.1 d_Mo_goStep_285 (by decide) ?_
            refine lv_goto (tgt := 290) G.1 G.2.1 d_Mo_goStep_286 (by decide) ?_
            exact J_290 s_j139 x1j139 x2j139 1 H locs h hP hD hS ls (lv_sub hl [1, 2, 3] rfl)
        replace h := h.2 e142_28
        by_cases e142_29 : x3j139 = 29
        · skip
          have h := h.1 e142_29
          refine lv_tableIn (off := 153) (tgt := 295) G.1 G.2.1 d_Mo_goStep_142 (by rw [e142_29]; decide) (by rw [e142_29]; decide) (by rw [e142_29]; rfl) (by decide) ?_
          refine lv_iload G.1 G.2.1 d_Mo_goStep_295 (lv_at hl 5 rfl) ?_
          have J_305 : ∀ (s_j305 : St) (x1j305 : Int32) (x2j305 : Int32) (z0j305 : Int32) (H : Heap) (locs : List Loc), wj_Mo_goStep_305 y Post a0 s_j305 x1j305 x2j305 z0j305 → va_P D CL (ws g ad y s_j305) H → va_D A (ws g ad y s_j305) → va_S A s.heap H locs → ∀ ls, lv_has ls 7 [(0, .ref (ad a0)), (1, .int x1j305), (2, .int x2j305)] → W p l e ru_Mo_goStep s m args below meth c H locs 0 0 Q (F0 m 305 ls [.int z0j305]) := by
            intro s_j305 x1j305 x2j305 z0j305 H locs h hP hD hS ls hl
            unfold wj_Mo_goStep_305 at h
            refine lv_istore (lv' := [(4, .int z0j305), (0, .ref (ad a0)), (1, .int x1j305), (2, .int x2j305)]) G.1 G.2.1 d_Mo_goStep_305 hl (by decide) rfl (fun ls hl => ?_)
            refine lv_goto (tgt := 409) G.1 G.2.1 d_Mo_goStep_307 (by decide) ?_
            exact J_409 s_j305 x1j305 x2j305 z0j305 H locs h hP hD hS ls (lv_sub hl [1, 2, 3, 0] rfl)
          refine lv_if_gt (tgt := 304) G.1 G.2.1 d_Mo_goStep_297 (by decide) (fun c297 => ?_) (fun c297 => ?_)
          · skip
            have h := h.1 c297
            refine lv_iconst (v := 0) G.1 G.2.1 d_Mo_goStep_304 (by decide) ?_
            exact J_305 s_j139 x1j139 x2j139 0 H locs h hP hD hS ls (lv_sub hl [1, 2, 3] rfl)
          · skip
            have h := h.2 c297
            refine lv_iconst (v := 1) G.1 G.2.1 d_Mo_goStep_300 (by decide) ?_
            refine lv_goto (tgt := 305) G.1 G.2.1 d_Mo_goStep_301 (by decide) ?_
            exact J_305 s_j139 x1j139 x2j139 1 H locs h hP hD hS ls (lv_sub hl [1, 2, 3] rfl)
        replace h := h.2 e142_29
        by_cases e142_30 : x3j139 = 30
        · skip
          have h := h.1 e142_30
          refine lv_tableIn (off := 168) (tgt := 310) G.1 G.2.1 d_Mo_goStep_142 (by rw [e142_30]; decide) (by rw [e142_30]; decide) (by rw [e142_30]; rfl) (by decide) ?_
          refine lv_iload G.1 G.2.1 d_Mo_goStep_310 (lv_at hl 0 rfl) ?_
          refine lv_iload G.1 G.2.1 d_Mo_goStep_312 (lv_at hl 5 rfl) ?_
          have J_322 : ∀ (s_j322 : St) (x1j322 : Int32) (x2j322 : Int32) (z0j322 : Int32) (H : Heap) (locs : List Loc), wj_Mo_goStep_322 y Post a0 s_j322 x1j322 x2j322 z0j322 → va_P D CL (ws g ad y s_j322) H → va_D A (ws g ad y s_j322) → va_S A s.heap H locs → ∀ ls, lv_has ls 7 [(0, .ref (ad a0)), (1, .int x1j322), (2, .int x2j322)] → W p l e ru_Mo_goStep s m args below meth c H locs 0 0 Q (F0 m 322 ls [.int z0j322]) := by
            intro s_j322 x1j322 x2j322 z0j322 H locs h hP hD hS ls hl
            unfold wj_Mo_goStep_322 at h
            refine lv_istore (lv' := [(4, .int z0j322), (0, .ref (ad a0)), (1, .int x1j322), (2, .int x2j322)]) G.1 G.2.1 d_Mo_goStep_322 hl (by decide) rfl (fun ls hl => ?_)
            refine lv_goto (tgt := 409) G.1 G.2.1 d_Mo_goStep_324 (by decide) ?_
            exact J_409 s_j322 x1j322 x2j322 z0j322 H locs h hP hD hS ls (lv_sub hl [1, 2, 3, 0] rfl)
          refine lv_icmp_ne (tgt := 321) G.1 G.2.1 d_Mo_goStep_314 (by decide) (fun c314 => ?_) (fun c314 => ?_)
          · skip
            have h := h.1 c314
            refine lv_iconst (v := 0) G.1 G.2.1 d_Mo_goStep_321 (by decide) ?_
            exact J_322 s_j139 x1j139 x2j139 0 H locs h hP hD hS ls (lv_sub hl [1, 2, 3] rfl)
          · skip
            have h := h.2 c314
            refine lv_iconst (v := 1) G.1 G.2.1 d_Mo_goStep_317 (by decide) ?_
            refine lv_goto (tgt := 322) G.1 G.2.1 d_Mo_goStep_318 (by decide) ?_
            exact J_322 s_j139 x1j139 x2j139 1 H locs h hP hD hS ls (lv_sub hl [1, 2, 3] rfl)
        replace h := h.2 e142_30
        by_cases e142_31 : x3j139 = 31
        · skip
          have h := h.1 e142_31
          refine lv_tableIn (off := 185) (tgt := 327) G.1 G.2.1 d_Mo_goStep_142 (by rw [e142_31]; decide) (by rw [e142_31]; decide) (by rw [e142_31]; rfl) (by decide) ?_
          refine lv_iload G.1 G.2.1 d_Mo_goStep_327 (lv_at hl 0 rfl) ?_
          refine lv_iload G.1 G.2.1 d_Mo_goStep_329 (lv_at hl 5 rfl) ?_
          have J_339 : ∀ (s_j339 : St) (x1j339 : Int32) (x2j339 : Int32) (z0j339 : Int32) (H : Heap) (locs : List Loc), wj_Mo_goStep_339 y Post a0 s_j339 x1j339 x2j339 z0j339 → va_P D CL (ws g ad y s_j339) H → va_D A (ws g ad y s_j339) → va_S A s.heap H locs → ∀ ls, lv_has ls 7 [(0, .ref (ad a0)), (1, .int x1j339), (2, .int x2j339)] → W p l e ru_Mo_goStep s m args below meth c H locs 0 0 Q (F0 m 339 ls [.int z0j339]) := by
            intro s_j339 x1j339 x2j339 z0j339 H locs h hP hD hS ls hl
            unfold wj_Mo_goStep_339 at h
            refine lv_istore (lv' := [(4, .int z0j339), (0, .ref (ad a0)), (1, .int x1j339), (2, .int x2j339)]) G.1 G.2.1 d_Mo_goStep_339 hl (by decide) rfl (fun ls hl => ?_)
            refine lv_goto (tgt := 409) G.1 G.2.1 d_Mo_goStep_341 (by decide) ?_
            exact J_409 s_j339 x1j339 x2j339 z0j339 H locs h hP hD hS ls (lv_sub hl [1, 2, 3, 0] rfl)
          refine lv_icmp_eq (tgt := 338) G.1 G.2.1 d_Mo_goStep_331 (by decide) (fun c331 => ?_) (fun c331 => ?_)
          · skip
            have h := h.1 c331
            refine lv_iconst (v := 0) G.1 G.2.1 d_Mo_goStep_338 (by decide) ?_
            exact J_339 s_j139 x1j139 x2j139 0 H locs h hP hD hS ls (lv_sub hl [1, 2, 3] rfl)
          · skip
            have h := h.2 c331
            refine lv_iconst (v := 1) G.1 G.2.1 d_Mo_goStep_334 (by decide) ?_
            refine lv_goto (tgt := 339) G.1 G.2.1 d_Mo_goStep_335 (by decide) ?_
            exact J_339 s_j139 x1j139 x2j139 1 H locs h hP hD hS ls (lv_sub hl [1, 2, 3] rfl)
        replace h := h.2 e142_31
        by_cases e142_32 : x3j139 = 32
        · skip
          have h := h.1 e142_32
          refine lv_tableIn (off := 202) (tgt := 344) G.1 G.2.1 d_Mo_goStep_142 (by rw [e142_32]; decide) (by rw [e142_32]; decide) (by rw [e142_32]; rfl) (by decide) ?_
          refine lv_iload G.1 G.2.1 d_Mo_goStep_344 (lv_at hl 0 rfl) ?_
          refine lv_iload G.1 G.2.1 d_Mo_goStep_346 (lv_at hl 5 rfl) ?_
          have J_356 : ∀ (s_j356 : St) (x1j356 : Int32) (x2j356 : Int32) (z0j356 : Int32) (H : Heap) (locs : List Loc), wj_Mo_goStep_356 y Post a0 s_j356 x1j356 x2j356 z0j356 → va_P D CL (ws g ad y s_j356) H → va_D A (ws g ad y s_j356) → va_S A s.heap H locs → ∀ ls, lv_has ls 7 [(0, .ref (ad a0)), (1, .int x1j356), (2, .int x2j356)] → W p l e ru_Mo_goStep s m args below meth c H locs 0 0 Q (F0 m 356 ls [.int z0j356]) := by
            intro s_j356 x1j356 x2j356 z0j356 H locs h hP hD hS ls hl
            unfold wj_Mo_goStep_356 at h
            refine lv_istore (lv' := [(4, .int z0j356), (0, .ref (ad a0)), (1, .int x1j356), (2, .int x2j356)]) G.1 G.2.1 d_Mo_goStep_356 hl (by decide) rfl (fun ls hl => ?_)
            refine lv_goto (tgt := 409) G.1 G.2.1 d_Mo_goStep_358 (by decide) ?_
            exact J_409 s_j356 x1j356 x2j356 z0j356 H locs h hP hD hS ls (lv_sub hl [1, 2, 3, 0] rfl)
          refine lv_icmp_ge (tgt := 355) G.1 G.2.1 d_Mo_goStep_348 (by decide) (fun c348 => ?_) (fun c348 => ?_)
          · skip
            have h := h.1 c348
            refine lv_iconst (v := 0) G.1 G.2.1 d_Mo_goStep_355 (by decide) ?_
            exact J_356 s_j139 x1j139 x2j139 0 H locs h hP hD hS ls (lv_sub hl [1, 2, 3] rfl)
          · skip
            have h := h.2 c348
            refine lv_iconst (v := 1) G.1 G.2.1 d_Mo_goStep_351 (by decide) ?_
            refine lv_goto (tgt := 356) G.1 G.2.1 d_Mo_goStep_352 (by decide) ?_
            exact J_356 s_j139 x1j139 x2j139 1 H locs h hP hD hS ls (lv_sub hl [1, 2, 3] rfl)
        replace h := h.2 e142_32
        by_cases e142_33 : x3j139 = 33
        · skip
          have h := h.1 e142_33
          refine lv_tableIn (off := 219) (tgt := 361) G.1 G.2.1 d_Mo_goStep_142 (by rw [e142_33]; decide) (by rw [e142_33]; decide) (by rw [e142_33]; rfl) (by decide) ?_
          refine lv_iload G.1 G.2.1 d_Mo_goStep_361 (lv_at hl 0 rfl) ?_
          refine lv_iload G.1 G.2.1 d_Mo_goStep_363 (lv_at hl 5 rfl) ?_
          have J_373 : ∀ (s_j373 : St) (x1j373 : Int32) (x2j373 : Int32) (z0j373 : Int32) (H : Heap) (locs : List Loc), wj_Mo_goStep_373 y Post a0 s_j373 x1j373 x2j373 z0j373 → va_P D CL (ws g ad y s_j373) H → va_D A (ws g ad y s_j373) → va_S A s.heap H locs → ∀ ls, lv_has ls 7 [(0, .ref (ad a0)), (1, .int x1j373), (2, .int x2j373)] → W p l e ru_Mo_goStep s m args below meth c H locs 0 0 Q (F0 m 373 ls [.int z0j373]) := by
            intro s_j373 x1j373 x2j373 z0j373 H locs h hP hD hS ls hl
            unfold wj_Mo_goStep_373 at h
            refine lv_istore (lv' := [(4, .int z0j373), (0, .ref (ad a0)), (1, .int x1j373), (2, .int x2j373)]) G.1 G.2.1 d_Mo_goStep_373 hl (by decide) rfl (fun ls hl => ?_)
            refine lv_goto (tgt := 409) G.1 G.2.1 d_Mo_goStep_375 (by decide) ?_
            exact J_409 s_j373 x1j373 x2j373 z0j373 H locs h hP hD hS ls (lv_sub hl [1, 2, 3, 0] rfl)
          refine lv_icmp_lt (tgt := 372) G.1 G.2.1 d_Mo_goStep_365 (by decide) (fun c365 => ?_) (fun c365 => ?_)
          · skip
            have h := h.1 c365
            refine lv_iconst (v := 0) G.1 G.2.1 d_Mo_goStep_372 (by decide) ?_
            exact J_373 s_j139 x1j139 x2j139 0 H locs h hP hD hS ls (lv_sub hl [1, 2, 3] rfl)
          · skip
            have h := h.2 c365
            refine lv_iconst (v := 1) G.1 G.2.1 d_Mo_goStep_368 (by decide) ?_
            refine lv_goto (tgt := 373) G.1 G.2.1 d_Mo_goStep_369 (by decide) ?_
            exact J_373 s_j139 x1j139 x2j139 1 H locs h hP hD hS ls (lv_sub hl [1, 2, 3] rfl)
        replace h := h.2 e142_33
        by_cases e142_34 : x3j139 = 34
        · skip
          have h := h.1 e142_34
          refine lv_tableIn (off := 236) (tgt := 378) G.1 G.2.1 d_Mo_goStep_142 (by rw [e142_34]; decide) (by rw [e142_34]; decide) (by rw [e142_34]; rfl) (by decide) ?_
          refine lv_iload G.1 G.2.1 d_Mo_goStep_378 (lv_at hl 0 rfl) ?_
          refine lv_iload G.1 G.2.1 d_Mo_goStep_380 (lv_at hl 5 rfl) ?_
          have J_390 : ∀ (s_j390 : St) (x1j390 : Int32) (x2j390 : Int32) (z0j390 : Int32) (H : Heap) (locs : List Loc), wj_Mo_goStep_390 y Post a0 s_j390 x1j390 x2j390 z0j390 → va_P D CL (ws g ad y s_j390) H → va_D A (ws g ad y s_j390) → va_S A s.heap H locs → ∀ ls, lv_has ls 7 [(0, .ref (ad a0)), (1, .int x1j390), (2, .int x2j390)] → W p l e ru_Mo_goStep s m args below meth c H locs 0 0 Q (F0 m 390 ls [.int z0j390]) := by
            intro s_j390 x1j390 x2j390 z0j390 H locs h hP hD hS ls hl
            unfold wj_Mo_goStep_390 at h
            refine lv_istore (lv' := [(4, .int z0j390), (0, .ref (ad a0)), (1, .int x1j390), (2, .int x2j390)]) G.1 G.2.1 d_Mo_goStep_390 hl (by decide) rfl (fun ls hl => ?_)
            refine lv_goto (tgt := 409) G.1 G.2.1 d_Mo_goStep_392 (by decide) ?_
            exact J_409 s_j390 x1j390 x2j390 z0j390 H locs h hP hD hS ls (lv_sub hl [1, 2, 3, 0] rfl)
          refine lv_icmp_le (tgt := 389) G.1 G.2.1 d_Mo_goStep_382 (by decide) (fun c382 => ?_) (fun c382 => ?_)
          · skip
            have h := h.1 c382
            refine lv_iconst (v := 0) G.1 G.2.1 d_Mo_goStep_389 (by decide) ?_
            exact J_390 s_j139 x1j139 x2j139 0 H locs h hP hD hS ls (lv_sub hl [1, 2, 3] rfl)
          · skip
            have h := h.2 c382
            refine lv_iconst (v := 1) G.1 G.2.1 d_Mo_goStep_385 (by decide) ?_
            refine lv_goto (tgt := 390) G.1 G.2.1 d_Mo_goStep_386 (by decide) ?_
            exact J_390 s_j139 x1j139 x2j139 1 H locs h hP hD hS ls (lv_sub hl [1, 2, 3] rfl)
        replace h := h.2 e142_34
        by_cases e142_35 : x3j139 = 35
        · skip
          have h := h.1 e142_35
          refine lv_tableIn (off := 253) (tgt := 395) G.1 G.2.1 d_Mo_goStep_142 (by rw [e142_35]; decide) (by rw [e142_35]; decide) (by rw [e142_35]; rfl) (by decide) ?_
          refine lv_iload G.1 G.2.1 d_Mo_goStep_395 (lv_at hl 0 rfl) ?_
          refine lv_iload G.1 G.2.1 d_Mo_goStep_397 (lv_at hl 5 rfl) ?_
          have J_407 : ∀ (s_j407 : St) (x1j407 : Int32) (x2j407 : Int32) (z0j407 : Int32) (H : Heap) (locs : List Loc), wj_Mo_goStep_407 y Post a0 s_j407 x1j407 x2j407 z0j407 → va_P D CL (ws g ad y s_j407) H → va_D A (ws g ad y s_j407) → va_S A s.heap H locs → ∀ ls, lv_has ls 7 [(0, .ref (ad a0)), (1, .int x1j407), (2, .int x2j407)] → W p l e ru_Mo_goStep s m args below meth c H locs 0 0 Q (F0 m 407 ls [.int z0j407]) := by
            intro s_j407 x1j407 x2j407 z0j407 H locs h hP hD hS ls hl
            unfold wj_Mo_goStep_407 at h
            refine lv_istore (lv' := [(4, .int z0j407), (0, .ref (ad a0)), (1, .int x1j407), (2, .int x2j407)]) G.1 G.2.1 d_Mo_goStep_407 hl (by decide) rfl (fun ls hl => ?_)
            exact J_409 s_j407 x1j407 x2j407 z0j407 H locs h hP hD hS ls (lv_sub hl [1, 2, 3, 0] rfl)
          refine lv_icmp_gt (tgt := 406) G.1 G.2.1 d_Mo_goStep_399 (by decide) (fun c399 => ?_) (fun c399 => ?_)
          · skip
            have h := h.1 c399
            refine lv_iconst (v := 0) G.1 G.2.1 d_Mo_goStep_406 (by decide) ?_
            exact J_407 s_j139 x1j139 x2j139 0 H locs h hP hD hS ls (lv_sub hl [1, 2, 3] rfl)
          · skip
            have h := h.2 c399
            refine lv_iconst (v := 1) G.1 G.2.1 d_Mo_goStep_402 (by decide) ?_
            refine lv_goto (tgt := 407) G.1 G.2.1 d_Mo_goStep_403 (by decide) ?_
            exact J_407 s_j139 x1j139 x2j139 1 H locs h hP hD hS ls (lv_sub hl [1, 2, 3] rfl)
        replace h := h.2 e142_35
        by_cases e142_36 : x3j139 = 36
        · skip
          have h := h.1 e142_36
          refine lv_tableIn (off := 78) (tgt := 220) G.1 G.2.1 d_Mo_goStep_142 (by rw [e142_36]; decide) (by rw [e142_36]; decide) (by rw [e142_36]; rfl) (by decide) ?_
          refine lv_iload G.1 G.2.1 d_Mo_goStep_220 (lv_at hl 5 rfl) ?_
          have J_230 : ∀ (s_j230 : St) (x1j230 : Int32) (x2j230 : Int32) (z0j230 : Int32) (H : Heap) (locs : List Loc), wj_Mo_goStep_230 y Post a0 s_j230 x1j230 x2j230 z0j230 → va_P D CL (ws g ad y s_j230) H → va_D A (ws g ad y s_j230) → va_S A s.heap H locs → ∀ ls, lv_has ls 7 [(0, .ref (ad a0)), (1, .int x1j230), (2, .int x2j230)] → W p l e ru_Mo_goStep s m args below meth c H locs 0 0 Q (F0 m 230 ls [.int z0j230]) := by
            intro s_j230 x1j230 x2j230 z0j230 H locs h hP hD hS ls hl
            unfold wj_Mo_goStep_230 at h
            refine lv_istore (lv' := [(4, .int z0j230), (0, .ref (ad a0)), (1, .int x1j230), (2, .int x2j230)]) G.1 G.2.1 d_Mo_goStep_230 hl (by decide) rfl (fun ls hl => ?_)
            refine lv_goto (tgt := 409) G.1 G.2.1 d_Mo_goStep_232 (by decide) ?_
            exact J_409 s_j230 x1j230 x2j230 z0j230 H locs h hP hD hS ls (lv_sub hl [1, 2, 3, 0] rfl)
          refine lv_if_ne (tgt := 229) G.1 G.2.1 d_Mo_goStep_222 (by decide) (fun c222 => ?_) (fun c222 => ?_)
          · skip
            have h := h.1 c222
            refine lv_iconst (v := 0) G.1 G.2.1 d_Mo_goStep_229 (by decide) ?_
            exact J_230 s_j139 x1j139 x2j139 0 H locs h hP hD hS ls (lv_sub hl [1, 2, 3] rfl)
          · skip
            have h := h.2 c222
            refine lv_iconst (v := 1) G.1 G.2.1 d_Mo_goStep_225 (by decide) ?_
            refine lv_goto (tgt := 230) G.1 G.2.1 d_Mo_goStep_226 (by decide) ?_
            exact J_230 s_j139 x1j139 x2j139 1 H locs h hP hD hS ls (lv_sub hl [1, 2, 3] rfl)
        replace h := h.2 e142_36
        by_cases e142_37 : x3j139 = 37
        · skip
          have h := h.1 e142_37
          refine lv_tableIn (off := 93) (tgt := 235) G.1 G.2.1 d_Mo_goStep_142 (by rw [e142_37]; decide) (by rw [e142_37]; decide) (by rw [e142_37]; rfl) (by decide) ?_
          refine lv_iload G.1 G.2.1 d_Mo_goStep_235 (lv_at hl 5 rfl) ?_
          have J_245 : ∀ (s_j245 : St) (x1j245 : Int32) (x2j245 : Int32) (z0j245 : Int32) (H : Heap) (locs : List Loc), wj_Mo_goStep_245 y Post a0 s_j245 x1j245 x2j245 z0j245 → va_P D CL (ws g ad y s_j245) H → va_D A (ws g ad y s_j245) → va_S A s.heap H locs → ∀ ls, lv_has ls 7 [(0, .ref (ad a0)), (1, .int x1j245), (2, .int x2j245)] → W p l e ru_Mo_goStep s m args below meth c H locs 0 0 Q (F0 m 245 ls [.int z0j245]) := by
            intro s_j245 x1j245 x2j245 z0j245 H locs h hP hD hS ls hl
            unfold wj_Mo_goStep_245 at h
            refine lv_istore (lv' := [(4, .int z0j245), (0, .ref (ad a0)), (1, .int x1j245), (2, .int x2j245)]) G.1 G.2.1 d_Mo_goStep_245 hl (by decide) rfl (fun ls hl => ?_)
            refine lv_goto (tgt := 409) G.1 G.2.1 d_Mo_goStep_247 (by decide) ?_
            exact J_409 s_j245 x1j245 x2j245 z0j245 H locs h hP hD hS ls (lv_sub hl [1, 2, 3, 0] rfl)
          refine lv_if_eq (tgt := 244) G.1 G.2.1 d_Mo_goStep_237 (by decide) (fun c237 => ?_) (fun c237 => ?_)
          · skip
            have h := h.1 c237
            refine lv_iconst (v := 0) G.1 G.2.1 d_Mo_goStep_244 (by decide) ?_
            exact J_245 s_j139 x1j139 x2j139 0 H locs h hP hD hS ls (lv_sub hl [1, 2, 3] rfl)
          · skip
            have h := h.2 c237
            refine lv_iconst (v := 1) G.1 G.2.1 d_Mo_goStep_240 (by decide) ?_
            refine lv_goto (tgt := 245) G.1 G.2.1 d_Mo_goStep_241 (by decide) ?_
            exact J_245 s_j139 x1j139 x2j139 1 H locs h hP hD hS ls (lv_sub hl [1, 2, 3] rfl)
        replace h := h.2 e142_37
        by_cases e142_38 : x3j139 = 38
        · skip
          have h := h.1 e142_38
          refine lv_tableIn (off := 168) (tgt := 310) G.1 G.2.1 d_Mo_goStep_142 (by rw [e142_38]; decide) (by rw [e142_38]; decide) (by rw [e142_38]; rfl) (by decide) ?_
          refine lv_iload G.1 G.2.1 d_Mo_goStep_310 (lv_at hl 0 rfl) ?_
          refine lv_iload G.1 G.2.1 d_Mo_goStep_312 (lv_at hl 5 rfl) ?_
          have J_322 : ∀ (s_j322 : St) (x1j322 : Int32) (x2j322 : Int32) (z0j322 : Int32) (H : Heap) (locs : List Loc), wj_Mo_goStep_322 y Post a0 s_j322 x1j322 x2j322 z0j322 → va_P D CL (ws g ad y s_j322) H → va_D A (ws g ad y s_j322) → va_S A s.heap H locs → ∀ ls, lv_has ls 7 [(0, .ref (ad a0)), (1, .int x1j322), (2, .int x2j322)] → W p l e ru_Mo_goStep s m args below meth c H locs 0 0 Q (F0 m 322 ls [.int z0j322]) := by
            intro s_j322 x1j322 x2j322 z0j322 H locs h hP hD hS ls hl
            unfold wj_Mo_goStep_322 at h
            refine lv_istore (lv' := [(4, .int z0j322), (0, .ref (ad a0)), (1, .int x1j322), (2, .int x2j322)]) G.1 G.2.1 d_Mo_goStep_322 hl (by decide) rfl (fun ls hl => ?_)
            refine lv_goto (tgt := 409) G.1 G.2.1 d_Mo_goStep_324 (by decide) ?_
            exact J_409 s_j322 x1j322 x2j322 z0j322 H locs h hP hD hS ls (lv_sub hl [1, 2, 3, 0] rfl)
          refine lv_icmp_ne (tgt := 321) G.1 G.2.1 d_Mo_goStep_314 (by decide) (fun c314 => ?_) (fun c314 => ?_)
          · skip
            have h := h.1 c314
            refine lv_iconst (v := 0) G.1 G.2.1 d_Mo_goStep_321 (by decide) ?_
            exact J_322 s_j139 x1j139 x2j139 0 H locs h hP hD hS ls (lv_sub hl [1, 2, 3] rfl)
          · skip
            have h := h.2 c314
            refine lv_iconst (v := 1) G.1 G.2.1 d_Mo_goStep_317 (by decide) ?_
            refine lv_goto (tgt := 322) G.1 G.2.1 d_Mo_goStep_318 (by decide) ?_
            exact J_322 s_j139 x1j139 x2j139 1 H locs h hP hD hS ls (lv_sub hl [1, 2, 3] rfl)
        replace h := h.2 e142_38
        by_cases e142_39 : x3j139 = 39
        · skip
          have h := h.1 e142_39
          refine lv_tableIn (off := 185) (tgt := 327) G.1 G.2.1 d_Mo_goStep_142 (by rw [e142_39]; decide) (by rw [e142_39]; decide) (by rw [e142_39]; rfl) (by decide) ?_
          refine lv_iload G.1 G.2.1 d_Mo_goStep_327 (lv_at hl 0 rfl) ?_
          refine lv_iload G.1 G.2.1 d_Mo_goStep_329 (lv_at hl 5 rfl) ?_
          have J_339 : ∀ (s_j339 : St) (x1j339 : Int32) (x2j339 : Int32) (z0j339 : Int32) (H : Heap) (locs : List Loc), wj_Mo_goStep_339 y Post a0 s_j339 x1j339 x2j339 z0j339 → va_P D CL (ws g ad y s_j339) H → va_D A (ws g ad y s_j339) → va_S A s.heap H locs → ∀ ls, lv_has ls 7 [(0, .ref (ad a0)), (1, .int x1j339), (2, .int x2j339)] → W p l e ru_Mo_goStep s m args below meth c H locs 0 0 Q (F0 m 339 ls [.int z0j339]) := by
            intro s_j339 x1j339 x2j339 z0j339 H locs h hP hD hS ls hl
            unfold wj_Mo_goStep_339 at h
            refine lv_istore (lv' := [(4, .int z0j339), (0, .ref (ad a0)), (1, .int x1j339), (2, .int x2j339)]) G.1 G.2.1 d_Mo_goStep_339 hl (by decide) rfl (fun ls hl => ?_)
            refine lv_goto (tgt := 409) G.1 G.2.1 d_Mo_goStep_341 (by decide) ?_
            exact J_409 s_j339 x1j339 x2j339 z0j339 H locs h hP hD hS ls (lv_sub hl [1, 2, 3, 0] rfl)
          refine lv_icmp_eq (tgt := 338) G.1 G.2.1 d_Mo_goStep_331 (by decide) (fun c331 => ?_) (fun c331 => ?_)
          · skip
            have h := h.1 c331
            refine lv_iconst (v := 0) G.1 G.2.1 d_Mo_goStep_338 (by decide) ?_
            exact J_339 s_j139 x1j139 x2j139 0 H locs h hP hD hS ls (lv_sub hl [1, 2, 3] rfl)
          · skip
            have h := h.2 c331
            refine lv_iconst (v := 1) G.1 G.2.1 d_Mo_goStep_334 (by decide) ?_
            refine lv_goto (tgt := 339) G.1 G.2.1 d_Mo_goStep_335 (by decide) ?_
            exact J_339 s_j139 x1j139 x2j139 1 H locs h hP hD hS ls (lv_sub hl [1, 2, 3] rfl)
        replace h := h.2 e142_39
        have te142_24 := lv_neT (a := 24) e142_24 (by decide)
        have te142_25 := lv_neT (a := 25) e142_25 (by decide)
        have te142_26 := lv_neT (a := 26) e142_26 (by decide)
        have te142_27 := lv_neT (a := 27) e142_27 (by decide)
        have te142_28 := lv_neT (a := 28) e142_28 (by decide)
        have te142_29 := lv_neT (a := 29) e142_29 (by decide)
        have te142_30 := lv_neT (a := 30) e142_30 (by decide)
        have te142_31 := lv_neT (a := 31) e142_31 (by decide)
        have te142_32 := lv_neT (a := 32) e142_32 (by decide)
        have te142_33 := lv_neT (a := 33) e142_33 (by decide)
        have te142_34 := lv_neT (a := 34) e142_34 (by decide)
        have te142_35 := lv_neT (a := 35) e142_35 (by decide)
        have te142_36 := lv_neT (a := 36) e142_36 (by decide)
        have te142_37 := lv_neT (a := 37) e142_37 (by decide)
        have te142_38 := lv_neT (a := 38) e142_38 (by decide)
        have te142_39 := lv_neT (a := 39) e142_39 (by decide)
        refine lv_tableOut (tgt := 395) G.1 G.2.1 d_Mo_goStep_142 (by omega) (by decide) ?_
        refine lv_iload G.1 G.2.1 d_Mo_goStep_395 (lv_at hl 0 rfl) ?_
        refine lv_iload G.1 G.2.1 d_Mo_goStep_397 (lv_at hl 5 rfl) ?_
        have J_407 : ∀ (s_j407 : St) (x1j407 : Int32) (x2j407 : Int32) (z0j407 : Int32) (H : Heap) (locs : List Loc), wj_Mo_goStep_407 y Post a0 s_j407 x1j407 x2j407 z0j407 → va_P D CL (ws g ad y s_j407) H → va_D A (ws g ad y s_j407) → va_S A s.heap H locs → ∀ ls, lv_has ls 7 [(0, .ref (ad a0)), (1, .int x1j407), (2, .int x2j407)] → W p l e ru_Mo_goStep s m args below meth c H locs 0 0 Q (F0 m 407 ls [.int z0j407]) := by
          intro s_j407 x1j407 x2j407 z0j407 H locs h hP hD hS ls hl
          unfold wj_Mo_goStep_407 at h
          refine lv_istore (lv' := [(4, .int z0j407), (0, .ref (ad a0)), (1, .int x1j407), (2, .int x2j407)]) G.1 G.2.1 d_Mo_goStep_407 hl (by decide) rfl (fun ls hl => ?_)
          exact J_409 s_j407 x1j407 x2j407 z0j407 H locs h hP hD hS ls (lv_sub hl [1, 2, 3, 0] rfl)
        refine lv_icmp_gt (tgt := 406) G.1 G.2.1 d_Mo_goStep_399 (by decide) (fun c399 => ?_) (fun c399 => ?_)
        · skip
          have h := h.1 c399
          refine lv_iconst (v := 0) G.1 G.2.1 d_Mo_goStep_406 (by decide) ?_
          exact J_407 s_j139 x1j139 x2j139 0 H locs h hP hD hS ls (lv_sub hl [1, 2, 3] rfl)
        · skip
          have h := h.2 c399
          refine lv_iconst (v := 1) G.1 G.2.1 d_Mo_goStep_402 (by decide) ?_
          refine lv_goto (tgt := 407) G.1 G.2.1 d_Mo_goStep_403 (by decide) ?_
          exact J_407 s_j139 x1j139 x2j139 1 H locs h hP hD hS ls (lv_sub hl [1, 2, 3] rfl)
      have J_130 : ∀ (s_j130 : St) (x1j130 : Int32) (x2j130 : Int32) (x3j130 : Int32) (x5j130 : Int32) (H : Heap) (locs : List Loc), wj_Mo_goStep_130 y Post a0 s_j130 x1j130 x2j130 x3j130 x5j130 → va_P D CL (ws g ad y s_j130) H → va_D A (ws g ad y s_j130) → va_S A s.heap H locs → ∀ ls, lv_has ls 7 [(0, .ref (ad a0)), (1, .int x1j130), (2, .int x2j130), (3, .int x3j130), (5, .int x5j130)] → W p l e ru_Mo_goStep s m args below meth c H locs 0 0 Q (F0 m 130 ls []) := by
        intro s_j130 x1j130 x2j130 x3j130 x5j130 H locs h hP hD hS ls hl
        unfold wj_Mo_goStep_130 at h
        refine lv_aload_n G.1 G.2.1 d_Mo_goStep_130 rfl (lv_at hl 0 rfl) ?_
        refine lv_iload_n G.1 G.2.1 d_Mo_goStep_131 rfl (lv_at hl 1 rfl) ?_
        refine ucVi (As := [.int x1j130]) (rest := []) G hP hD hS (cu_Mo_pop l D g ad y _ s_j130 a0 x1j130 H.size h_a0 h) w9_Mo_pop q3947 ⟨Nat.le_of_ble_eq_true rfl, Nat.le_of_ble_eq_true rfl⟩ rfl rfl h_a0 (q := (RMo, TMo, 131)) rfl rfl hl.1 rfl (Nat.le_of_ble_eq_true rfl) rfl ⟨Nat.le_refl _, Nat.le_refl _⟩ d_Mo_goStep_132 (fun r_15 s_16 H locs h hP hD hS => ?_)
        refine lv_goto (tgt := 139) G.1 G.2.1 d_Mo_goStep_135 (by decide) ?_
        exact J_139 s_16 x1j130 x2j130 x3j130 x5j130 r_15 H locs h hP hD hS ls (lv_sub hl [0, 1, 2, 3, 4] rfl)
      have J_118 : ∀ (s_j118 : St) (x1j118 : Int32) (x2j118 : Int32) (x3j118 : Int32) (x5j118 : Int32) (H : Heap) (locs : List Loc), wj_Mo_goStep_118 y Post a0 s_j118 x1j118 x2j118 x3j118 x5j118 → va_P D CL (ws g ad y s_j118) H → va_D A (ws g ad y s_j118) → va_S A s.heap H locs → ∀ ls, lv_has ls 7 [(0, .ref (ad a0)), (1, .int x1j118), (2, .int x2j118), (3, .int x3j118), (5, .int x5j118)] → W p l e ru_Mo_goStep s m args below meth c H locs 0 0 Q (F0 m 118 ls []) := by
        intro s_j118 x1j118 x2j118 x3j118 x5j118 H locs h hP hD hS ls hl
        unfold wj_Mo_goStep_118 at h
        refine lv_iload_n G.1 G.2.1 d_Mo_goStep_118 rfl (lv_at hl 3 rfl) ?_
        refine lv_bipush (v := 38) G.1 G.2.1 d_Mo_goStep_119 (by decide) ?_
        refine lv_icmp_eq (tgt := 130) G.1 G.2.1 d_Mo_goStep_121 (by decide) (fun c121 => ?_) (fun c121 => ?_)
        · skip
          have h := h.1 c121
          exact J_130 s_j118 x1j118 x2j118 x3j118 x5j118 H locs h hP hD hS ls (lv_sub hl [0, 1, 2, 3, 4] rfl)
        · skip
          have h := h.2 c121
          refine lv_iload_n G.1 G.2.1 d_Mo_goStep_124 rfl (lv_at hl 3 rfl) ?_
          refine lv_bipush (v := 39) G.1 G.2.1 d_Mo_goStep_125 (by decide) ?_
          refine lv_icmp_ne (tgt := 138) G.1 G.2.1 d_Mo_goStep_127 (by decide) (fun c127 => ?_) (fun c127 => ?_)
          · skip
            have h := h.1 c127
            refine lv_iconst (v := 0) G.1 G.2.1 d_Mo_goStep_138 (by decide) ?_
            exact J_139 s_j118 x1j118 x2j118 x3j118 x5j118 0 H locs h hP hD hS ls (lv_sub hl [0, 1, 2, 3, 4] rfl)
          · skip
            have h := h.2 c127
            exact J_130 s_j118 x1j118 x2j118 x3j118 x5j118 H locs h hP hD hS ls (lv_sub hl [0, 1, 2, 3, 4] rfl)
      refine lv_icmp_lt (tgt := 118) G.1 G.2.1 d_Mo_goStep_109 (by decide) (fun c109 => ?_) (fun c109 => ?_)
      · skip
        have h := h.1 c109
        exact J_118 s_14 v1 v2 v3 r_13 H locs h hP hD hS ls (lv_sub hl [2, 3, 4, 5, 0] rfl)
      · skip
        have h := h.2 c109
        refine lv_iload_n G.1 G.2.1 d_Mo_goStep_112 rfl (lv_at hl 5 rfl) ?_
        refine lv_bipush (v := 35) G.1 G.2.1 d_Mo_goStep_113 (by decide) ?_
        refine lv_icmp_le (tgt := 130) G.1 G.2.1 d_Mo_goStep_115 (by decide) (fun c115 => ?_) (fun c115 => ?_)
        · skip
          have h := h.1 c115
          exact J_130 s_14 v1 v2 v3 r_13 H locs h hP hD hS ls (lv_sub hl [2, 3, 4, 5, 0] rfl)
        · skip
          have h := h.2 c115
          exact J_118 s_14 v1 v2 v3 r_13 H locs h hP hD hS ls (lv_sub hl [2, 3, 4, 5, 0] rfl)
  · skip
    have h := h.2 c3
    refine lv_aload_n G.1 G.2.1 d_Mo_goStep_6 rfl (lv_at hl 0 rfl) ?_
    refine lv_iload_n G.1 G.2.1 d_Mo_goStep_7 rfl (lv_at hl 1 rfl) ?_
    refine ucVi (As := [.int v1]) (rest := []) G hP hD hS (cu_Mo_pop l D g ad y _ σ a0 v1 H.size h_a0 h) w9_Mo_pop q3947 ⟨Nat.le_of_ble_eq_true rfl, Nat.le_of_ble_eq_true rfl⟩ rfl rfl h_a0 (q := (RMo, TMo, 131)) rfl rfl hl.1 rfl (Nat.le_of_ble_eq_true rfl) rfl ⟨Nat.le_refl _, Nat.le_refl _⟩ d_Mo_goStep_8 (fun r_17 s_18 H locs h hP hD hS => ?_)
    refine lv_i2l G.1 G.2.1 d_Mo_goStep_11 rfl ?_
    refine lv_aload_n G.1 G.2.1 d_Mo_goStep_12 rfl (lv_at hl 0 rfl) ?_
    obtain ⟨b_19, e_20, c_21, h⟩ := h
    refine ugf (v := .ref (ad b_19)) G hP h_a0 iMo rfl 45 (by decide) rfl q3109 rfl (by show va_rf ((sO s_18 a0 45).map ad) = _; rw [e_20]; rfl) d_Mo_goStep_13 ?_
    refine ugfN (v := .ref (yP y b_19 31)) G hP c_21 iMw rfl 31 (by decide) rfl q2766 rfl rfl d_Mo_goStep_16 ?_
    refine lv_iload_n G.1 G.2.1 d_Mo_goStep_19 rfl (lv_at hl 2 rfl) ?_
    refine W.eq (g2 := F0 m 20 ls [.int v2, .ref (yP y b_19 31), .long r_17.toInt64]) rfl ?_
    refine uiald G hP (kdp c_21 rfl) (typ c_21 rfl) h d_Mo_goStep_20 (fun x_22 h => ?_)
    refine lv_i2l G.1 G.2.1 d_Mo_goStep_21 rfl ?_
    refine lv_lsub G.1 G.2.1 d_Mo_goStep_22 ?_
    refine lv_lstore (lv' := [(4, .long (r_17.toInt64 - x_22.toInt64)), (0, .ref (ad a0)), (1, .int v1), (2, .int v2), (3, .int v3)]) G.1 G.2.1 d_Mo_goStep_23 hl (by decide) rfl (fun ls hl => ?_)
    refine lv_aload_n G.1 G.2.1 d_Mo_goStep_25 rfl (lv_at hl 1 rfl) ?_
    obtain ⟨b_23, e_24, c_25, h⟩ := h
    refine ugf (v := .ref (ad b_23)) G hP h_a0 iMo rfl 45 (by decide) rfl q3109 rfl (by show va_rf ((sO s_18 a0 45).map ad) = _; rw [e_24]; rfl) d_Mo_goStep_26 ?_
    refine ugfN (v := .ref (yP y b_23 33)) G hP c_25 iMw rfl 33 (by decide) rfl q2770 rfl rfl d_Mo_goStep_29 ?_
    refine lv_iload_n G.1 G.2.1 d_Mo_goStep_32 rfl (lv_at hl 3 rfl) ?_
    refine uiald G hP (kdp c_25 rfl) (typ c_25 rfl) h d_Mo_goStep_33 (fun x_26 h => ?_)
    refine lv_iconst (v := 1) G.1 G.2.1 d_Mo_goStep_34 (by decide) ?_
    refine lv_isub G.1 G.2.1 d_Mo_goStep_35 ?_
    refine lv_istore (lv' := [(6, .int (x_26 - 1)), (4, .long (r_17.toInt64 - x_22.toInt64)), (0, .ref (ad a0)), (1, .int v1), (2, .int v2), (3, .int v3)]) G.1 G.2.1 d_Mo_goStep_36 hl (by decide) rfl (fun ls hl => ?_)
    refine W.eq (g2 := F0 m 38 ls []) rfl ?_
    refine lv_aload_n G.1 G.2.1 d_Mo_goStep_38 rfl (lv_at hl 2 rfl) ?_
    obtain ⟨b_27, e_28, c_29, h⟩ := h
    refine ugf (v := .ref (ad b_27)) G hP h_a0 iMo rfl 46 (by decide) rfl q3110 rfl (by show va_rf ((sO s_18 a0 46).map ad) = _; rw [e_28]; rfl) d_Mo_goStep_39 ?_
    refine ugfN (v := .ref (yP y b_27 18)) G hP c_29 iMr rfl 18 (by decide) rfl q3009 rfl rfl d_Mo_goStep_42 ?_
    refine lv_iload_n G.1 G.2.1 d_Mo_goStep_45 rfl (lv_at hl 3 rfl) ?_
    refine lv_aload_n G.1 G.2.1 d_Mo_goStep_46 rfl (lv_at hl 2 rfl) ?_
    obtain ⟨b_30, e_31, c_32, h⟩ := h
    refine ugf (v := .ref (ad b_30)) G hP h_a0 iMo rfl 45 (by decide) rfl q3109 rfl (by show va_rf ((sO s_18 a0 45).map ad) = _; rw [e_31]; rfl) d_Mo_goStep_47 ?_
    refine ugfN (v := .ref (yP y b_30 36)) G hP c_32 iMw rfl 36 (by decide) rfl q2775 rfl rfl d_Mo_goStep_50 ?_
    refine lv_aload_n G.1 G.2.1 d_Mo_goStep_53 rfl (lv_at hl 2 rfl) ?_
    obtain ⟨b_33, e_34, c_35, h⟩ := h
    refine ugf (v := .ref (ad b_33)) G hP h_a0 iMo rfl 45 (by decide) rfl q3109 rfl (by show va_rf ((sO s_18 a0 45).map ad) = _; rw [e_34]; rfl) d_Mo_goStep_54 ?_
    refine ugfN (v := .ref (yP y b_33 32)) G hP c_35 iMw rfl 32 (by decide) rfl q2768 rfl rfl d_Mo_goStep_57 ?_
    refine lv_iload_n G.1 G.2.1 d_Mo_goStep_60 rfl (lv_at hl 4 rfl) ?_
    refine uiald G hP (kdp c_35 rfl) (typ c_35 rfl) h d_Mo_goStep_61 (fun x_36 h => ?_)
    refine W.eq (g2 := F0 m 62 ls [.int x_36, .ref (yP y b_30 36), .int v1, .ref (yP y b_27 18)]) rfl ?_
    refine lv_lload G.1 G.2.1 d_Mo_goStep_62 (lv_at hl 1 rfl) ?_
    refine lv_lconst (v := 0) G.1 G.2.1 d_Mo_goStep_64 (by decide) ?_
    refine W.lcmp G.1 G.2.1 d_Mo_goStep_65 ?_
    have J_86 : ∀ (s_j86 : St) (z0j86 : Nat) (z0j86k : Nat) (z1j86 : Int32) (z2j86 : Nat) (z2j86k : Nat) (z3j86 : Int32) (z4j86 : Int32) (H : Heap) (locs : List Loc), wj_Mo_goStep_86 y Post a0 s_j86 z0j86 z0j86k z1j86 z2j86 z2j86k z3j86 z4j86 → va_P D CL (ws g ad y s_j86) H → va_D A (ws g ad y s_j86) → va_S A s.heap H locs → ∀ ls, lv_has ls 7 [] → W p l e ru_Mo_goStep s m args below meth c H locs 0 0 Q (F0 m 86 ls [.int z4j86, .int z3j86, .ref (yP y z2j86 z2j86k), .int z1j86, .ref (yP y z0j86 z0j86k)]) := by
      intro s_j86 z0j86 z0j86k z1j86 z2j86 z2j86k z3j86 z4j86 H locs h hP hD hS ls hl
      unfold wj_Mo_goStep_86 at h
      obtain ⟨c_z0j86, h⟩ := h
      obtain ⟨c_z2j86, h⟩ := h
      refine lv_iadd G.1 G.2.1 d_Mo_goStep_86 ?_
      refine uiald G hP c_z2j86.1 c_z2j86.2 h d_Mo_goStep_87 (fun x_37 h => ?_)
      refine uiast G hP hD hS c_z0j86.1 c_z0j86.2 h d_Mo_goStep_88 (fun s_38 H locs h hP hD hS => ?_)
      exact hret _ _ _ _ _ _ ls h hP hD hS (Nat.le_refl _) (Nat.le_refl _) d_Mo_goStep_89
    have J_84 : ∀ (s_j84 : St) (x6j84 : Int32) (z0j84 : Nat) (z0j84k : Nat) (z1j84 : Int32) (z2j84 : Nat) (z2j84k : Nat) (z3j84 : Int32) (H : Heap) (locs : List Loc), wj_Mo_goStep_84 y Post a0 s_j84 x6j84 z0j84 z0j84k z1j84 z2j84 z2j84k z3j84 → va_P D CL (ws g ad y s_j84) H → va_D A (ws g ad y s_j84) → va_S A s.heap H locs → ∀ ls, lv_has ls 7 [(6, .int x6j84)] → W p l e ru_Mo_goStep s m args below meth c H locs 0 0 Q (F0 m 84 ls [.int z3j84, .ref (yP y z2j84 z2j84k), .int z1j84, .ref (yP y z0j84 z0j84k)]) := by
      intro s_j84 x6j84 z0j84 z0j84k z1j84 z2j84 z2j84k z3j84 H locs h hP hD hS ls hl
      unfold wj_Mo_goStep_84 at h
      obtain ⟨c_z0j84, h⟩ := h
      obtain ⟨c_z2j84, h⟩ := h
      refine lv_iload G.1 G.2.1 d_Mo_goStep_84 (lv_at hl 0 rfl) ?_
      exact J_86 s_j84 z0j84 z0j84k z1j84 z2j84 z2j84k z3j84 x6j84 H locs h hP hD hS ls (lv_sub hl [] rfl)
    refine lv_if_lt (tgt := 84) G.1 G.2.1 d_Mo_goStep_66 (by decide) (fun c66 => ?_) (fun c66 => ?_)
    · skip
      have h := h.1 c66
      exact J_84 s_18 (x_26 - 1) b_27 18 v1 b_30 36 x_36 H locs h hP hD hS ls (lv_sub hl [0] rfl)
    · skip
      have h := h.2 c66
      refine lv_lload G.1 G.2.1 d_Mo_goStep_69 (lv_at hl 1 rfl) ?_
      refine lv_iload G.1 G.2.1 d_Mo_goStep_71 (lv_at hl 0 rfl) ?_
      refine lv_i2l G.1 G.2.1 d_Mo_goStep_73 rfl ?_
      refine W.lcmp G.1 G.2.1 d_Mo_goStep_74 ?_
      refine lv_if_ge (tgt := 84) G.1 G.2.1 d_Mo_goStep_75 (by decide) (fun c75 => ?_) (fun c75 => ?_)
      · skip
        have h := h.1 c75
        exact J_84 s_18 (x_26 - 1) b_27 18 v1 b_30 36 x_36 H locs h hP hD hS ls (lv_sub hl [0] rfl)
      · skip
        have h := h.2 c75
        refine lv_lload G.1 G.2.1 d_Mo_goStep_78 (lv_at hl 1 rfl) ?_
        refine lv_l2i G.1 G.2.1 d_Mo_goStep_80 rfl ?_
        refine lv_goto (tgt := 86) G.1 G.2.1 d_Mo_goStep_81 (by decide) ?_
        exact J_86 s_18 b_27 18 v1 b_30 36 x_36 ((r_17.toInt64 - x_22.toInt64).toInt32) H locs h hP hD hS ls (lv_sub hl [] rfl)
def y_Mo_topRefers : MethodName := ⟨"ClassWorksModel", "topRefers", "(I)Z"⟩
abbrev b_Mo_topRefers : ByteArray := prog_14_method_97_code
theorem d_Mo_topRefers_0 : decode b_Mo_topRefers 0 = .ok (.aload_n 0, 1) := by decide +kernel
theorem d_Mo_topRefers_1 : decode b_Mo_topRefers 1 = .ok (.getfield 917, 3) := by decide +kernel
theorem d_Mo_topRefers_4 : decode b_Mo_topRefers 4 = .ok (.getfield 939, 3) := by decide +kernel
theorem d_Mo_topRefers_7 : decode b_Mo_topRefers 7 = .ok (.bipush 44, 2) := by decide +kernel
theorem d_Mo_topRefers_9 : decode b_Mo_topRefers 9 = .ok (.iload_n 1, 1) := by decide +kernel
theorem d_Mo_topRefers_10 : decode b_Mo_topRefers 10 = .ok (.imul, 1) := by decide +kernel
theorem d_Mo_topRefers_11 : decode b_Mo_topRefers 11 = .ok (.bipush 20, 2) := by decide +kernel
theorem d_Mo_topRefers_13 : decode b_Mo_topRefers 13 = .ok (.iadd, 1) := by decide +kernel
theorem d_Mo_topRefers_14 : decode b_Mo_topRefers 14 = .ok (.aload_n 0, 1) := by decide +kernel
theorem d_Mo_topRefers_15 : decode b_Mo_topRefers 15 = .ok (.getfield 917, 3) := by decide +kernel
theorem d_Mo_topRefers_18 : decode b_Mo_topRefers 18 = .ok (.getfield 933, 3) := by decide +kernel
theorem d_Mo_topRefers_21 : decode b_Mo_topRefers 21 = .ok (.iload_n 1, 1) := by decide +kernel
theorem d_Mo_topRefers_22 : decode b_Mo_topRefers 22 = .ok (.iaload, 1) := by decide +kernel
theorem d_Mo_topRefers_23 : decode b_Mo_topRefers 23 = .ok (.iadd, 1) := by decide +kernel
theorem d_Mo_topRefers_24 : decode b_Mo_topRefers 24 = .ok (.iconst 1, 1) := by decide +kernel
theorem d_Mo_topRefers_25 : decode b_Mo_topRefers 25 = .ok (.isub, 1) := by decide +kernel
theorem d_Mo_topRefers_26 : decode b_Mo_topRefers 26 = .ok (.baload, 1) := by decide +kernel
theorem d_Mo_topRefers_27 : decode b_Mo_topRefers 27 = .ok (.ireturn, 1) := by decide +kernel
abbrev ru_Mo_topRefers : Room := { frames := 0, cells := 0, slots := 0, locals := 0 }
def wu_Mo_topRefers (y : Ly) (Post : St → Int32 → Prop) (σ : St) (a0 : Nat) (v1 : Int32) : Prop := ∃ b_1 : Nat, sO σ a0 46 = some b_1 ∧ cl b_1 = 12 ∧ ∃ b_4 : Nat, sO σ a0 46 = some b_4 ∧ cl b_4 = 12 ∧ xA y σ b_4 19 v1 (fun x_7 : Int32 => xA y σ b_1 21 ((((44 * v1) + 20) + x_7) - 1) (fun x_8 : Int32 => (nb x_8 ∧ Post σ x_8)))
set_option maxHeartbeats 4000000 in
set_option maxRecDepth 100000 in
theorem cu_Mo_topRefers (l : Launch) (D : va_G) (g : Nat → ClassId) (ad : Nat → Nat) (y : Ly) (Post : St → Int32 → Prop) (σ : St) (a0 : Nat) (v1 : Int32) (sz : Nat) (h_a0 : cl a0 = 14) (h : wu_Mo_topRefers y Post σ a0 v1) : Met l y_Mo_topRefers (mw y_Mo_topRefers b_Mo_topRefers 2 (some (.boolean))) ru_Mo_topRefers (PC g D [] [.ref (ad a0), .int v1] sz (ws g ad y σ)) (va_Qi (fun (r : Int32) (u : St) => Post u r) (QW D (va_A (ws g ad y σ) sz) (fun u => ws g ad y u)) (va_A (ws g ad y σ) sz)) 0 0 (va_A (ws g ad y σ) sz) := by
  refine ofZ (by decide +kernel) (Nat.le_of_ble_eq_true rfl) ?_
  intro p e s m args below meth c A Q ls H locs G hsz hP hD hS hl hret
  subst hsz
  have hl : lv_has ls 2 [(0, .ref (ad a0)), (1, .int v1)] := hl
  unfold wu_Mo_topRefers at h
  refine lv_aload_n G.1 G.2.1 d_Mo_topRefers_0 rfl (lv_at hl 0 rfl) ?_
  obtain ⟨b_1, e_2, c_3, h⟩ := h
  refine ugf (v := .ref (ad b_1)) G hP h_a0 iMo rfl 46 (by decide) rfl q3110 rfl (by show va_rf ((sO σ a0 46).map ad) = _; rw [e_2]; rfl) d_Mo_topRefers_1 ?_
  refine ugfN (v := .ref (yP y b_1 21)) G hP c_3 iMr rfl 21 (by decide) rfl q3015 rfl rfl d_Mo_topRefers_4 ?_
  refine lv_bipush (v := 44) G.1 G.2.1 d_Mo_topRefers_7 (by decide) ?_
  refine lv_iload_n G.1 G.2.1 d_Mo_topRefers_9 rfl (lv_at hl 1 rfl) ?_
  refine lv_imul G.1 G.2.1 d_Mo_topRefers_10 ?_
  refine lv_bipush (v := 20) G.1 G.2.1 d_Mo_topRefers_11 (by decide) ?_
  refine lv_iadd G.1 G.2.1 d_Mo_topRefers_13 ?_
  refine lv_aload_n G.1 G.2.1 d_Mo_topRefers_14 rfl (lv_at hl 0 rfl) ?_
  obtain ⟨b_4, e_5, c_6, h⟩ := h
  refine ugf (v := .ref (ad b_4)) G hP h_a0 iMo rfl 46 (by decide) rfl q3110 rfl (by show va_rf ((sO σ a0 46).map ad) = _; rw [e_5]; rfl) d_Mo_topRefers_15 ?_
  refine ugfN (v := .ref (yP y b_4 19)) G hP c_6 iMr rfl 19 (by decide) rfl q3011 rfl rfl d_Mo_topRefers_18 ?_
  refine W.eq (g2 := F0 m 21 ls [.ref (yP y b_4 19), .int ((44 * v1) + 20), .ref (yP y b_1 21)]) rfl ?_
  refine lv_iload_n G.1 G.2.1 d_Mo_topRefers_21 rfl (lv_at hl 1 rfl) ?_
  refine uiald G hP (kdp c_6 rfl) (typ c_6 rfl) h d_Mo_topRefers_22 (fun x_7 h => ?_)
  refine lv_iadd G.1 G.2.1 d_Mo_topRefers_23 ?_
  refine lv_iconst (v := 1) G.1 G.2.1 d_Mo_topRefers_24 (by decide) ?_
  refine lv_isub G.1 G.2.1 d_Mo_topRefers_25 ?_
  refine uzald G hP (kdp c_3 rfl) (typ c_3 rfl) h d_Mo_topRefers_26 (fun x_8 h => ?_)
  exact hret _ _ _ _ _ _ _ ls (nb_n h.1) h.2 hP hD hS (Nat.le_refl _) (Nat.le_refl _) d_Mo_topRefers_27
theorem q4003 : Cond.methodLink "ClassWorksModel" 1069 y_Mo_topRefers ∈ lw_ok := lw_okmem (List.mem_of_getElem? (i := 4003) (by decide +kernel)) rfl
theorem q4006 : Cond.code y_Mo_topRefers b_Mo_topRefers 2 (some (.boolean)) ∈ lw_ok := lw_okmem (List.mem_of_getElem? (i := 4006) (by decide +kernel)) rfl
theorem q4005 : Cond.instanceMethod y_Mo_topRefers ∈ lw_ok := lw_okmem (List.mem_of_getElem? (i := 4005) (by decide +kernel)) rfl
theorem q290 : Cond.selects y_Mo_topRefers.cls y_Mo_topRefers y_Mo_topRefers ∈ lw_ok := lw_okmem (List.mem_of_getElem? (i := 290) (by decide +kernel)) rfl
theorem w9_Mo_topRefers : CWv y_Mo_topRefers b_Mo_topRefers 2 (some (.boolean)) 1 ∧ Cond.instanceMethod y_Mo_topRefers ∈ lw_ok ∧ Cond.selects y_Mo_topRefers.cls y_Mo_topRefers y_Mo_topRefers ∈ lw_ok := ⟨⟨q4006, q348, by decide +kernel, by decide +kernel, by decide +kernel⟩, q4005, q290⟩
theorem q3907 : Cond.methodLink "ClassWorksModel" 970 y_Mo_push ∈ lw_ok := lw_okmem (List.mem_of_getElem? (i := 3907) (by decide +kernel)) rfl
theorem q3910 : Cond.code y_Mo_push b_Mo_push 5 (none) ∈ lw_ok := lw_okmem (List.mem_of_getElem? (i := 3910) (by decide +kernel)) rfl
theorem q3909 : Cond.instanceMethod y_Mo_push ∈ lw_ok := lw_okmem (List.mem_of_getElem? (i := 3909) (by decide +kernel)) rfl
theorem q266 : Cond.selects y_Mo_push.cls y_Mo_push y_Mo_push ∈ lw_ok := lw_okmem (List.mem_of_getElem? (i := 266) (by decide +kernel)) rfl
theorem w9_Mo_push : CWv y_Mo_push b_Mo_push 5 (none) 3 ∧ Cond.instanceMethod y_Mo_push ∈ lw_ok ∧ Cond.selects y_Mo_push.cls y_Mo_push y_Mo_push ∈ lw_ok := ⟨⟨q3910, q348, by decide +kernel, by decide +kernel, by decide +kernel⟩, q3909, q266⟩
def y_Mo_turnStep : MethodName := ⟨"ClassWorksModel", "turnStep", "(II)V"⟩
abbrev b_Mo_turnStep : ByteArray := prog_14_method_109_code
theorem d_Mo_turnStep_0 : decode b_Mo_turnStep 0 = .ok (.aload_n 0, 1) := by decide +kernel
theorem d_Mo_turnStep_1 : decode b_Mo_turnStep 1 = .ok (.iload_n 1, 1) := by decide +kernel
theorem d_Mo_turnStep_2 : decode b_Mo_turnStep 2 = .ok (.invokevirtual 1069, 3) := by decide +kernel
theorem d_Mo_turnStep_5 : decode b_Mo_turnStep 5 = .ok (.istore_n 3, 1) := by decide +kernel
theorem d_Mo_turnStep_6 : decode b_Mo_turnStep 6 = .ok (.aload_n 0, 1) := by decide +kernel
theorem d_Mo_turnStep_7 : decode b_Mo_turnStep 7 = .ok (.iload_n 1, 1) := by decide +kernel
theorem d_Mo_turnStep_8 : decode b_Mo_turnStep 8 = .ok (.invokevirtual 1057, 3) := by decide +kernel
theorem d_Mo_turnStep_11 : decode b_Mo_turnStep 11 = .ok (.istore 4, 2) := by decide +kernel
theorem d_Mo_turnStep_13 : decode b_Mo_turnStep 13 = .ok (.iload_n 2, 1) := by decide +kernel
theorem d_Mo_turnStep_14 : decode b_Mo_turnStep 14 = .ok (.bipush 20, 2) := by decide +kernel
theorem d_Mo_turnStep_16 : decode b_Mo_turnStep 16 = .ok (.if_icmp .ne 20, 3) := by decide +kernel
theorem d_Mo_turnStep_19 : decode b_Mo_turnStep 19 = .ok (.aload_n 0, 1) := by decide +kernel
theorem d_Mo_turnStep_20 : decode b_Mo_turnStep 20 = .ok (.iload_n 1, 1) := by decide +kernel
theorem d_Mo_turnStep_21 : decode b_Mo_turnStep 21 = .ok (.iload 4, 2) := by decide +kernel
theorem d_Mo_turnStep_23 : decode b_Mo_turnStep 23 = .ok (.iload_n 3, 1) := by decide +kernel
theorem d_Mo_turnStep_24 : decode b_Mo_turnStep 24 = .ok (.invokevirtual 970, 3) := by decide +kernel
theorem d_Mo_turnStep_27 : decode b_Mo_turnStep 27 = .ok (.aload_n 0, 1) := by decide +kernel
theorem d_Mo_turnStep_28 : decode b_Mo_turnStep 28 = .ok (.iload_n 1, 1) := by decide +kernel
theorem d_Mo_turnStep_29 : decode b_Mo_turnStep 29 = .ok (.iload 4, 2) := by decide +kernel
theorem d_Mo_turnStep_31 : decode b_Mo_turnStep 31 = .ok (.iload_n 3, 1) := by decide +kernel
theorem d_Mo_turnStep_32 : decode b_Mo_turnStep 32 = .ok (.invokevirtual 970, 3) := by decide +kernel
theorem d_Mo_turnStep_35 : decode b_Mo_turnStep 35 = .ok (.return_, 1) := by decide +kernel
theorem d_Mo_turnStep_36 : decode b_Mo_turnStep 36 = .ok (.aload_n 0, 1) := by decide +kernel
theorem d_Mo_turnStep_37 : decode b_Mo_turnStep 37 = .ok (.iload_n 1, 1) := by decide +kernel
theorem d_Mo_turnStep_38 : decode b_Mo_turnStep 38 = .ok (.invokevirtual 1069, 3) := by decide +kernel
theorem d_Mo_turnStep_41 : decode b_Mo_turnStep 41 = .ok (.istore 5, 2) := by decide +kernel
theorem d_Mo_turnStep_43 : decode b_Mo_turnStep 43 = .ok (.aload_n 0, 1) := by decide +kernel
theorem d_Mo_turnStep_44 : decode b_Mo_turnStep 44 = .ok (.iload_n 1, 1) := by decide +kernel
theorem d_Mo_turnStep_45 : decode b_Mo_turnStep 45 = .ok (.invokevirtual 1057, 3) := by decide +kernel
theorem d_Mo_turnStep_48 : decode b_Mo_turnStep 48 = .ok (.istore 6, 2) := by decide +kernel
theorem d_Mo_turnStep_50 : decode b_Mo_turnStep 50 = .ok (.aload_n 0, 1) := by decide +kernel
theorem d_Mo_turnStep_51 : decode b_Mo_turnStep 51 = .ok (.iload_n 1, 1) := by decide +kernel
theorem d_Mo_turnStep_52 : decode b_Mo_turnStep 52 = .ok (.iload 4, 2) := by decide +kernel
theorem d_Mo_turnStep_54 : decode b_Mo_turnStep 54 = .ok (.iload_n 3, 1) := by decide +kernel
theorem d_Mo_turnStep_55 : decode b_Mo_turnStep 55 = .ok (.invokevirtual 970, 3) := by decide +kernel
theorem d_Mo_turnStep_58 : decode b_Mo_turnStep 58 = .ok (.aload_n 0, 1) := by decide +kernel
theorem d_Mo_turnStep_59 : decode b_Mo_turnStep 59 = .ok (.iload_n 1, 1) := by decide +kernel
theorem d_Mo_turnStep_60 : decode b_Mo_turnStep 60 = .ok (.iload 6, 2) := by decide +kernel
theorem d_Mo_turnStep_62 : decode b_Mo_turnStep 62 = .ok (.iload 5, 2) := by decide +kernel
theorem d_Mo_turnStep_64 : decode b_Mo_turnStep 64 = .ok (.invokevirtual 970, 3) := by decide +kernel
theorem d_Mo_turnStep_67 : decode b_Mo_turnStep 67 = .ok (.iload_n 2, 1) := by decide +kernel
theorem d_Mo_turnStep_68 : decode b_Mo_turnStep 68 = .ok (.bipush 21, 2) := by decide +kernel
theorem d_Mo_turnStep_70 : decode b_Mo_turnStep 70 = .ok (.if_icmp .ne 11, 3) := by decide +kernel
theorem d_Mo_turnStep_73 : decode b_Mo_turnStep 73 = .ok (.aload_n 0, 1) := by decide +kernel
theorem d_Mo_turnStep_74 : decode b_Mo_turnStep 74 = .ok (.iload_n 1, 1) := by decide +kernel
theorem d_Mo_turnStep_75 : decode b_Mo_turnStep 75 = .ok (.iload 4, 2) := by decide +kernel
theorem d_Mo_turnStep_77 : decode b_Mo_turnStep 77 = .ok (.iload_n 3, 1) := by decide +kernel
theorem d_Mo_turnStep_78 : decode b_Mo_turnStep 78 = .ok (.invokevirtual 970, 3) := by decide +kernel
theorem d_Mo_turnStep_81 : decode b_Mo_turnStep 81 = .ok (.return_, 1) := by decide +kernel
abbrev ru_Mo_turnStep : Room := { frames := 1, cells := 0, slots := 0, locals := 24 }
def wj_Mo_turnStep_81 (y : Ly) (Post : St → Prop) (a0 : Nat) (s_j81 : St) : Prop := Post s_j81
def wu_Mo_turnStep (y : Ly) (Post : St → Prop) (σ : St) (a0 : Nat) (v1 : Int32) (v2 : Int32) : Prop := wu_Mo_topRefers y (fun (s_2 : St) (r_1 : Int32) => wu_Mo_pop y (fun (s_4 : St) (r_3 : Int32) => ((¬ v2 = 20 → wu_Mo_topRefers y (fun (s_6 : St) (r_5 : Int32) => wu_Mo_pop y (fun (s_8 : St) (r_7 : Int32) => wu_Mo_push y (fun (s_10 : St) => wu_Mo_push y (fun (s_12 : St) => ((¬ v2 = 21 → wj_Mo_turnStep_81 y Post a0 s_12) ∧ (v2 = 21 → wu_Mo_push y (fun (s_14 : St) => wj_Mo_turnStep_81 y Post a0 s_14) s_12 a0 v1 r_3 r_1))) s_10 a0 v1 r_7 r_5) s_8 a0 v1 r_3 r_1) s_6 a0 v1) s_4 a0 v1) ∧ (v2 = 20 → wu_Mo_push y (fun (s_16 : St) => wu_Mo_push y (fun (s_18 : St) => Post s_18) s_16 a0 v1 r_3 r_1) s_4 a0 v1 r_3 r_1))) s_2 a0 v1) σ a0 v1
set_option maxHeartbeats 4000000 in
set_option maxRecDepth 100000 in
theorem cu_Mo_turnStep (l : Launch) (D : va_G) (g : Nat → ClassId) (ad : Nat → Nat) (y : Ly) (Post : St → Prop) (σ : St) (a0 : Nat) (v1 : Int32) (v2 : Int32) (sz : Nat) (h_a0 : cl a0 = 14) (h : wu_Mo_turnStep y Post σ a0 v1 v2) : Met l y_Mo_turnStep (mw y_Mo_turnStep b_Mo_turnStep 7 (none)) ru_Mo_turnStep (PC g D [] [.ref (ad a0), .int v1, .int v2] sz (ws g ad y σ)) (va_Qv (fun u : St => Post u) (QW D (va_A (ws g ad y σ) sz) (fun u => ws g ad y u)) (va_A (ws g ad y σ) sz)) 0 0 (va_A (ws g ad y σ) sz) := by
  refine ofV (by decide +kernel) (Nat.le_of_ble_eq_true rfl) ?_
  intro p e s m args below meth c A Q ls H locs G hsz hP hD hS hl hret
  subst hsz
  have hl : lv_has ls 7 [(0, .ref (ad a0)), (1, .int v1), (2, .int v2)] := hl
  unfold wu_Mo_turnStep at h
  refine lv_aload_n G.1 G.2.1 d_Mo_turnStep_0 rfl (lv_at hl 0 rfl) ?_
  refine lv_iload_n G.1 G.2.1 d_Mo_turnStep_1 rfl (lv_at hl 1 rfl) ?_
  refine ucVi (As := [.int v1]) (rest := []) G hP hD hS (cu_Mo_topRefers l D g ad y _ σ a0 v1 H.size h_a0 h) w9_Mo_topRefers q4003 ⟨Nat.le_of_ble_eq_true rfl, Nat.le_of_ble_eq_true rfl⟩ rfl rfl h_a0 (q := (RMo, TMo, 131)) rfl rfl hl.1 rfl (Nat.le_of_ble_eq_true rfl) rfl ⟨Nat.le_refl _, Nat.le_refl _⟩ d_Mo_turnStep_2 (fun r_1 s_2 H locs h hP hD hS => ?_)
  refine lv_istore_n (lv' := [(3, .int r_1), (0, .ref (ad a0)), (1, .int v1), (2, .int v2)]) G.1 G.2.1 d_Mo_turnStep_5 rfl hl (by decide) rfl (fun ls hl => ?_)
  refine lv_aload_n G.1 G.2.1 d_Mo_turnStep_6 rfl (lv_at hl 1 rfl) ?_
  refine lv_iload_n G.1 G.2.1 d_Mo_turnStep_7 rfl (lv_at hl 2 rfl) ?_
  refine ucVi (As := [.int v1]) (rest := []) G hP hD hS (cu_Mo_pop l D g ad y _ s_2 a0 v1 H.size h_a0 h) w9_Mo_pop q3947 ⟨Nat.le_of_ble_eq_true rfl, Nat.le_of_ble_eq_true rfl⟩ rfl rfl h_a0 (q := (RMo, TMo, 131)) rfl rfl hl.1 rfl (Nat.le_of_ble_eq_true rfl) rfl ⟨Nat.le_refl _, Nat.le_refl _⟩ d_Mo_turnStep_8 (fun r_3 s_4 H locs h hP hD hS => ?_)
  refine lv_istore (lv' := [(4, .int r_3), (3, .int r_1), (0, .ref (ad a0)), (1, .int v1), (2, .int v2)]) G.1 G.2.1 d_Mo_turnStep_11 hl (by decide) rfl (fun ls hl => ?_)
  refine lv_iload_n G.1 G.2.1 d_Mo_turnStep_13 rfl (lv_at hl 4 rfl) ?_
  refine lv_bipush (v := 20) G.1 G.2.1 d_Mo_turnStep_14 (by decide) ?_
  refine lv_icmp_ne (tgt := 36) G.1 G.2.1 d_Mo_turnStep_16 (by decide) (fun c16 => ?_) (fun c16 => ?_)
  · skip
    have h := h.1 c16
    refine W.eq (g2 := F0 m 36 ls []) rfl ?_
    refine lv_aload_n G.1 G.2.1 d_Mo_turnStep_36 rfl (lv_at hl 2 rfl) ?_
    refine lv_iload_n G.1 G.2.1 d_Mo_turnStep_37 rfl (lv_at hl 3 rfl) ?_
    refine ucVi (As := [.int v1]) (rest := []) G hP hD hS (cu_Mo_topRefers l D g ad y _ s_4 a0 v1 H.size h_a0 h) w9_Mo_topRefers q4003 ⟨Nat.le_of_ble_eq_true rfl, Nat.le_of_ble_eq_true rfl⟩ rfl rfl h_a0 (q := (RMo, TMo, 131)) rfl rfl hl.1 rfl (Nat.le_of_ble_eq_true rfl) rfl ⟨Nat.le_refl _, Nat.le_refl _⟩ d_Mo_turnStep_38 (fun r_5 s_6 H locs h hP hD hS => ?_)
    refine lv_istore (lv' := [(5, .int r_5), (4, .int r_3), (3, .int r_1), (0, .ref (ad a0)), (1, .int v1), (2, .int v2)]) G.1 G.2.1 d_Mo_turnStep_41 hl (by decide) rfl (fun ls hl => ?_)
    refine lv_aload_n G.1 G.2.1 d_Mo_turnStep_43 rfl (lv_at hl 3 rfl) ?_
    refine lv_iload_n G.1 G.2.1 d_Mo_turnStep_44 rfl (lv_at hl 4 rfl) ?_
    refine ucVi (As := [.int v1]) (rest := []) G hP hD hS (cu_Mo_pop l D g ad y _ s_6 a0 v1 H.size h_a0 h) w9_Mo_pop q3947 ⟨Nat.le_of_ble_eq_true rfl, Nat.le_of_ble_eq_true rfl⟩ rfl rfl h_a0 (q := (RMo, TMo, 131)) rfl rfl hl.1 rfl (Nat.le_of_ble_eq_true rfl) rfl ⟨Nat.le_refl _, Nat.le_refl _⟩ d_Mo_turnStep_45 (fun r_7 s_8 H locs h hP hD hS => ?_)
    refine lv_istore (lv' := [(6, .int r_7), (5, .int r_5), (4, .int r_3), (3, .int r_1), (0, .ref (ad a0)), (1, .int v1), (2, .int v2)]) G.1 G.2.1 d_Mo_turnStep_48 hl (by decide) rfl (fun ls hl => ?_)
    refine lv_aload_n G.1 G.2.1 d_Mo_turnStep_50 rfl (lv_at hl 4 rfl) ?_
    refine lv_iload_n G.1 G.2.1 d_Mo_turnStep_51 rfl (lv_at hl 5 rfl) ?_
    refine lv_iload G.1 G.2.1 d_Mo_turnStep_52 (lv_at hl 2 rfl) ?_
    refine lv_iload_n G.1 G.2.1 d_Mo_turnStep_54 rfl (lv_at hl 3 rfl) ?_
    refine W.eq (g2 := F0 m 55 ls [.int r_1, .int r_3, .int v1, .ref (ad a0)]) rfl ?_
    refine ucVv (As := [.int v1, .int r_3, .int r_1]) (rest := []) G hP hD hS (cu_Mo_push l D g ad y _ s_8 a0 v1 r_3 r_1 H.size h_a0 h) w9_Mo_push q3907 ⟨Nat.le_of_ble_eq_true rfl, Nat.le_of_ble_eq_true rfl⟩ rfl rfl h_a0 (q := (RMo, TMo, 131)) rfl rfl hl.1 rfl (Nat.le_of_ble_eq_true rfl) rfl ⟨Nat.le_refl _, Nat.le_refl _⟩ d_Mo_turnStep_55 (fun s_10 H locs h hP hD hS => ?_)
    refine lv_aload_n G.1 G.2.1 d_Mo_turnStep_58 rfl (lv_at hl 4 rfl) ?_
    refine lv_iload_n G.1 G.2.1 d_Mo_turnStep_59 rfl (lv_at hl 5 rfl) ?_
    refine lv_iload G.1 G.2.1 d_Mo_turnStep_60 (lv_at hl 0 rfl) ?_
    refine lv_iload G.1 G.2.1 d_Mo_turnStep_62 (lv_at hl 1 rfl) ?_
    refine ucVv (As := [.int v1, .int r_7, .int r_5]) (rest := []) G hP hD hS (cu_Mo_push l D g ad y _ s_10 a0 v1 r_7 r_5 H.size h_a0 h) w9_Mo_push q3907 ⟨Nat.le_of_ble_eq_true rfl, Nat.le_of_ble_eq_true rfl⟩ rfl rfl h_a0 (q := (RMo, TMo, 131)) rfl rfl hl.1 rfl (Nat.le_of_ble_eq_true rfl) rfl ⟨Nat.le_refl _, Nat.le_refl _⟩ d_Mo_turnStep_64 (fun s_12 H locs h hP hD hS => ?_)
    refine lv_iload_n G.1 G.2.1 d_Mo_turnStep_67 rfl (lv_at hl 6 rfl) ?_
    refine lv_bipush (v := 21) G.1 G.2.1 d_Mo_turnStep_68 (by decide) ?_
    have J_81 : ∀ (s_j81 : St) (H : Heap) (locs : List Loc), wj_Mo_turnStep_81 y Post a0 s_j81 → va_P D CL (ws g ad y s_j81) H → va_D A (ws g ad y s_j81) → va_S A s.heap H locs → ∀ ls, lv_has ls 7 [] → W p l e ru_Mo_turnStep s m args below meth c H locs 0 0 Q (F0 m 81 ls []) := by
      intro s_j81 H locs h hP hD hS ls hl
      unfold wj_Mo_turnStep_81 at h
      exact hret _ _ _ _ _ _ ls h hP hD hS (Nat.le_refl _) (Nat.le_refl _) d_Mo_turnStep_81
    refine lv_icmp_ne (tgt := 81) G.1 G.2.1 d_Mo_turnStep_70 (by decide) (fun c70 => ?_) (fun c70 => ?_)
    · skip
      have h := h.1 c70
      exact J_81 s_12 H locs h hP hD hS ls (lv_sub hl [] rfl)
    · skip
      have h := h.2 c70
      refine lv_aload_n G.1 G.2.1 d_Mo_turnStep_73 rfl (lv_at hl 4 rfl) ?_
      refine lv_iload_n G.1 G.2.1 d_Mo_turnStep_74 rfl (lv_at hl 5 rfl) ?_
      refine lv_iload G.1 G.2.1 d_Mo_turnStep_75 (lv_at hl 2 rfl) ?_
      refine W.eq (g2 := F0 m 77 ls [.int r_3, .int v1, .ref (ad a0)]) rfl ?_
      refine lv_iload_n G.1 G.2.1 d_Mo_turnStep_77 rfl (lv_at hl 3 rfl) ?_
      refine ucVv (As := [.int v1, .int r_3, .int r_1]) (rest := []) G hP hD hS (cu_Mo_push l D g ad y _ s_12 a0 v1 r_3 r_1 H.size h_a0 h) w9_Mo_push q3907 ⟨Nat.le_of_ble_eq_true rfl, Nat.le_of_ble_eq_true rfl⟩ rfl rfl h_a0 (q := (RMo, TMo, 131)) rfl rfl hl.1 rfl (Nat.le_of_ble_eq_true rfl) rfl ⟨Nat.le_refl _, Nat.le_refl _⟩ d_Mo_turnStep_78 (fun s_14 H locs h hP hD hS => ?_)
      exact J_81 s_14 H locs h hP hD hS ls (lv_sub hl [] rfl)
  · skip
    have h := h.2 c16
    refine W.eq (g2 := F0 m 19 ls []) rfl ?_
    refine lv_aload_n G.1 G.2.1 d_Mo_turnStep_19 rfl (lv_at hl 2 rfl) ?_
    refine lv_iload_n G.1 G.2.1 d_Mo_turnStep_20 rfl (lv_at hl 3 rfl) ?_
    refine lv_iload G.1 G.2.1 d_Mo_turnStep_21 (lv_at hl 0 rfl) ?_
    refine lv_iload_n G.1 G.2.1 d_Mo_turnStep_23 rfl (lv_at hl 1 rfl) ?_
    refine ucVv (As := [.int v1, .int r_3, .int r_1]) (rest := []) G hP hD hS (cu_Mo_push l D g ad y _ s_4 a0 v1 r_3 r_1 H.size h_a0 h) w9_Mo_push q3907 ⟨Nat.le_of_ble_eq_true rfl, Nat.le_of_ble_eq_true rfl⟩ rfl rfl h_a0 (q := (RMo, TMo, 131)) rfl rfl hl.1 rfl (Nat.le_of_ble_eq_true rfl) rfl ⟨Nat.le_refl _, Nat.le_refl _⟩ d_Mo_turnStep_24 (fun s_16 H locs h hP hD hS => ?_)
    refine lv_aload_n G.1 G.2.1 d_Mo_turnStep_27 rfl (lv_at hl 2 rfl) ?_
    refine lv_iload_n G.1 G.2.1 d_Mo_turnStep_28 rfl (lv_at hl 3 rfl) ?_
    refine lv_iload G.1 G.2.1 d_Mo_turnStep_29 (lv_at hl 0 rfl) ?_
    refine lv_iload_n G.1 G.2.1 d_Mo_turnStep_31 rfl (lv_at hl 1 rfl) ?_
    refine ucVv (As := [.int v1, .int r_3, .int r_1]) (rest := []) G hP hD hS (cu_Mo_push l D g ad y _ s_16 a0 v1 r_3 r_1 H.size h_a0 h) w9_Mo_push q3907 ⟨Nat.le_of_ble_eq_true rfl, Nat.le_of_ble_eq_true rfl⟩ rfl rfl h_a0 (q := (RMo, TMo, 131)) rfl rfl hl.1 rfl (Nat.le_of_ble_eq_true rfl) rfl ⟨Nat.le_refl _, Nat.le_refl _⟩ d_Mo_turnStep_32 (fun s_18 H locs h hP hD hS => ?_)
    exact hret _ _ _ _ _ _ ls h hP hD hS (Nat.le_refl _) (Nat.le_refl _) d_Mo_turnStep_35
theorem q3919 : Cond.methodLink "ClassWorksModel" 986 y_Mo_endStart ∈ lw_ok := lw_okmem (List.mem_of_getElem? (i := 3919) (by decide +kernel)) rfl
theorem q3922 : Cond.code y_Mo_endStart b_Mo_endStart 3 (none) ∈ lw_ok := lw_okmem (List.mem_of_getElem? (i := 3922) (by decide +kernel)) rfl
theorem q3921 : Cond.instanceMethod y_Mo_endStart ∈ lw_ok := lw_okmem (List.mem_of_getElem? (i := 3921) (by decide +kernel)) rfl
theorem q269 : Cond.selects y_Mo_endStart.cls y_Mo_endStart y_Mo_endStart ∈ lw_ok := lw_okmem (List.mem_of_getElem? (i := 269) (by decide +kernel)) rfl
theorem w9_Mo_endStart : CWv y_Mo_endStart b_Mo_endStart 3 (none) 1 ∧ Cond.instanceMethod y_Mo_endStart ∈ lw_ok ∧ Cond.selects y_Mo_endStart.cls y_Mo_endStart y_Mo_endStart ∈ lw_ok := ⟨⟨q3922, q348, by decide +kernel, by decide +kernel, by decide +kernel⟩, q3921, q269⟩
def y_Mo_endFrame : MethodName := ⟨"ClassWorksModel", "endFrame", "(IIZ)V"⟩
abbrev b_Mo_endFrame : ByteArray := prog_14_method_101_code
theorem d_Mo_endFrame_0 : decode b_Mo_endFrame 0 = .ok (.aload_n 0, 1) := by decide +kernel
theorem d_Mo_endFrame_1 : decode b_Mo_endFrame 1 = .ok (.getfield 917, 3) := by decide +kernel
theorem d_Mo_endFrame_4 : decode b_Mo_endFrame 4 = .ok (.dup, 1) := by decide +kernel
theorem d_Mo_endFrame_5 : decode b_Mo_endFrame 5 = .ok (.getfield 924, 3) := by decide +kernel
theorem d_Mo_endFrame_8 : decode b_Mo_endFrame 8 = .ok (.iconst 1, 1) := by decide +kernel
theorem d_Mo_endFrame_9 : decode b_Mo_endFrame 9 = .ok (.isub, 1) := by decide +kernel
theorem d_Mo_endFrame_10 : decode b_Mo_endFrame 10 = .ok (.putfield 924, 3) := by decide +kernel
theorem d_Mo_endFrame_13 : decode b_Mo_endFrame 13 = .ok (.aload_n 0, 1) := by decide +kernel
theorem d_Mo_endFrame_14 : decode b_Mo_endFrame 14 = .ok (.getfield 917, 3) := by decide +kernel
theorem d_Mo_endFrame_17 : decode b_Mo_endFrame 17 = .ok (.dup, 1) := by decide +kernel
theorem d_Mo_endFrame_18 : decode b_Mo_endFrame 18 = .ok (.getfield 945, 3) := by decide +kernel
theorem d_Mo_endFrame_21 : decode b_Mo_endFrame 21 = .ok (.iconst 1, 1) := by decide +kernel
theorem d_Mo_endFrame_22 : decode b_Mo_endFrame 22 = .ok (.isub, 1) := by decide +kernel
theorem d_Mo_endFrame_23 : decode b_Mo_endFrame 23 = .ok (.putfield 945, 3) := by decide +kernel
theorem d_Mo_endFrame_26 : decode b_Mo_endFrame 26 = .ok (.aload_n 0, 1) := by decide +kernel
theorem d_Mo_endFrame_27 : decode b_Mo_endFrame 27 = .ok (.iconst 2, 1) := by decide +kernel
theorem d_Mo_endFrame_28 : decode b_Mo_endFrame 28 = .ok (.aload_n 0, 1) := by decide +kernel
theorem d_Mo_endFrame_29 : decode b_Mo_endFrame 29 = .ok (.getfield 917, 3) := by decide +kernel
theorem d_Mo_endFrame_32 : decode b_Mo_endFrame 32 = .ok (.getfield 927, 3) := by decide +kernel
theorem d_Mo_endFrame_35 : decode b_Mo_endFrame 35 = .ok (.aload_n 0, 1) := by decide +kernel
theorem d_Mo_endFrame_36 : decode b_Mo_endFrame 36 = .ok (.getfield 917, 3) := by decide +kernel
theorem d_Mo_endFrame_39 : decode b_Mo_endFrame 39 = .ok (.getfield 924, 3) := by decide +kernel
theorem d_Mo_endFrame_42 : decode b_Mo_endFrame 42 = .ok (.iaload, 1) := by decide +kernel
theorem d_Mo_endFrame_43 : decode b_Mo_endFrame 43 = .ok (.invokevirtual 951, 3) := by decide +kernel
theorem d_Mo_endFrame_46 : decode b_Mo_endFrame 46 = .ok (.aload_n 0, 1) := by decide +kernel
theorem d_Mo_endFrame_47 : decode b_Mo_endFrame 47 = .ok (.getfield 917, 3) := by decide +kernel
theorem d_Mo_endFrame_50 : decode b_Mo_endFrame 50 = .ok (.getfield 945, 3) := by decide +kernel
theorem d_Mo_endFrame_53 : decode b_Mo_endFrame 53 = .ok (.iconst 1, 1) := by decide +kernel
theorem d_Mo_endFrame_54 : decode b_Mo_endFrame 54 = .ok (.isub, 1) := by decide +kernel
theorem d_Mo_endFrame_55 : decode b_Mo_endFrame 55 = .ok (.istore 4, 2) := by decide +kernel
theorem d_Mo_endFrame_57 : decode b_Mo_endFrame 57 = .ok (.iload 4, 2) := by decide +kernel
theorem d_Mo_endFrame_59 : decode b_Mo_endFrame 59 = .ok (.ifCond .ge 127, 3) := by decide +kernel
theorem d_Mo_endFrame_62 : decode b_Mo_endFrame 62 = .ok (.aload_n 0, 1) := by decide +kernel
theorem d_Mo_endFrame_63 : decode b_Mo_endFrame 63 = .ok (.getfield 917, 3) := by decide +kernel
theorem d_Mo_endFrame_66 : decode b_Mo_endFrame 66 = .ok (.iconst 0, 1) := by decide +kernel
theorem d_Mo_endFrame_67 : decode b_Mo_endFrame 67 = .ok (.putfield 486, 3) := by decide +kernel
theorem d_Mo_endFrame_70 : decode b_Mo_endFrame 70 = .ok (.aload_n 0, 1) := by decide +kernel
theorem d_Mo_endFrame_71 : decode b_Mo_endFrame 71 = .ok (.getfield 917, 3) := by decide +kernel
theorem d_Mo_endFrame_74 : decode b_Mo_endFrame 74 = .ok (.iload_n 1, 1) := by decide +kernel
theorem d_Mo_endFrame_75 : decode b_Mo_endFrame 75 = .ok (.ifCond .ne 7, 3) := by decide +kernel
theorem d_Mo_endFrame_78 : decode b_Mo_endFrame 78 = .ok (.iconst 0, 1) := by decide +kernel
theorem d_Mo_endFrame_79 : decode b_Mo_endFrame 79 = .ok (.goto 44, 3) := by decide +kernel
theorem d_Mo_endFrame_82 : decode b_Mo_endFrame 82 = .ok (.iload_n 3, 1) := by decide +kernel
theorem d_Mo_endFrame_83 : decode b_Mo_endFrame 83 = .ok (.ifCond .ne 7, 3) := by decide +kernel
theorem d_Mo_endFrame_86 : decode b_Mo_endFrame 86 = .ok (.iconst 1, 1) := by decide +kernel
theorem d_Mo_endFrame_87 : decode b_Mo_endFrame 87 = .ok (.goto 36, 3) := by decide +kernel
theorem d_Mo_endFrame_90 : decode b_Mo_endFrame 90 = .ok (.iload_n 2, 1) := by decide +kernel
theorem d_Mo_endFrame_91 : decode b_Mo_endFrame 91 = .ok (.ifCond .ne 7, 3) := by decide +kernel
theorem d_Mo_endFrame_94 : decode b_Mo_endFrame 94 = .ok (.iconst 2, 1) := by decide +kernel
theorem d_Mo_endFrame_95 : decode b_Mo_endFrame 95 = .ok (.goto 28, 3) := by decide +kernel
theorem d_Mo_endFrame_98 : decode b_Mo_endFrame 98 = .ok (.iload_n 2, 1) := by decide +kernel
theorem d_Mo_endFrame_99 : decode b_Mo_endFrame 99 = .ok (.sipush 1001, 3) := by decide +kernel
theorem d_Mo_endFrame_102 : decode b_Mo_endFrame 102 = .ok (.if_icmp .ge 20, 3) := by decide +kernel
theorem d_Mo_endFrame_105 : decode b_Mo_endFrame 105 = .ok (.aload_n 0, 1) := by decide +kernel
theorem d_Mo_endFrame_106 : decode b_Mo_endFrame 106 = .ok (.getfield 522, 3) := by decide +kernel
theorem d_Mo_endFrame_109 : decode b_Mo_endFrame 109 = .ok (.getfield 872, 3) := by decide +kernel
theorem d_Mo_endFrame_112 : decode b_Mo_endFrame 112 = .ok (.iload_n 2, 1) := by decide +kernel
theorem d_Mo_endFrame_113 : decode b_Mo_endFrame 113 = .ok (.iaload, 1) := by decide +kernel
theorem d_Mo_endFrame_114 : decode b_Mo_endFrame 114 = .ok (.iconst (-1), 1) := by decide +kernel
theorem d_Mo_endFrame_115 : decode b_Mo_endFrame 115 = .ok (.if_icmp .ne 7, 3) := by decide +kernel
theorem d_Mo_endFrame_118 : decode b_Mo_endFrame 118 = .ok (.iconst 3, 1) := by decide +kernel
theorem d_Mo_endFrame_119 : decode b_Mo_endFrame 119 = .ok (.goto 4, 3) := by decide +kernel
theorem d_Mo_endFrame_122 : decode b_Mo_endFrame 122 = .ok (.iconst 4, 1) := by decide +kernel
theorem d_Mo_endFrame_123 : decode b_Mo_endFrame 123 = .ok (.putfield 974, 3) := by decide +kernel
theorem d_Mo_endFrame_126 : decode b_Mo_endFrame 126 = .ok (.aload_n 0, 1) := by decide +kernel
theorem d_Mo_endFrame_127 : decode b_Mo_endFrame 127 = .ok (.getfield 917, 3) := by decide +kernel
theorem d_Mo_endFrame_130 : decode b_Mo_endFrame 130 = .ok (.aload_n 0, 1) := by decide +kernel
theorem d_Mo_endFrame_131 : decode b_Mo_endFrame 131 = .ok (.getfield 917, 3) := by decide +kernel
theorem d_Mo_endFrame_134 : decode b_Mo_endFrame 134 = .ok (.getfield 974, 3) := by decide +kernel
theorem d_Mo_endFrame_137 : decode b_Mo_endFrame 137 = .ok (.iconst 1, 1) := by decide +kernel
theorem d_Mo_endFrame_138 : decode b_Mo_endFrame 138 = .ok (.if_icmp .ne 7, 3) := by decide +kernel
theorem d_Mo_endFrame_141 : decode b_Mo_endFrame 141 = .ok (.iload_n 2, 1) := by decide +kernel
theorem d_Mo_endFrame_142 : decode b_Mo_endFrame 142 = .ok (.goto 4, 3) := by decide +kernel
theorem d_Mo_endFrame_145 : decode b_Mo_endFrame 145 = .ok (.iconst 0, 1) := by decide +kernel
theorem d_Mo_endFrame_146 : decode b_Mo_endFrame 146 = .ok (.putfield 977, 3) := by decide +kernel
theorem d_Mo_endFrame_149 : decode b_Mo_endFrame 149 = .ok (.aload_n 0, 1) := by decide +kernel
theorem d_Mo_endFrame_150 : decode b_Mo_endFrame 150 = .ok (.getfield 917, 3) := by decide +kernel
theorem d_Mo_endFrame_153 : decode b_Mo_endFrame 153 = .ok (.aload_n 0, 1) := by decide +kernel
theorem d_Mo_endFrame_154 : decode b_Mo_endFrame 154 = .ok (.getfield 917, 3) := by decide +kernel
theorem d_Mo_endFrame_157 : decode b_Mo_endFrame 157 = .ok (.getfield 974, 3) := by decide +kernel
theorem d_Mo_endFrame_160 : decode b_Mo_endFrame 160 = .ok (.iconst 4, 1) := by decide +kernel
theorem d_Mo_endFrame_161 : decode b_Mo_endFrame 161 = .ok (.if_icmp .ne 11, 3) := by decide +kernel
theorem d_Mo_endFrame_164 : decode b_Mo_endFrame 164 = .ok (.aload_n 0, 1) := by decide +kernel
theorem d_Mo_endFrame_165 : decode b_Mo_endFrame 165 = .ok (.iload_n 2, 1) := by decide +kernel
theorem d_Mo_endFrame_166 : decode b_Mo_endFrame 166 = .ok (.invokevirtual 960, 3) := by decide +kernel
theorem d_Mo_endFrame_169 : decode b_Mo_endFrame 169 = .ok (.goto 5, 3) := by decide +kernel
theorem d_Mo_endFrame_172 : decode b_Mo_endFrame 172 = .ok (.bipush (-2), 2) := by decide +kernel
theorem d_Mo_endFrame_174 : decode b_Mo_endFrame 174 = .ok (.putfield 980, 3) := by decide +kernel
theorem d_Mo_endFrame_177 : decode b_Mo_endFrame 177 = .ok (.aload_n 0, 1) := by decide +kernel
theorem d_Mo_endFrame_178 : decode b_Mo_endFrame 178 = .ok (.getfield 917, 3) := by decide +kernel
theorem d_Mo_endFrame_181 : decode b_Mo_endFrame 181 = .ok (.iconst 0, 1) := by decide +kernel
theorem d_Mo_endFrame_182 : decode b_Mo_endFrame 182 = .ok (.putfield 983, 3) := by decide +kernel
theorem d_Mo_endFrame_185 : decode b_Mo_endFrame 185 = .ok (.return_, 1) := by decide +kernel
theorem d_Mo_endFrame_186 : decode b_Mo_endFrame 186 = .ok (.aload_n 0, 1) := by decide +kernel
theorem d_Mo_endFrame_187 : decode b_Mo_endFrame 187 = .ok (.getfield 917, 3) := by decide +kernel
theorem d_Mo_endFrame_190 : decode b_Mo_endFrame 190 = .ok (.getfield 942, 3) := by decide +kernel
theorem d_Mo_endFrame_193 : decode b_Mo_endFrame 193 = .ok (.iload 4, 2) := by decide +kernel
theorem d_Mo_endFrame_195 : decode b_Mo_endFrame 195 = .ok (.iaload, 1) := by decide +kernel
theorem d_Mo_endFrame_196 : decode b_Mo_endFrame 196 = .ok (.istore 5, 2) := by decide +kernel
theorem d_Mo_endFrame_198 : decode b_Mo_endFrame 198 = .ok (.iload 5, 2) := by decide +kernel
theorem d_Mo_endFrame_200 : decode b_Mo_endFrame 200 = .ok (.ifCond .lt 30, 3) := by decide +kernel
theorem d_Mo_endFrame_203 : decode b_Mo_endFrame 203 = .ok (.iload_n 1, 1) := by decide +kernel
theorem d_Mo_endFrame_204 : decode b_Mo_endFrame 204 = .ok (.ifCond .eq 11, 3) := by decide +kernel
theorem d_Mo_endFrame_207 : decode b_Mo_endFrame 207 = .ok (.aload_n 0, 1) := by decide +kernel
theorem d_Mo_endFrame_208 : decode b_Mo_endFrame 208 = .ok (.iload 5, 2) := by decide +kernel
theorem d_Mo_endFrame_210 : decode b_Mo_endFrame 210 = .ok (.iload_n 2, 1) := by decide +kernel
theorem d_Mo_endFrame_211 : decode b_Mo_endFrame 211 = .ok (.iload_n 3, 1) := by decide +kernel
theorem d_Mo_endFrame_212 : decode b_Mo_endFrame 212 = .ok (.invokevirtual 970, 3) := by decide +kernel
theorem d_Mo_endFrame_215 : decode b_Mo_endFrame 215 = .ok (.aload_n 0, 1) := by decide +kernel
theorem d_Mo_endFrame_216 : decode b_Mo_endFrame 216 = .ok (.getfield 917, 3) := by decide +kernel
theorem d_Mo_endFrame_219 : decode b_Mo_endFrame 219 = .ok (.getfield 930, 3) := by decide +kernel
theorem d_Mo_endFrame_222 : decode b_Mo_endFrame 222 = .ok (.iload 5, 2) := by decide +kernel
theorem d_Mo_endFrame_224 : decode b_Mo_endFrame 224 = .ok (.dup2, 1) := by decide +kernel
theorem d_Mo_endFrame_225 : decode b_Mo_endFrame 225 = .ok (.iaload, 1) := by decide +kernel
theorem d_Mo_endFrame_226 : decode b_Mo_endFrame 226 = .ok (.iconst 1, 1) := by decide +kernel
theorem d_Mo_endFrame_227 : decode b_Mo_endFrame 227 = .ok (.iadd, 1) := by decide +kernel
theorem d_Mo_endFrame_228 : decode b_Mo_endFrame 228 = .ok (.iastore, 1) := by decide +kernel
theorem d_Mo_endFrame_229 : decode b_Mo_endFrame 229 = .ok (.return_, 1) := by decide +kernel
theorem d_Mo_endFrame_230 : decode b_Mo_endFrame 230 = .ok (.aload_n 0, 1) := by decide +kernel
theorem d_Mo_endFrame_231 : decode b_Mo_endFrame 231 = .ok (.iload 4, 2) := by decide +kernel
theorem d_Mo_endFrame_233 : decode b_Mo_endFrame 233 = .ok (.invokevirtual 986, 3) := by decide +kernel
theorem d_Mo_endFrame_236 : decode b_Mo_endFrame 236 = .ok (.return_, 1) := by decide +kernel
abbrev ru_Mo_endFrame : Room := { frames := 2, cells := 0, slots := 0, locals := 45 }
def wj_Mo_endFrame_215 (y : Ly) (Post : St → Prop) (a0 : Nat) (s_j215 : St) (x5j215 : Int32) : Prop := ∃ b_27 : Nat, sO s_j215 a0 46 = some b_27 ∧ cl b_27 = 12 ∧ xA y s_j215 b_27 18 x5j215 (fun x_30 : Int32 => xS y s_j215 b_27 18 x5j215 (x_30 + 1) (fun s_31 : St => Post s_31))
def wj_Mo_endFrame_174 (y : Ly) (Post : St → Prop) (a0 : Nat) (s_j174 : St) (z0j174 : Nat) (z1j174 : Int32) : Prop := cl z0j174 = 12 ∧ xP (uV s_j174 z0j174 12 z1j174) (fun s_55 : St => ∃ b_56 : Nat, sO s_55 a0 46 = some b_56 ∧ cl b_56 = 12 ∧ xP (uV s_55 b_56 13 0) (fun s_59 : St => Post s_59))
def wj_Mo_endFrame_146 (y : Ly) (Post : St → Prop) (a0 : Nat) (s_j146 : St) (x2j146 : Int32) (z0j146 : Nat) (z1j146 : Int32) : Prop := cl z0j146 = 12 ∧ xP (uV s_j146 z0j146 11 z1j146) (fun s_48 : St => ∃ b_49 : Nat, sO s_48 a0 46 = some b_49 ∧ cl b_49 = 12 ∧ ∃ b_52 : Nat, sO s_48 a0 46 = some b_52 ∧ cl b_52 = 12 ∧ ((¬ (sV s_48 b_52 10) = 4 → wj_Mo_endFrame_174 y Post a0 s_48 b_49 (-2)) ∧ ((sV s_48 b_52 10) = 4 → wu_Mo_classOfRef y (fun (s_61 : St) (r_60 : Int32) => wj_Mo_endFrame_174 y Post a0 s_61 b_49 r_60) s_48 a0 x2j146)))
def wj_Mo_endFrame_123 (y : Ly) (Post : St → Prop) (a0 : Nat) (s_j123 : St) (x2j123 : Int32) (z0j123 : Nat) (z1j123 : Int32) : Prop := cl z0j123 = 12 ∧ xP (uV s_j123 z0j123 10 z1j123) (fun s_41 : St => ∃ b_42 : Nat, sO s_41 a0 46 = some b_42 ∧ cl b_42 = 12 ∧ ∃ b_45 : Nat, sO s_41 a0 46 = some b_45 ∧ cl b_45 = 12 ∧ ((¬ (sV s_41 b_45 10) = 1 → wj_Mo_endFrame_146 y Post a0 s_41 x2j123 b_42 0) ∧ ((sV s_41 b_45 10) = 1 → wj_Mo_endFrame_146 y Post a0 s_41 x2j123 b_42 x2j123)))
def wj_Mo_endFrame_122 (y : Ly) (Post : St → Prop) (a0 : Nat) (s_j122 : St) (x2j122 : Int32) (z0j122 : Nat) : Prop := cl z0j122 = 12 ∧ wj_Mo_endFrame_123 y Post a0 s_j122 x2j122 z0j122 4
def wu_Mo_endFrame (y : Ly) (Post : St → Prop) (σ : St) (a0 : Nat) (v1 : Int32) (v2 : Int32) (v3 : Int32) : Prop := ∃ b_1 : Nat, sO σ a0 46 = some b_1 ∧ cl b_1 = 12 ∧ xP (uV σ b_1 22 ((sV σ b_1 22) - 1)) (fun s_4 : St => ∃ b_5 : Nat, sO s_4 a0 46 = some b_5 ∧ cl b_5 = 12 ∧ xP (uV s_4 b_5 16 ((sV s_4 b_5 16) - 1)) (fun s_8 : St => ∃ b_9 : Nat, sO s_8 a0 46 = some b_9 ∧ cl b_9 = 12 ∧ ∃ b_12 : Nat, sO s_8 a0 46 = some b_12 ∧ cl b_12 = 12 ∧ xA y s_8 b_9 17 (sV s_8 b_12 22) (fun x_15 : Int32 => wu_Mo_note y (fun (s_17 : St) => ∃ b_18 : Nat, sO s_17 a0 46 = some b_18 ∧ cl b_18 = 12 ∧ ((0 ≤ ((sV s_17 b_18 16) - 1) → ∃ b_21 : Nat, sO s_17 a0 46 = some b_21 ∧ cl b_21 = 12 ∧ xA y s_17 b_21 14 ((sV s_17 b_18 16) - 1) (fun x_24 : Int32 => ((x_24 < 0 → wu_Mo_endStart y (fun (s_26 : St) => Post s_26) s_17 a0 ((sV s_17 b_18 16) - 1)) ∧ (¬ (x_24 < 0) → ((v1 = 0 → wj_Mo_endFrame_215 y Post a0 s_17 x_24) ∧ (¬ (v1 = 0) → wu_Mo_push y (fun (s_33 : St) => wj_Mo_endFrame_215 y Post a0 s_33 x_24) s_17 a0 x_24 v2 v3)))))) ∧ (¬ (0 ≤ ((sV s_17 b_18 16) - 1)) → ∃ b_34 : Nat, sO s_17 a0 46 = some b_34 ∧ cl b_34 = 12 ∧ xP (uV s_17 b_34 0 0) (fun s_37 : St => ∃ b_38 : Nat, sO s_37 a0 46 = some b_38 ∧ cl b_38 = 12 ∧ ((¬ v1 = 0 → ((¬ v3 = 0 → ((¬ v2 = 0 → ((1001 ≤ v2 → wj_Mo_endFrame_122 y Post a0 s_37 v2 b_38) ∧ (¬ (1001 ≤ v2) → ∃ b_62 : Nat, sO s_37 a0 45 = some b_62 ∧ cl b_62 = 13 ∧ xA y s_37 b_62 45 v2 (fun x_65 : Int32 => ((¬ x_65 = (-1) → wj_Mo_endFrame_122 y Post a0 s_37 v2 b_38) ∧ (x_65 = (-1) → wj_Mo_endFrame_123 y Post a0 s_37 v2 b_38 3)))))) ∧ (v2 = 0 → wj_Mo_endFrame_123 y Post a0 s_37 v2 b_38 2))) ∧ (v3 = 0 → wj_Mo_endFrame_123 y Post a0 s_37 v2 b_38 1))) ∧ (v1 = 0 → wj_Mo_endFrame_123 y Post a0 s_37 v2 b_38 0)))))) s_8 a0 2 x_15)))
set_option maxHeartbeats 4000000 in
set_option maxRecDepth 100000 in
theorem cu_Mo_endFrame (l : Launch) (D : va_G) (g : Nat → ClassId) (ad : Nat → Nat) (y : Ly) (Post : St → Prop) (σ : St) (a0 : Nat) (v1 : Int32) (v2 : Int32) (v3 : Int32) (sz : Nat) (h_a0 : cl a0 = 14) (h : wu_Mo_endFrame y Post σ a0 v1 v2 v3) : Met l y_Mo_endFrame (mw y_Mo_endFrame b_Mo_endFrame 6 (none)) ru_Mo_endFrame (PC g D [] [.ref (ad a0), .int v1, .int v2, .int v3] sz (ws g ad y σ)) (va_Qv (fun u : St => Post u) (QW D (va_A (ws g ad y σ) sz) (fun u => ws g ad y u)) (va_A (ws g ad y σ) sz)) 0 0 (va_A (ws g ad y σ) sz) := by
  refine ofV (by decide +kernel) (Nat.le_of_ble_eq_true rfl) ?_
  intro p e s m args below meth c A Q ls H locs G hsz hP hD hS hl hret
  subst hsz
  have hl : lv_has ls 6 [(0, .ref (ad a0)), (1, .int v1), (2, .int v2), (3, .int v3)] := hl
  unfold wu_Mo_endFrame at h
  refine lv_aload_n G.1 G.2.1 d_Mo_endFrame_0 rfl (lv_at hl 0 rfl) ?_
  obtain ⟨b_1, e_2, c_3, h⟩ := h
  refine ugf (v := .ref (ad b_1)) G hP h_a0 iMo rfl 46 (by decide) rfl q3110 rfl (by show va_rf ((sO σ a0 46).map ad) = _; rw [e_2]; rfl) d_Mo_endFrame_1 ?_
  refine lv_dup G.1 G.2.1 d_Mo_endFrame_4 rfl ?_
  refine ugfN (v := .int (sV σ b_1 22)) G hP c_3 iMr rfl 22 (by decide) rfl q3016 rfl rfl d_Mo_endFrame_5 ?_
  refine lv_iconst (v := 1) G.1 G.2.1 d_Mo_endFrame_8 (by decide) ?_
  refine lv_isub G.1 G.2.1 d_Mo_endFrame_9 ?_
  refine upfN G hP hD hS h 22 putV c_3 iMr tMr tMr_ok nMr rfl (by decide) rfl q3016 rfl rfl fV rfl rfl d_Mo_endFrame_10 (fun s_4 H locs h hP hD hS => ?_)
  refine lv_aload_n G.1 G.2.1 d_Mo_endFrame_13 rfl (lv_at hl 0 rfl) ?_
  obtain ⟨b_5, e_6, c_7, h⟩ := h
  refine ugf (v := .ref (ad b_5)) G hP h_a0 iMo rfl 46 (by decide) rfl q3110 rfl (by show va_rf ((sO s_4 a0 46).map ad) = _; rw [e_6]; rfl) d_Mo_endFrame_14 ?_
  refine lv_dup G.1 G.2.1 d_Mo_endFrame_17 rfl ?_
  refine ugfN (v := .int (sV s_4 b_5 16)) G hP c_7 iMr rfl 16 (by decide) rfl q3005 rfl rfl d_Mo_endFrame_18 ?_
  refine W.eq (g2 := F0 m 21 ls [.int (sV s_4 b_5 16), .ref (ad b_5)]) rfl ?_
  refine lv_iconst (v := 1) G.1 G.2.1 d_Mo_endFrame_21 (by decide) ?_
  refine lv_isub G.1 G.2.1 d_Mo_endFrame_22 ?_
  refine upfN G hP hD hS h 16 putV c_7 iMr tMr tMr_ok nMr rfl (by decide) rfl q3005 rfl rfl fV rfl rfl d_Mo_endFrame_23 (fun s_8 H locs h hP hD hS => ?_)
  refine lv_aload_n G.1 G.2.1 d_Mo_endFrame_26 rfl (lv_at hl 0 rfl) ?_
  refine lv_iconst (v := 2) G.1 G.2.1 d_Mo_endFrame_27 (by decide) ?_
  refine lv_aload_n G.1 G.2.1 d_Mo_endFrame_28 rfl (lv_at hl 0 rfl) ?_
  obtain ⟨b_9, e_10, c_11, h⟩ := h
  refine ugf (v := .ref (ad b_9)) G hP h_a0 iMo rfl 46 (by decide) rfl q3110 rfl (by show va_rf ((sO s_8 a0 46).map ad) = _; rw [e_10]; rfl) d_Mo_endFrame_29 ?_
  refine ugfN (v := .ref (yP y b_9 17)) G hP c_11 iMr rfl 17 (by decide) rfl q3007 rfl rfl d_Mo_endFrame_32 ?_
  refine lv_aload_n G.1 G.2.1 d_Mo_endFrame_35 rfl (lv_at hl 0 rfl) ?_
  obtain ⟨b_12, e_13, c_14, h⟩ := h
  refine ugf (v := .ref (ad b_12)) G hP h_a0 iMo rfl 46 (by decide) rfl q3110 rfl (by show va_rf ((sO s_8 a0 46).map ad) = _; rw [e_13]; rfl) d_Mo_endFrame_36 ?_
  refine ugfN (v := .int (sV s_8 b_12 22)) G hP c_14 iMr rfl 22 (by decide) rfl q3016 rfl rfl d_Mo_endFrame_39 ?_
  refine uiald G hP (kdp c_11 rfl) (typ c_11 rfl) h d_Mo_endFrame_42 (fun x_15 h => ?_)
  refine W.eq (g2 := F0 m 43 ls [.int x_15, .int 2, .ref (ad a0)]) rfl ?_
  refine ucVv (As := [.int 2, .int x_15]) (rest := []) G hP hD hS (cu_Mo_note l D g ad y _ s_8 a0 2 x_15 H.size h_a0 h) w9_Mo_note q3879 ⟨Nat.le_of_ble_eq_true rfl, Nat.le_of_ble_eq_true rfl⟩ rfl rfl h_a0 (q := (RMo, TMo, 131)) rfl rfl hl.1 rfl (Nat.le_of_ble_eq_true rfl) rfl ⟨Nat.le_refl _, Nat.le_refl _⟩ d_Mo_endFrame_43 (fun s_17 H locs h hP hD hS => ?_)
  refine lv_aload_n G.1 G.2.1 d_Mo_endFrame_46 rfl (lv_at hl 0 rfl) ?_
  obtain ⟨b_18, e_19, c_20, h⟩ := h
  refine ugf (v := .ref (ad b_18)) G hP h_a0 iMo rfl 46 (by decide) rfl q3110 rfl (by show va_rf ((sO s_17 a0 46).map ad) = _; rw [e_19]; rfl) d_Mo_endFrame_47 ?_
  refine ugfN (v := .int (sV s_17 b_18 16)) G hP c_20 iMr rfl 16 (by decide) rfl q3005 rfl rfl d_Mo_endFrame_50 ?_
  refine lv_iconst (v := 1) G.1 G.2.1 d_Mo_endFrame_53 (by decide) ?_
  refine lv_isub G.1 G.2.1 d_Mo_endFrame_54 ?_
  refine lv_istore (lv' := [(4, .int ((sV s_17 b_18 16) - 1)), (0, .ref (ad a0)), (1, .int v1), (2, .int v2), (3, .int v3)]) G.1 G.2.1 d_Mo_endFrame_55 hl (by decide) rfl (fun ls hl => ?_)
  refine lv_iload G.1 G.2.1 d_Mo_endFrame_57 (lv_at hl 0 rfl) ?_
  refine lv_if_ge (tgt := 186) G.1 G.2.1 d_Mo_endFrame_59 (by decide) (fun c59 => ?_) (fun c59 => ?_)
  · skip
    have h := h.1 c59
    refine lv_aload_n G.1 G.2.1 d_Mo_endFrame_186 rfl (lv_at hl 1 rfl) ?_
    obtain ⟨b_21, e_22, c_23, h⟩ := h
    refine ugf (v := .ref (ad b_21)) G hP h_a0 iMo rfl 46 (by decide) rfl q3110 rfl (by show va_rf ((sO s_17 a0 46).map ad) = _; rw [e_22]; rfl) d_Mo_endFrame_187 ?_
    refine ugfN (v := .ref (yP y b_21 14)) G hP c_23 iMr rfl 14 (by decide) rfl q3002 rfl rfl d_Mo_endFrame_190 ?_
    refine W.eq (g2 := F0 m 193 ls [.ref (yP y b_21 14)]) rfl ?_
    refine lv_iload G.1 G.2.1 d_Mo_endFrame_193 (lv_at hl 0 rfl) ?_
    refine uiald G hP (kdp c_23 rfl) (typ c_23 rfl) h d_Mo_endFrame_195 (fun x_24 h => ?_)
    refine lv_istore (lv' := [(5, .int x_24), (4, .int ((sV s_17 b_18 16) - 1)), (0, .ref (ad a0)), (1, .int v1), (2, .int v2), (3, .int v3)]) G.1 G.2.1 d_Mo_endFrame_196 hl (by decide) rfl (fun ls hl => ?_)
    refine lv_iload G.1 G.2.1 d_Mo_endFrame_198 (lv_at hl 0 rfl) ?_
    refine lv_if_lt (tgt := 230) G.1 G.2.1 d_Mo_endFrame_200 (by decide) (fun c200 => ?_) (fun c200 => ?_)
    · skip
      have h := h.1 c200
      refine lv_aload_n G.1 G.2.1 d_Mo_endFrame_230 rfl (lv_at hl 2 rfl) ?_
      refine lv_iload G.1 G.2.1 d_Mo_endFrame_231 (lv_at hl 1 rfl) ?_
      refine ucVv (As := [.int ((sV s_17 b_18 16) - 1)]) (rest := []) G hP hD hS (cu_Mo_endStart l D g ad y _ s_17 a0 ((sV s_17 b_18 16) - 1) H.size h_a0 h) w9_Mo_endStart q3919 ⟨Nat.le_of_ble_eq_true rfl, Nat.le_of_ble_eq_true rfl⟩ rfl rfl h_a0 (q := (RMo, TMo, 131)) rfl rfl hl.1 rfl (Nat.le_of_ble_eq_true rfl) rfl ⟨Nat.le_refl _, Nat.le_refl _⟩ d_Mo_endFrame_233 (fun s_26 H locs h hP hD hS => ?_)
      exact hret _ _ _ _ _ _ ls h hP hD hS (Nat.le_refl _) (Nat.le_refl _) d_Mo_endFrame_236
    · skip
      have h := h.2 c200
      refine lv_iload_n G.1 G.2.1 d_Mo_endFrame_203 rfl (lv_at hl 3 rfl) ?_
      have J_215 : ∀ (s_j215 : St) (x5j215 : Int32) (H : Heap) (locs : List Loc), wj_Mo_endFrame_215 y Post a0 s_j215 x5j215 → va_P D CL (ws g ad y s_j215) H → va_D A (ws g ad y s_j215) → va_S A s.heap H locs → ∀ ls, lv_has ls 6 [(0, .ref (ad a0)), (5, .int x5j215)] → W p l e ru_Mo_endFrame s m args below meth c H locs 0 0 Q (F0 m 215 ls []) := by
        intro s_j215 x5j215 H locs h hP hD hS ls hl
        unfold wj_Mo_endFrame_215 at h
        refine lv_aload_n G.1 G.2.1 d_Mo_endFrame_215 rfl (lv_at hl 0 rfl) ?_
        obtain ⟨b_27, e_28, c_29, h⟩ := h
        refine ugf (v := .ref (ad b_27)) G hP h_a0 iMo rfl 46 (by decide) rfl q3110 rfl (by show va_rf ((sO s_j215 a0 46).map ad) = _; rw [e_28]; rfl) d_Mo_endFrame_216 ?_
        refine ugfN (v := .ref (yP y b_27 18)) G hP c_29 iMr rfl 18 (by decide) rfl q3009 rfl rfl d_Mo_endFrame_219 ?_
        refine lv_iload G.1 G.2.1 d_Mo_endFrame_222 (lv_at hl 1 rfl) ?_
        refine lv_dup2_11 G.1 G.2.1 d_Mo_endFrame_224 rfl rfl ?_
        refine uiald G hP (kdp c_29 rfl) (typ c_29 rfl) h d_Mo_endFrame_225 (fun x_30 h => ?_)
        refine lv_iconst (v := 1) G.1 G.2.1 d_Mo_endFrame_226 (by decide) ?_
        refine lv_iadd G.1 G.2.1 d_Mo_endFrame_227 ?_
        refine uiast G hP hD hS (kdp c_29 rfl) (typ c_29 rfl) h d_Mo_endFrame_228 (fun s_31 H locs h hP hD hS => ?_)
        exact hret _ _ _ _ _ _ ls h hP hD hS (Nat.le_refl _) (Nat.le_refl _) d_Mo_endFrame_229
      refine lv_if_eq (tgt := 215) G.1 G.2.1 d_Mo_endFrame_204 (by decide) (fun c204 => ?_) (fun c204 => ?_)
      · skip
        have h := h.1 c204
        exact J_215 s_17 x_24 H locs h hP hD hS ls (lv_sub hl [2, 0] rfl)
      · skip
        have h := h.2 c204
        refine lv_aload_n G.1 G.2.1 d_Mo_endFrame_207 rfl (lv_at hl 2 rfl) ?_
        refine lv_iload G.1 G.2.1 d_Mo_endFrame_208 (lv_at hl 0 rfl) ?_
        refine lv_iload_n G.1 G.2.1 d_Mo_endFrame_210 rfl (lv_at hl 4 rfl) ?_
        refine lv_iload_n G.1 G.2.1 d_Mo_endFrame_211 rfl (lv_at hl 5 rfl) ?_
        refine ucVv (As := [.int x_24, .int v2, .int v3]) (rest := []) G hP hD hS (cu_Mo_push l D g ad y _ s_17 a0 x_24 v2 v3 H.size h_a0 h) w9_Mo_push q3907 ⟨Nat.le_of_ble_eq_true rfl, Nat.le_of_ble_eq_true rfl⟩ rfl rfl h_a0 (q := (RMo, TMo, 131)) rfl rfl hl.1 rfl (Nat.le_of_ble_eq_true rfl) rfl ⟨Nat.le_refl _, Nat.le_refl _⟩ d_Mo_endFrame_212 (fun s_33 H locs h hP hD hS => ?_)
        exact J_215 s_33 x_24 H locs h hP hD hS ls (lv_sub hl [2, 0] rfl)
  · skip
    have h := h.2 c59
    refine lv_aload_n G.1 G.2.1 d_Mo_endFrame_62 rfl (lv_at hl 1 rfl) ?_
    obtain ⟨b_34, e_35, c_36, h⟩ := h
    refine ugf (v := .ref (ad b_34)) G hP h_a0 iMo rfl 46 (by decide) rfl q3110 rfl (by show va_rf ((sO s_17 a0 46).map ad) = _; rw [e_35]; rfl) d_Mo_endFrame_63 ?_
    refine lv_iconst (v := 0) G.1 G.2.1 d_Mo_endFrame_66 (by decide) ?_
    refine W.eq (g2 := F0 m 67 ls [.int 0, .ref (ad b_34)]) rfl ?_
    refine upfN G hP hD hS h 0 putV c_36 iMr tMr tMr_ok nMr rfl (by decide) rfl q2987 rfl rfl fV rfl rfl d_Mo_endFrame_67 (fun s_37 H locs h hP hD hS => ?_)
    refine lv_aload_n G.1 G.2.1 d_Mo_endFrame_70 rfl (lv_at hl 1 rfl) ?_
    obtain ⟨b_38, e_39, c_40, h⟩ := h
    refine ugf (v := .ref (ad b_38)) G hP h_a0 iMo rfl 46 (by decide) rfl q3110 rfl (by show va_rf ((sO s_37 a0 46).map ad) = _; rw [e_39]; rfl) d_Mo_endFrame_71 ?_
    refine lv_iload_n G.1 G.2.1 d_Mo_endFrame_74 rfl (lv_at hl 2 rfl) ?_
    have J_123 : ∀ (s_j123 : St) (x2j123 : Int32) (z0j123 : Nat) (z1j123 : Int32) (H : Heap) (locs : List Loc), wj_Mo_endFrame_123 y Post a0 s_j123 x2j123 z0j123 z1j123 → va_P D CL (ws g ad y s_j123) H → va_D A (ws g ad y s_j123) → va_S A s.heap H locs → ∀ ls, lv_has ls 6 [(0, .ref (ad a0)), (2, .int x2j123)] → W p l e ru_Mo_endFrame s m args below meth c H locs 0 0 Q (F0 m 123 ls [.int z1j123, .ref (ad z0j123)]) := by
      intro s_j123 x2j123 z0j123 z1j123 H locs h hP hD hS ls hl
      unfold wj_Mo_endFrame_123 at h
      obtain ⟨c_z0j123, h⟩ := h
      refine upfN G hP hD hS h 10 putV c_z0j123 iMr tMr tMr_ok nMr rfl (by decide) rfl q2997 rfl rfl fV rfl rfl d_Mo_endFrame_123 (fun s_41 H locs h hP hD hS => ?_)
      refine lv_aload_n G.1 G.2.1 d_Mo_endFrame_126 rfl (lv_at hl 0 rfl) ?_
      obtain ⟨b_42, e_43, c_44, h⟩ := h
      refine ugf (v := .ref (ad b_42)) G hP h_a0 iMo rfl 46 (by decide) rfl q3110 rfl (by show va_rf ((sO s_41 a0 46).map ad) = _; rw [e_43]; rfl) d_Mo_endFrame_127 ?_
      refine lv_aload_n G.1 G.2.1 d_Mo_endFrame_130 rfl (lv_at hl 0 rfl) ?_
      obtain ⟨b_45, e_46, c_47, h⟩ := h
      refine ugf (v := .ref (ad b_45)) G hP h_a0 iMo rfl 46 (by decide) rfl q3110 rfl (by show va_rf ((sO s_41 a0 46).map ad) = _; rw [e_46]; rfl) d_Mo_endFrame_131 ?_
      refine ugfN (v := .int (sV s_41 b_45 10)) G hP c_47 iMr rfl 10 (by decide) rfl q2997 rfl rfl d_Mo_endFrame_134 ?_
      refine lv_iconst (v := 1) G.1 G.2.1 d_Mo_endFrame_137 (by decide) ?_
      have J_146 : ∀ (s_j146 : St) (x2j146 : Int32) (z0j146 : Nat) (z1j146 : Int32) (H : Heap) (locs : List Loc), wj_Mo_endFrame_146 y Post a0 s_j146 x2j146 z0j146 z1j146 → va_P D CL (ws g ad y s_j146) H → va_D A (ws g ad y s_j146) → va_S A s.heap H locs → ∀ ls, lv_has ls 6 [(0, .ref (ad a0)), (2, .int x2j146)] → W p l e ru_Mo_endFrame s m args below meth c H locs 0 0 Q (F0 m 146 ls [.int z1j146, .ref (ad z0j146)]) := by
        intro s_j146 x2j146 z0j146 z1j146 H locs h hP hD hS ls hl
        unfold wj_Mo_endFrame_146 at h
        obtain ⟨c_z0j146, h⟩ := h
        refine upfN G hP hD hS h 11 putV c_z0j146 iMr tMr tMr_ok nMr rfl (by decide) rfl q2998 rfl rfl fV rfl rfl d_Mo_endFrame_146 (fun s_48 H locs h hP hD hS => ?_)
        refine lv_aload_n G.1 G.2.1 d_Mo_endFrame_149 rfl (lv_at hl 0 rfl) ?_
        obtain ⟨b_49, e_50, c_51, h⟩ := h
        refine ugf (v := .ref (ad b_49)) G hP h_a0 iMo rfl 46 (by decide) rfl q3110 rfl (by show va_rf ((sO s_48 a0 46).map ad) = _; rw [e_50]; rfl) d_Mo_endFrame_150 ?_
        refine lv_aload_n G.1 G.2.1 d_Mo_endFrame_153 rfl (lv_at hl 0 rfl) ?_
        obtain ⟨b_52, e_53, c_54, h⟩ := h
        refine ugf (v := .ref (ad b_52)) G hP h_a0 iMo rfl 46 (by decide) rfl q3110 rfl (by show va_rf ((sO s_48 a0 46).map ad) = _; rw [e_53]; rfl) d_Mo_endFrame_154 ?_
        refine ugfN (v := .int (sV s_48 b_52 10)) G hP c_54 iMr rfl 10 (by decide) rfl q2997 rfl rfl d_Mo_endFrame_157 ?_
        refine lv_iconst (v := 4) G.1 G.2.1 d_Mo_endFrame_160 (by decide) ?_
        have J_174 : ∀ (s_j174 : St) (z0j174 : Nat) (z1j174 : Int32) (H : Heap) (locs : List Loc), wj_Mo_endFrame_174 y Post a0 s_j174 z0j174 z1j174 → va_P D CL (ws g ad y s_j174) H → va_D A (ws g ad y s_j174) → va_S A s.heap H locs → ∀ ls, lv_has ls 6 [(0, .ref (ad a0))] → W p l e ru_Mo_endFrame s m args below meth c H locs 0 0 Q (F0 m 174 ls [.int z1j174, .ref (ad z0j174)]) := by
          intro s_j174 z0j174 z1j174 H locs h hP hD hS ls hl
          unfold wj_Mo_endFrame_174 at h
          obtain ⟨c_z0j174, h⟩ := h
          refine upfN G hP hD hS h 12 putV c_z0j174 iMr tMr tMr_ok nMr rfl (by decide) rfl q2999 rfl rfl fV rfl rfl d_Mo_endFrame_174 (fun s_55 H locs h hP hD hS => ?_)
          refine lv_aload_n G.1 G.2.1 d_Mo_endFrame_177 rfl (lv_at hl 0 rfl) ?_
          obtain ⟨b_56, e_57, c_58, h⟩ := h
          refine ugf (v := .ref (ad b_56)) G hP h_a0 iMo rfl 46 (by decide) rfl q3110 rfl (by show va_rf ((sO s_55 a0 46).map ad) = _; rw [e_57]; rfl) d_Mo_endFrame_178 ?_
          refine lv_iconst (v := 0) G.1 G.2.1 d_Mo_endFrame_181 (by decide) ?_
          refine upfN G hP hD hS h 13 putV c_58 iMr tMr tMr_ok nMr rfl (by decide) rfl q3000 rfl rfl fV rfl rfl d_Mo_endFrame_182 (fun s_59 H locs h hP hD hS => ?_)
          exact hret _ _ _ _ _ _ ls h hP hD hS (Nat.le_refl _) (Nat.le_refl _) d_Mo_endFrame_185
        refine lv_icmp_ne (tgt := 172) G.1 G.2.1 d_Mo_endFrame_161 (by decide) (fun c161 => ?_) (fun c161 => ?_)
        · skip
          have h := h.1 c161
          refine lv_bipush (v := (-2)) G.1 G.2.1 d_Mo_endFrame_172 (by decide) ?_
          exact J_174 s_48 b_49 (-2) H locs h hP hD hS ls (lv_sub hl [0] rfl)
        · skip
          have h := h.2 c161
          refine lv_aload_n G.1 G.2.1 d_Mo_endFrame_164 rfl (lv_at hl 0 rfl) ?_
          refine lv_iload_n G.1 G.2.1 d_Mo_endFrame_165 rfl (lv_at hl 1 rfl) ?_
          refine ucVi (As := [.int x2j146]) (rest := [.ref (ad b_49)]) G hP hD hS (cu_Mo_classOfRef l D g ad y _ s_48 a0 x2j146 H.size h_a0 h) w9_Mo_classOfRef q3899 ⟨Nat.le_of_ble_eq_true rfl, Nat.le_of_ble_eq_true rfl⟩ rfl rfl h_a0 (q := (RMo, TMo, 131)) rfl rfl hl.1 rfl (Nat.le_of_ble_eq_true rfl) rfl ⟨Nat.le_refl _, Nat.le_refl _⟩ d_Mo_endFrame_166 (fun r_60 s_61 H locs h hP hD hS => ?_)
          refine W.eq (g2 := F0 m 169 ls [.int r_60, .ref (ad b_49)]) rfl ?_
          refine lv_goto (tgt := 174) G.1 G.2.1 d_Mo_endFrame_169 (by decide) ?_
          exact J_174 s_61 b_49 r_60 H locs h hP hD hS ls (lv_sub hl [0] rfl)
      refine lv_icmp_ne (tgt := 145) G.1 G.2.1 d_Mo_endFrame_138 (by decide) (fun c138 => ?_) (fun c138 => ?_)
      · skip
        have h := h.1 c138
        refine lv_iconst (v := 0) G.1 G.2.1 d_Mo_endFrame_145 (by decide) ?_
        exact J_146 s_41 x2j123 b_42 0 H locs h hP hD hS ls (lv_sub hl [0, 1] rfl)
      · skip
        have h := h.2 c138
        refine lv_iload_n G.1 G.2.1 d_Mo_endFrame_141 rfl (lv_at hl 1 rfl) ?_
        refine lv_goto (tgt := 146) G.1 G.2.1 d_Mo_endFrame_142 (by decide) ?_
        exact J_146 s_41 x2j123 b_42 x2j123 H locs h hP hD hS ls (lv_sub hl [0, 1] rfl)
    refine lv_if_ne (tgt := 82) G.1 G.2.1 d_Mo_endFrame_75 (by decide) (fun c75 => ?_) (fun c75 => ?_)
    · skip
      have h := h.1 c75
      refine lv_iload_n G.1 G.2.1 d_Mo_endFrame_82 rfl (lv_at hl 4 rfl) ?_
      refine lv_if_ne (tgt := 90) G.1 G.2.1 d_Mo_endFrame_83 (by decide) (fun c83 => ?_) (fun c83 => ?_)
      · skip
        have h := h.1 c83
        refine lv_iload_n G.1 G.2.1 d_Mo_endFrame_90 rfl (lv_at hl 3 rfl) ?_
        refine lv_if_ne (tgt := 98) G.1 G.2.1 d_Mo_endFrame_91 (by decide) (fun c91 => ?_) (fun c91 => ?_)
        · skip
          have h := h.1 c91
          refine lv_iload_n G.1 G.2.1 d_Mo_endFrame_98 rfl (lv_at hl 3 rfl) ?_
          refine lv_sipush (v := 1001) G.1 G.2.1 d_Mo_endFrame_99 (by decide) ?_
          have J_122 : ∀ (s_j122 : St) (x2j122 : Int32) (z0j122 : Nat) (H : Heap) (locs : List Loc), wj_Mo_endFrame_122 y Post a0 s_j122 x2j122 z0j122 → va_P D CL (ws g ad y s_j122) H → va_D A (ws g ad y s_j122) → va_S A s.heap H locs → ∀ ls, lv_has ls 6 [(0, .ref (ad a0)), (2, .int x2j122)] → W p l e ru_Mo_endFrame s m args below meth c H locs 0 0 Q (F0 m 122 ls [.ref (ad z0j122)]) := by
            intro s_j122 x2j122 z0j122 H locs h hP hD hS ls hl
            unfold wj_Mo_endFrame_122 at h
            obtain ⟨c_z0j122, h⟩ := h
            refine lv_iconst (v := 4) G.1 G.2.1 d_Mo_endFrame_122 (by decide) ?_
            exact J_123 s_j122 x2j122 z0j122 4 H locs h hP hD hS ls (lv_sub hl [0, 1] rfl)
          refine lv_icmp_ge (tgt := 122) G.1 G.2.1 d_Mo_endFrame_102 (by decide) (fun c102 => ?_) (fun c102 => ?_)
          · skip
            have h := h.1 c102
            exact J_122 s_37 v2 b_38 H locs h hP hD hS ls (lv_sub hl [1, 3] rfl)
          · skip
            have h := h.2 c102
            refine W.eq (g2 := F0 m 105 ls [.ref (ad b_38)]) rfl ?_
            refine lv_aload_n G.1 G.2.1 d_Mo_endFrame_105 rfl (lv_at hl 1 rfl) ?_
            obtain ⟨b_62, e_63, c_64, h⟩ := h
            refine ugf (v := .ref (ad b_62)) G hP h_a0 iMo rfl 45 (by decide) rfl q3109 rfl (by show va_rf ((sO s_37 a0 45).map ad) = _; rw [e_63]; rfl) d_Mo_endFrame_106 ?_
            refine ugfN (v := .ref (yP y b_62 45)) G hP c_64 iMw rfl 45 (by decide) rfl q2790 rfl rfl d_Mo_endFrame_109 ?_
            refine lv_iload_n G.1 G.2.1 d_Mo_endFrame_112 rfl (lv_at hl 3 rfl) ?_
            refine uiald G hP (kdp c_64 rfl) (typ c_64 rfl) h d_Mo_endFrame_113 (fun x_65 h => ?_)
            refine lv_iconst (v := (-1)) G.1 G.2.1 d_Mo_endFrame_114 (by decide) ?_
            refine lv_icmp_ne (tgt := 122) G.1 G.2.1 d_Mo_endFrame_115 (by decide) (fun c115 => ?_) (fun c115 => ?_)
            · skip
              have h := h.1 c115
              exact J_122 s_37 v2 b_38 H locs h hP hD hS ls (lv_sub hl [1, 3] rfl)
            · skip
              have h := h.2 c115
              refine lv_iconst (v := 3) G.1 G.2.1 d_Mo_endFrame_118 (by decide) ?_
              refine lv_goto (tgt := 123) G.1 G.2.1 d_Mo_endFrame_119 (by decide) ?_
              exact J_123 s_37 v2 b_38 3 H locs h hP hD hS ls (lv_sub hl [1, 3] rfl)
        · skip
          have h := h.2 c91
          refine lv_iconst (v := 2) G.1 G.2.1 d_Mo_endFrame_94 (by decide) ?_
          refine lv_goto (tgt := 123) G.1 G.2.1 d_Mo_endFrame_95 (by decide) ?_
          exact J_123 s_37 v2 b_38 2 H locs h hP hD hS ls (lv_sub hl [1, 3] rfl)
      · skip
        have h := h.2 c83
        refine lv_iconst (v := 1) G.1 G.2.1 d_Mo_endFrame_86 (by decide) ?_
        refine lv_goto (tgt := 123) G.1 G.2.1 d_Mo_endFrame_87 (by decide) ?_
        exact J_123 s_37 v2 b_38 1 H locs h hP hD hS ls (lv_sub hl [1, 3] rfl)
    · skip
      have h := h.2 c75
      refine lv_iconst (v := 0) G.1 G.2.1 d_Mo_endFrame_78 (by decide) ?_
      refine lv_goto (tgt := 123) G.1 G.2.1 d_Mo_endFrame_79 (by decide) ?_
      exact J_123 s_37 v2 b_38 0 H locs h hP hD hS ls (lv_sub hl [1, 3] rfl)
theorem q3795 : Cond.methodLink "ClassWorksModel" 1153 y_Mo_isThread ∈ lw_ok := lw_okmem (List.mem_of_getElem? (i := 3795) (by decide +kernel)) rfl
theorem q3797 : Cond.code y_Mo_isThread b_Mo_isThread 1 (some (.boolean)) ∈ lw_ok := lw_okmem (List.mem_of_getElem? (i := 3797) (by decide +kernel)) rfl
theorem q3796 : Cond.static y_Mo_isThread ∈ lw_ok := lw_okmem (List.mem_of_getElem? (i := 3796) (by decide +kernel)) rfl
theorem w9_Mo_isThread : CWv y_Mo_isThread b_Mo_isThread 1 (some (.boolean)) 1 ∧ Cond.static y_Mo_isThread ∈ lw_ok := ⟨⟨q3797, q348, by decide +kernel, by decide +kernel, by decide +kernel⟩, q3796⟩
theorem q3835 : Cond.methodLink "ClassWorksModel" 1106 y_Mo_canGo ∈ lw_ok := lw_okmem (List.mem_of_getElem? (i := 3835) (by decide +kernel)) rfl
theorem q3838 : Cond.code y_Mo_canGo b_Mo_canGo 4 (some (.boolean)) ∈ lw_ok := lw_okmem (List.mem_of_getElem? (i := 3838) (by decide +kernel)) rfl
theorem q3837 : Cond.instanceMethod y_Mo_canGo ∈ lw_ok := lw_okmem (List.mem_of_getElem? (i := 3837) (by decide +kernel)) rfl
theorem q248 : Cond.selects y_Mo_canGo.cls y_Mo_canGo y_Mo_canGo ∈ lw_ok := lw_okmem (List.mem_of_getElem? (i := 248) (by decide +kernel)) rfl
theorem w9_Mo_canGo : CWv y_Mo_canGo b_Mo_canGo 4 (some (.boolean)) 1 ∧ Cond.instanceMethod y_Mo_canGo ∈ lw_ok ∧ Cond.selects y_Mo_canGo.cls y_Mo_canGo y_Mo_canGo ∈ lw_ok := ⟨⟨q3838, q348, by decide +kernel, by decide +kernel, by decide +kernel⟩, q3837, q248⟩
def y_Mo_run : MethodName := ⟨"ClassWorksModel", "run", "(III)I"⟩
abbrev b_Mo_run : ByteArray := prog_14_method_148_code
theorem d_Mo_run_0 : decode b_Mo_run 0 = .ok (.aload_n 0, 1) := by decide +kernel
theorem d_Mo_run_1 : decode b_Mo_run 1 = .ok (.iload_n 1, 1) := by decide +kernel
theorem d_Mo_run_2 : decode b_Mo_run 2 = .ok (.invokevirtual 1118, 3) := by decide +kernel
theorem d_Mo_run_5 : decode b_Mo_run 5 = .ok (.ifCond .eq 20, 3) := by decide +kernel
theorem d_Mo_run_8 : decode b_Mo_run 8 = .ok (.iload_n 2, 1) := by decide +kernel
theorem d_Mo_run_9 : decode b_Mo_run 9 = .ok (.invokestatic 1153, 3) := by decide +kernel
theorem d_Mo_run_12 : decode b_Mo_run 12 = .ok (.ifCond .eq 13, 3) := by decide +kernel
theorem d_Mo_run_15 : decode b_Mo_run 15 = .ok (.iload_n 3, 1) := by decide +kernel
theorem d_Mo_run_16 : decode b_Mo_run 16 = .ok (.ifCond .lt 9, 3) := by decide +kernel
theorem d_Mo_run_19 : decode b_Mo_run 19 = .ok (.iload_n 3, 1) := by decide +kernel
theorem d_Mo_run_20 : decode b_Mo_run 20 = .ok (.bipush 13, 2) := by decide +kernel
theorem d_Mo_run_22 : decode b_Mo_run 22 = .ok (.if_icmp .le 5, 3) := by decide +kernel
theorem d_Mo_run_25 : decode b_Mo_run 25 = .ok (.iconst (-1), 1) := by decide +kernel
theorem d_Mo_run_26 : decode b_Mo_run 26 = .ok (.ireturn, 1) := by decide +kernel
theorem d_Mo_run_27 : decode b_Mo_run 27 = .ok (.aload_n 0, 1) := by decide +kernel
theorem d_Mo_run_28 : decode b_Mo_run 28 = .ok (.getfield 263, 3) := by decide +kernel
theorem d_Mo_run_31 : decode b_Mo_run 31 = .ok (.iload_n 1, 1) := by decide +kernel
theorem d_Mo_run_32 : decode b_Mo_run 32 = .ok (.aaload, 1) := by decide +kernel
theorem d_Mo_run_33 : decode b_Mo_run 33 = .ok (.astore 4, 2) := by decide +kernel
theorem d_Mo_run_35 : decode b_Mo_run 35 = .ok (.aload 4, 2) := by decide +kernel
theorem d_Mo_run_37 : decode b_Mo_run 37 = .ok (.getfield 406, 3) := by decide +kernel
theorem d_Mo_run_40 : decode b_Mo_run 40 = .ok (.iload_n 2, 1) := by decide +kernel
theorem d_Mo_run_41 : decode b_Mo_run 41 = .ok (.aaload, 1) := by decide +kernel
theorem d_Mo_run_42 : decode b_Mo_run 42 = .ok (.astore 5, 2) := by decide +kernel
theorem d_Mo_run_44 : decode b_Mo_run 44 = .ok (.iload_n 3, 1) := by decide +kernel
theorem d_Mo_run_45 : decode b_Mo_run 45 = .ok (.tableswitch 55 10 13 #[31, 37, 43, 49], 31) := by decide +kernel
theorem d_Mo_run_76 : decode b_Mo_run 76 = .ok (.aload 4, 2) := by decide +kernel
theorem d_Mo_run_78 : decode b_Mo_run 78 = .ok (.getfield 507, 3) := by decide +kernel
theorem d_Mo_run_81 : decode b_Mo_run 81 = .ok (.ireturn, 1) := by decide +kernel
theorem d_Mo_run_82 : decode b_Mo_run 82 = .ok (.aload 4, 2) := by decide +kernel
theorem d_Mo_run_84 : decode b_Mo_run 84 = .ok (.getfield 513, 3) := by decide +kernel
theorem d_Mo_run_87 : decode b_Mo_run 87 = .ok (.ireturn, 1) := by decide +kernel
theorem d_Mo_run_88 : decode b_Mo_run 88 = .ok (.aload 4, 2) := by decide +kernel
theorem d_Mo_run_90 : decode b_Mo_run 90 = .ok (.getfield 519, 3) := by decide +kernel
theorem d_Mo_run_93 : decode b_Mo_run 93 = .ok (.ireturn, 1) := by decide +kernel
theorem d_Mo_run_94 : decode b_Mo_run 94 = .ok (.aload 4, 2) := by decide +kernel
theorem d_Mo_run_96 : decode b_Mo_run 96 = .ok (.getfield 492, 3) := by decide +kernel
theorem d_Mo_run_99 : decode b_Mo_run 99 = .ok (.ireturn, 1) := by decide +kernel
theorem d_Mo_run_100 : decode b_Mo_run 100 = .ok (.aload 5, 2) := by decide +kernel
theorem d_Mo_run_102 : decode b_Mo_run 102 = .ok (.getfield 486, 3) := by decide +kernel
theorem d_Mo_run_105 : decode b_Mo_run 105 = .ok (.bipush (-2), 2) := by decide +kernel
theorem d_Mo_run_107 : decode b_Mo_run 107 = .ok (.if_icmp .eq 7, 3) := by decide +kernel
theorem d_Mo_run_110 : decode b_Mo_run 110 = .ok (.iconst 1, 1) := by decide +kernel
theorem d_Mo_run_111 : decode b_Mo_run 111 = .ok (.goto 4, 3) := by decide +kernel
theorem d_Mo_run_114 : decode b_Mo_run 114 = .ok (.iconst 0, 1) := by decide +kernel
theorem d_Mo_run_115 : decode b_Mo_run 115 = .ok (.istore 6, 2) := by decide +kernel
theorem d_Mo_run_117 : decode b_Mo_run 117 = .ok (.iload 6, 2) := by decide +kernel
theorem d_Mo_run_119 : decode b_Mo_run 119 = .ok (.ifCond .eq 27, 3) := by decide +kernel
theorem d_Mo_run_122 : decode b_Mo_run 122 = .ok (.aload 5, 2) := by decide +kernel
theorem d_Mo_run_124 : decode b_Mo_run 124 = .ok (.getfield 924, 3) := by decide +kernel
theorem d_Mo_run_127 : decode b_Mo_run 127 = .ok (.ifCond .le 19, 3) := by decide +kernel
theorem d_Mo_run_130 : decode b_Mo_run 130 = .ok (.aload 5, 2) := by decide +kernel
theorem d_Mo_run_132 : decode b_Mo_run 132 = .ok (.getfield 927, 3) := by decide +kernel
theorem d_Mo_run_135 : decode b_Mo_run 135 = .ok (.aload 5, 2) := by decide +kernel
theorem d_Mo_run_137 : decode b_Mo_run 137 = .ok (.getfield 924, 3) := by decide +kernel
theorem d_Mo_run_140 : decode b_Mo_run 140 = .ok (.iconst 1, 1) := by decide +kernel
theorem d_Mo_run_141 : decode b_Mo_run 141 = .ok (.isub, 1) := by decide +kernel
theorem d_Mo_run_142 : decode b_Mo_run 142 = .ok (.iaload, 1) := by decide +kernel
theorem d_Mo_run_143 : decode b_Mo_run 143 = .ok (.goto 5, 3) := by decide +kernel
theorem d_Mo_run_146 : decode b_Mo_run 146 = .ok (.bipush (-2), 2) := by decide +kernel
theorem d_Mo_run_148 : decode b_Mo_run 148 = .ok (.istore 7, 2) := by decide +kernel
theorem d_Mo_run_150 : decode b_Mo_run 150 = .ok (.iload_n 3, 1) := by decide +kernel
theorem d_Mo_run_151 : decode b_Mo_run 151 = .ok (.tableswitch 205 0 8 #[49, 82, 97, 112, 127, 143, 158, 173, 189], 49) := by decide +kernel
theorem d_Mo_run_200 : decode b_Mo_run 200 = .ok (.aload_n 0, 1) := by decide +kernel
theorem d_Mo_run_201 : decode b_Mo_run 201 = .ok (.aload 4, 2) := by decide +kernel
theorem d_Mo_run_203 : decode b_Mo_run 203 = .ok (.putfield 522, 3) := by decide +kernel
theorem d_Mo_run_206 : decode b_Mo_run 206 = .ok (.aload 5, 2) := by decide +kernel
theorem d_Mo_run_208 : decode b_Mo_run 208 = .ok (.getfield 486, 3) := by decide +kernel
theorem d_Mo_run_211 : decode b_Mo_run 211 = .ok (.iconst 1, 1) := by decide +kernel
theorem d_Mo_run_212 : decode b_Mo_run 212 = .ok (.if_icmp .ne 15, 3) := by decide +kernel
theorem d_Mo_run_215 : decode b_Mo_run 215 = .ok (.aload_n 0, 1) := by decide +kernel
theorem d_Mo_run_216 : decode b_Mo_run 216 = .ok (.iload_n 2, 1) := by decide +kernel
theorem d_Mo_run_217 : decode b_Mo_run 217 = .ok (.invokevirtual 1106, 3) := by decide +kernel
theorem d_Mo_run_220 : decode b_Mo_run 220 = .ok (.ifCond .ne 7, 3) := by decide +kernel
theorem d_Mo_run_223 : decode b_Mo_run 223 = .ok (.iconst 4, 1) := by decide +kernel
theorem d_Mo_run_224 : decode b_Mo_run 224 = .ok (.goto 8, 3) := by decide +kernel
theorem d_Mo_run_227 : decode b_Mo_run 227 = .ok (.aload 5, 2) := by decide +kernel
theorem d_Mo_run_229 : decode b_Mo_run 229 = .ok (.getfield 486, 3) := by decide +kernel
theorem d_Mo_run_232 : decode b_Mo_run 232 = .ok (.ireturn, 1) := by decide +kernel
theorem d_Mo_run_233 : decode b_Mo_run 233 = .ok (.iload 6, 2) := by decide +kernel
theorem d_Mo_run_235 : decode b_Mo_run 235 = .ok (.ifCond .eq 11, 3) := by decide +kernel
theorem d_Mo_run_238 : decode b_Mo_run 238 = .ok (.aload 5, 2) := by decide +kernel
theorem d_Mo_run_240 : decode b_Mo_run 240 = .ok (.getfield 921, 3) := by decide +kernel
theorem d_Mo_run_243 : decode b_Mo_run 243 = .ok (.goto 4, 3) := by decide +kernel
theorem d_Mo_run_246 : decode b_Mo_run 246 = .ok (.iconst 0, 1) := by decide +kernel
theorem d_Mo_run_247 : decode b_Mo_run 247 = .ok (.ireturn, 1) := by decide +kernel
theorem d_Mo_run_248 : decode b_Mo_run 248 = .ok (.iload 6, 2) := by decide +kernel
theorem d_Mo_run_250 : decode b_Mo_run 250 = .ok (.ifCond .eq 11, 3) := by decide +kernel
theorem d_Mo_run_253 : decode b_Mo_run 253 = .ok (.aload 5, 2) := by decide +kernel
theorem d_Mo_run_255 : decode b_Mo_run 255 = .ok (.getfield 974, 3) := by decide +kernel
theorem d_Mo_run_258 : decode b_Mo_run 258 = .ok (.goto 4, 3) := by decide +kernel
theorem d_Mo_run_261 : decode b_Mo_run 261 = .ok (.iconst 0, 1) := by decide +kernel
theorem d_Mo_run_262 : decode b_Mo_run 262 = .ok (.ireturn, 1) := by decide +kernel
theorem d_Mo_run_263 : decode b_Mo_run 263 = .ok (.iload 6, 2) := by decide +kernel
theorem d_Mo_run_265 : decode b_Mo_run 265 = .ok (.ifCond .eq 11, 3) := by decide +kernel
theorem d_Mo_run_268 : decode b_Mo_run 268 = .ok (.aload 5, 2) := by decide +kernel
theorem d_Mo_run_270 : decode b_Mo_run 270 = .ok (.getfield 977, 3) := by decide +kernel
theorem d_Mo_run_273 : decode b_Mo_run 273 = .ok (.goto 4, 3) := by decide +kernel
theorem d_Mo_run_276 : decode b_Mo_run 276 = .ok (.iconst 0, 1) := by decide +kernel
theorem d_Mo_run_277 : decode b_Mo_run 277 = .ok (.ireturn, 1) := by decide +kernel
theorem d_Mo_run_278 : decode b_Mo_run 278 = .ok (.iload 6, 2) := by decide +kernel
theorem d_Mo_run_280 : decode b_Mo_run 280 = .ok (.ifCond .eq 11, 3) := by decide +kernel
theorem d_Mo_run_283 : decode b_Mo_run 283 = .ok (.aload 5, 2) := by decide +kernel
theorem d_Mo_run_285 : decode b_Mo_run 285 = .ok (.getfield 980, 3) := by decide +kernel
theorem d_Mo_run_288 : decode b_Mo_run 288 = .ok (.goto 5, 3) := by decide +kernel
theorem d_Mo_run_291 : decode b_Mo_run 291 = .ok (.bipush (-2), 2) := by decide +kernel
theorem d_Mo_run_293 : decode b_Mo_run 293 = .ok (.ireturn, 1) := by decide +kernel
theorem d_Mo_run_294 : decode b_Mo_run 294 = .ok (.iload 6, 2) := by decide +kernel
theorem d_Mo_run_296 : decode b_Mo_run 296 = .ok (.ifCond .eq 11, 3) := by decide +kernel
theorem d_Mo_run_299 : decode b_Mo_run 299 = .ok (.aload 5, 2) := by decide +kernel
theorem d_Mo_run_301 : decode b_Mo_run 301 = .ok (.getfield 983, 3) := by decide +kernel
theorem d_Mo_run_304 : decode b_Mo_run 304 = .ok (.goto 4, 3) := by decide +kernel
theorem d_Mo_run_307 : decode b_Mo_run 307 = .ok (.iconst 0, 1) := by decide +kernel
theorem d_Mo_run_308 : decode b_Mo_run 308 = .ok (.ireturn, 1) := by decide +kernel
theorem d_Mo_run_309 : decode b_Mo_run 309 = .ok (.iload 6, 2) := by decide +kernel
theorem d_Mo_run_311 : decode b_Mo_run 311 = .ok (.ifCond .eq 11, 3) := by decide +kernel
theorem d_Mo_run_314 : decode b_Mo_run 314 = .ok (.aload 5, 2) := by decide +kernel
theorem d_Mo_run_316 : decode b_Mo_run 316 = .ok (.getfield 924, 3) := by decide +kernel
theorem d_Mo_run_319 : decode b_Mo_run 319 = .ok (.goto 4, 3) := by decide +kernel
theorem d_Mo_run_322 : decode b_Mo_run 322 = .ok (.iconst 0, 1) := by decide +kernel
theorem d_Mo_run_323 : decode b_Mo_run 323 = .ok (.ireturn, 1) := by decide +kernel
theorem d_Mo_run_324 : decode b_Mo_run 324 = .ok (.iload 7, 2) := by decide +kernel
theorem d_Mo_run_326 : decode b_Mo_run 326 = .ok (.ifCond .ge 8, 3) := by decide +kernel
theorem d_Mo_run_329 : decode b_Mo_run 329 = .ok (.bipush (-2), 2) := by decide +kernel
theorem d_Mo_run_331 : decode b_Mo_run 331 = .ok (.goto 8, 3) := by decide +kernel
theorem d_Mo_run_334 : decode b_Mo_run 334 = .ok (.iload 7, 2) := by decide +kernel
theorem d_Mo_run_336 : decode b_Mo_run 336 = .ok (.bipush 12, 2) := by decide +kernel
theorem d_Mo_run_338 : decode b_Mo_run 338 = .ok (.idiv, 1) := by decide +kernel
theorem d_Mo_run_339 : decode b_Mo_run 339 = .ok (.ireturn, 1) := by decide +kernel
theorem d_Mo_run_340 : decode b_Mo_run 340 = .ok (.iload 7, 2) := by decide +kernel
theorem d_Mo_run_342 : decode b_Mo_run 342 = .ok (.ifCond .ge 8, 3) := by decide +kernel
theorem d_Mo_run_345 : decode b_Mo_run 345 = .ok (.bipush (-2), 2) := by decide +kernel
theorem d_Mo_run_347 : decode b_Mo_run 347 = .ok (.goto 8, 3) := by decide +kernel
theorem d_Mo_run_350 : decode b_Mo_run 350 = .ok (.iload 7, 2) := by decide +kernel
theorem d_Mo_run_352 : decode b_Mo_run 352 = .ok (.bipush 12, 2) := by decide +kernel
theorem d_Mo_run_354 : decode b_Mo_run 354 = .ok (.irem, 1) := by decide +kernel
theorem d_Mo_run_355 : decode b_Mo_run 355 = .ok (.ireturn, 1) := by decide +kernel
theorem d_Mo_run_356 : decode b_Mo_run 356 = .ok (.iload 7, 2) := by decide +kernel
theorem d_Mo_run_358 : decode b_Mo_run 358 = .ok (.ifCond .ge 8, 3) := by decide +kernel
theorem d_Mo_run_361 : decode b_Mo_run 361 = .ok (.bipush (-2), 2) := by decide +kernel
theorem d_Mo_run_363 : decode b_Mo_run 363 = .ok (.goto 16, 3) := by decide +kernel
theorem d_Mo_run_366 : decode b_Mo_run 366 = .ok (.aload 5, 2) := by decide +kernel
theorem d_Mo_run_368 : decode b_Mo_run 368 = .ok (.getfield 930, 3) := by decide +kernel
theorem d_Mo_run_371 : decode b_Mo_run 371 = .ok (.aload 5, 2) := by decide +kernel
theorem d_Mo_run_373 : decode b_Mo_run 373 = .ok (.getfield 924, 3) := by decide +kernel
theorem d_Mo_run_376 : decode b_Mo_run 376 = .ok (.iconst 1, 1) := by decide +kernel
theorem d_Mo_run_377 : decode b_Mo_run 377 = .ok (.isub, 1) := by decide +kernel
theorem d_Mo_run_378 : decode b_Mo_run 378 = .ok (.iaload, 1) := by decide +kernel
theorem d_Mo_run_379 : decode b_Mo_run 379 = .ok (.ireturn, 1) := by decide +kernel
abbrev ru_Mo_run : Room := { frames := 2, cells := 0, slots := 0, locals := 44 }
def wj_Mo_run_25 (y : Ly) (Post : St → Int32 → Prop) (a0 : Nat) (s_j25 : St) : Prop := Post s_j25 (-1)
def wj_Mo_run_232 (y : Ly) (Post : St → Int32 → Prop) (a0 : Nat) (s_j232 : St) (z0j232 : Int32) : Prop := Post s_j232 z0j232
def wj_Mo_run_227 (y : Ly) (Post : St → Int32 → Prop) (a0 : Nat) (s_j227 : St) (x5j227 : Nat) : Prop := cl x5j227 = 12 ∧ wj_Mo_run_232 y Post a0 s_j227 (sV s_j227 x5j227 0)
def wj_Mo_run_247 (y : Ly) (Post : St → Int32 → Prop) (a0 : Nat) (s_j247 : St) (z0j247 : Int32) : Prop := Post s_j247 z0j247
def wj_Mo_run_262 (y : Ly) (Post : St → Int32 → Prop) (a0 : Nat) (s_j262 : St) (z0j262 : Int32) : Prop := Post s_j262 z0j262
def wj_Mo_run_277 (y : Ly) (Post : St → Int32 → Prop) (a0 : Nat) (s_j277 : St) (z0j277 : Int32) : Prop := Post s_j277 z0j277
def wj_Mo_run_293 (y : Ly) (Post : St → Int32 → Prop) (a0 : Nat) (s_j293 : St) (z0j293 : Int32) : Prop := Post s_j293 z0j293
def wj_Mo_run_308 (y : Ly) (Post : St → Int32 → Prop) (a0 : Nat) (s_j308 : St) (z0j308 : Int32) : Prop := Post s_j308 z0j308
def wj_Mo_run_323 (y : Ly) (Post : St → Int32 → Prop) (a0 : Nat) (s_j323 : St) (z0j323 : Int32) : Prop := Post s_j323 z0j323
def wj_Mo_run_339 (y : Ly) (Post : St → Int32 → Prop) (a0 : Nat) (s_j339 : St) (z0j339 : Int32) : Prop := Post s_j339 z0j339
def wj_Mo_run_355 (y : Ly) (Post : St → Int32 → Prop) (a0 : Nat) (s_j355 : St) (z0j355 : Int32) : Prop := Post s_j355 z0j355
def wj_Mo_run_379 (y : Ly) (Post : St → Int32 → Prop) (a0 : Nat) (s_j379 : St) (z0j379 : Int32) : Prop := Post s_j379 z0j379
def wj_Mo_run_148 (y : Ly) (Post : St → Int32 → Prop) (a0 : Nat) (s_j148 : St) (x2j148 : Int32) (x3j148 : Int32) (x4j148 : Nat) (x5j148 : Nat) (x6j148 : Int32) (z0j148 : Int32) : Prop := cl x4j148 = 13 ∧ cl x5j148 = 12 ∧ ((x3j148 = 0 → xP (uO s_j148 a0 45 (some x4j148)) (fun s_9 : St => ((¬ (sV s_9 x5j148 0) = 1 → wj_Mo_run_227 y Post a0 s_9 x5j148) ∧ ((sV s_9 x5j148 0) = 1 → wu_Mo_canGo y (fun (s_11 : St) (r_10 : Int32) => ((¬ r_10 = 0 → wj_Mo_run_227 y Post a0 s_11 x5j148) ∧ (r_10 = 0 → wj_Mo_run_232 y Post a0 s_11 4))) s_9 a0 x2j148)))) ∧ (¬ (x3j148 = 0) → ((x3j148 = 1 → ((x6j148 = 0 → wj_Mo_run_247 y Post a0 s_j148 0) ∧ (¬ (x6j148 = 0) → wj_Mo_run_247 y Post a0 s_j148 (sV s_j148 x5j148 3)))) ∧ (¬ (x3j148 = 1) → ((x3j148 = 2 → ((x6j148 = 0 → wj_Mo_run_262 y Post a0 s_j148 0) ∧ (¬ (x6j148 = 0) → wj_Mo_run_262 y Post a0 s_j148 (sV s_j148 x5j148 10)))) ∧ (¬ (x3j148 = 2) → ((x3j148 = 3 → ((x6j148 = 0 → wj_Mo_run_277 y Post a0 s_j148 0) ∧ (¬ (x6j148 = 0) → wj_Mo_run_277 y Post a0 s_j148 (sV s_j148 x5j148 11)))) ∧ (¬ (x3j148 = 3) → ((x3j148 = 4 → ((x6j148 = 0 → wj_Mo_run_293 y Post a0 s_j148 (-2)) ∧ (¬ (x6j148 = 0) → wj_Mo_run_293 y Post a0 s_j148 (sV s_j148 x5j148 12)))) ∧ (¬ (x3j148 = 4) → ((x3j148 = 5 → ((x6j148 = 0 → wj_Mo_run_308 y Post a0 s_j148 0) ∧ (¬ (x6j148 = 0) → wj_Mo_run_308 y Post a0 s_j148 (sV s_j148 x5j148 13)))) ∧ (¬ (x3j148 = 5) → ((x3j148 = 6 → ((x6j148 = 0 → wj_Mo_run_323 y Post a0 s_j148 0) ∧ (¬ (x6j148 = 0) → wj_Mo_run_323 y Post a0 s_j148 (sV s_j148 x5j148 22)))) ∧ (¬ (x3j148 = 6) → ((x3j148 = 7 → ((0 ≤ z0j148 → wj_Mo_run_339 y Post a0 s_j148 (z0j148 / 12)) ∧ (¬ (0 ≤ z0j148) → wj_Mo_run_339 y Post a0 s_j148 (-2)))) ∧ (¬ (x3j148 = 7) → ((x3j148 = 8 → ((0 ≤ z0j148 → wj_Mo_run_355 y Post a0 s_j148 (z0j148 - z0j148 / 12 * 12)) ∧ (¬ (0 ≤ z0j148) → wj_Mo_run_355 y Post a0 s_j148 (-2)))) ∧ (¬ (x3j148 = 8) → ((0 ≤ z0j148 → xA y s_j148 x5j148 18 ((sV s_j148 x5j148 22) - 1) (fun x_12 : Int32 => wj_Mo_run_379 y Post a0 s_j148 x_12)) ∧ (¬ (0 ≤ z0j148) → wj_Mo_run_379 y Post a0 s_j148 (-2)))))))))))))))))))))
def wj_Mo_run_146 (y : Ly) (Post : St → Int32 → Prop) (a0 : Nat) (s_j146 : St) (x2j146 : Int32) (x3j146 : Int32) (x4j146 : Nat) (x5j146 : Nat) (x6j146 : Int32) : Prop := cl x4j146 = 13 ∧ cl x5j146 = 12 ∧ wj_Mo_run_148 y Post a0 s_j146 x2j146 x3j146 x4j146 x5j146 x6j146 (-2)
def wj_Mo_run_115 (y : Ly) (Post : St → Int32 → Prop) (a0 : Nat) (s_j115 : St) (x2j115 : Int32) (x3j115 : Int32) (x4j115 : Nat) (x5j115 : Nat) (z0j115 : Int32) : Prop := cl x4j115 = 13 ∧ cl x5j115 = 12 ∧ ((z0j115 = 0 → wj_Mo_run_146 y Post a0 s_j115 x2j115 x3j115 x4j115 x5j115 z0j115) ∧ (¬ (z0j115 = 0) → (((sV s_j115 x5j115 22) ≤ 0 → wj_Mo_run_146 y Post a0 s_j115 x2j115 x3j115 x4j115 x5j115 z0j115) ∧ (¬ ((sV s_j115 x5j115 22) ≤ 0) → xA y s_j115 x5j115 17 ((sV s_j115 x5j115 22) - 1) (fun x_13 : Int32 => wj_Mo_run_148 y Post a0 s_j115 x2j115 x3j115 x4j115 x5j115 z0j115 x_13)))))
def wu_Mo_run (y : Ly) (Post : St → Int32 → Prop) (σ : St) (a0 : Nat) (v1 : Int32) (v2 : Int32) (v3 : Int32) : Prop := wu_Mo_isWorld y (fun (s_2 : St) (r_1 : Int32) => ((r_1 = 0 → wj_Mo_run_25 y Post a0 s_2) ∧ (¬ (r_1 = 0) → wu_Mo_isThread y (fun (s_4 : St) (r_3 : Int32) => ((r_3 = 0 → wj_Mo_run_25 y Post a0 s_4) ∧ (¬ (r_3 = 0) → ((v3 < 0 → wj_Mo_run_25 y Post a0 s_4) ∧ (¬ (v3 < 0) → ((v3 ≤ 13 → xQ y a0 44 v1 (fun b_5 : Nat => xQ y b_5 62 v2 (fun b_7 : Nat => ((v3 = 10 → Post s_4 (sV s_4 b_5 50)) ∧ (¬ (v3 = 10) → ((v3 = 11 → Post s_4 (sV s_4 b_5 52)) ∧ (¬ (v3 = 11) → ((v3 = 12 → Post s_4 (sV s_4 b_5 60)) ∧ (¬ (v3 = 12) → ((v3 = 13 → Post s_4 (sV s_4 b_5 63)) ∧ (¬ (v3 = 13) → (((sV s_4 b_7 0) = (-2) → wj_Mo_run_115 y Post a0 s_4 v2 v3 b_5 b_7 0) ∧ (¬ ((sV s_4 b_7 0) = (-2)) → wj_Mo_run_115 y Post a0 s_4 v2 v3 b_5 b_7 1))))))))))))) ∧ (¬ (v3 ≤ 13) → wj_Mo_run_25 y Post a0 s_4))))))) s_2 v2))) σ a0 v1
set_option maxHeartbeats 4000000 in
set_option maxRecDepth 100000 in
theorem cu_Mo_run (l : Launch) (D : va_G) (g : Nat → ClassId) (ad : Nat → Nat) (y : Ly) (Post : St → Int32 → Prop) (σ : St) (a0 : Nat) (v1 : Int32) (v2 : Int32) (v3 : Int32) (sz : Nat) (h_a0 : cl a0 = 14) (h : wu_Mo_run y Post σ a0 v1 v2 v3) : Met l y_Mo_run (mw y_Mo_run b_Mo_run 8 (some .int)) ru_Mo_run (PC g D [] [.ref (ad a0), .int v1, .int v2, .int v3] sz (ws g ad y σ)) (va_Qi (fun (r : Int32) (u : St) => Post u r) (QW D (va_A (ws g ad y σ) sz) (fun u => ws g ad y u)) (va_A (ws g ad y σ) sz)) 0 0 (va_A (ws g ad y σ) sz) := by
  refine ofI (by decide +kernel) (Nat.le_of_ble_eq_true rfl) ?_
  intro p e s m args below meth c A Q ls H locs G hsz hP hD hS hl hret
  subst hsz
  have hl : lv_has ls 8 [(0, .ref (ad a0)), (1, .int v1), (2, .int v2), (3, .int v3)] := hl
  unfold wu_Mo_run at h
  refine lv_aload_n G.1 G.2.1 d_Mo_run_0 rfl (lv_at hl 0 rfl) ?_
  refine lv_iload_n G.1 G.2.1 d_Mo_run_1 rfl (lv_at hl 1 rfl) ?_
  refine ucVi (As := [.int v1]) (rest := []) G hP hD hS (cu_Mo_isWorld l D g ad y _ σ a0 v1 H.size h_a0 h) w9_Mo_isWorld q3482 ⟨Nat.le_of_ble_eq_true rfl, Nat.le_of_ble_eq_true rfl⟩ rfl rfl h_a0 (q := (RMo, TMo, 131)) rfl rfl hl.1 rfl (Nat.le_of_ble_eq_true rfl) rfl ⟨Nat.le_refl _, Nat.le_refl _⟩ d_Mo_run_2 (fun r_1 s_2 H locs h hP hD hS => ?_)
  have J_25 : ∀ (s_j25 : St) (H : Heap) (locs : List Loc), wj_Mo_run_25 y Post a0 s_j25 → va_P D CL (ws g ad y s_j25) H → va_D A (ws g ad y s_j25) → va_S A s.heap H locs → ∀ ls, lv_has ls 8 [] → W p l e ru_Mo_run s m args below meth c H locs 0 0 Q (F0 m 25 ls []) := by
    intro s_j25 H locs h hP hD hS ls hl
    unfold wj_Mo_run_25 at h
    refine lv_iconst (v := (-1)) G.1 G.2.1 d_Mo_run_25 (by decide) ?_
    exact hret _ _ _ _ _ _ _ ls h hP hD hS (Nat.le_refl _) (Nat.le_refl _) d_Mo_run_26
  refine lv_if_eq (tgt := 25) G.1 G.2.1 d_Mo_run_5 (by decide) (fun c5 => ?_) (fun c5 => ?_)
  · skip
    have h := h.1 c5
    exact J_25 s_2 H locs h hP hD hS ls (lv_sub hl [] rfl)
  · skip
    have h := h.2 c5
    refine lv_iload_n G.1 G.2.1 d_Mo_run_8 rfl (lv_at hl 2 rfl) ?_
    refine ucSi (As := [.int v2]) (rest := []) G hP hD hS (cu_Mo_isThread l D g ad y _ s_2 v2 H.size  h) w9_Mo_isThread q3795 ⟨Nat.le_of_ble_eq_true rfl, Nat.le_of_ble_eq_true rfl⟩ rfl rfl hl.1 rfl (Nat.le_of_ble_eq_true rfl) rfl ⟨Nat.le_refl _, Nat.le_refl _⟩ d_Mo_run_9 (fun r_3 s_4 H locs h hP hD hS => ?_)
    refine lv_if_eq (tgt := 25) G.1 G.2.1 d_Mo_run_12 (by decide) (fun c12 => ?_) (fun c12 => ?_)
    · skip
      have h := h.1 c12
      exact J_25 s_4 H locs h hP hD hS ls (lv_sub hl [] rfl)
    · skip
      have h := h.2 c12
      refine lv_iload_n G.1 G.2.1 d_Mo_run_15 rfl (lv_at hl 3 rfl) ?_
      refine lv_if_lt (tgt := 25) G.1 G.2.1 d_Mo_run_16 (by decide) (fun c16 => ?_) (fun c16 => ?_)
      · skip
        have h := h.1 c16
        exact J_25 s_4 H locs h hP hD hS ls (lv_sub hl [] rfl)
      · skip
        have h := h.2 c16
        refine lv_iload_n G.1 G.2.1 d_Mo_run_19 rfl (lv_at hl 3 rfl) ?_
        refine lv_bipush (v := 13) G.1 G.2.1 d_Mo_run_20 (by decide) ?_
        refine W.eq (g2 := F0 m 22 ls [.int 13, .int v3]) rfl ?_
        refine lv_icmp_le (tgt := 27) G.1 G.2.1 d_Mo_run_22 (by decide) (fun c22 => ?_) (fun c22 => ?_)
        · skip
          have h := h.1 c22
          refine lv_aload_n G.1 G.2.1 d_Mo_run_27 rfl (lv_at hl 0 rfl) ?_
          refine ugf (v := .ref (yP y a0 44)) G hP h_a0 iMo rfl 44 (by decide) rfl q3108 rfl rfl d_Mo_run_28 ?_
          refine lv_iload_n G.1 G.2.1 d_Mo_run_31 rfl (lv_at hl 1 rfl) ?_
          refine uqald G hP (kdp h_a0 rfl) (typ h_a0 rfl) rfl h d_Mo_run_32 (fun b_5 n_6 h => ?_)
          refine lv_astore (lv' := [(4, .ref (ad b_5)), (0, .ref (ad a0)), (1, .int v1), (2, .int v2), (3, .int v3)]) G.1 G.2.1 d_Mo_run_33 hl (by decide) rfl (fun ls hl => ?_)
          refine lv_aload G.1 G.2.1 d_Mo_run_35 (lv_at hl 0 rfl) ?_
          refine ugfN (v := .ref (yP y b_5 62)) G hP (oa_14 h_a0 n_6) iMw rfl 62 (by decide) rfl q2820 rfl rfl d_Mo_run_37 ?_
          refine lv_iload_n G.1 G.2.1 d_Mo_run_40 rfl (lv_at hl 3 rfl) ?_
          refine uqald G hP (kdp (oa_14 h_a0 n_6) rfl) (typ (oa_14 h_a0 n_6) rfl) rfl h d_Mo_run_41 (fun b_7 n_8 h => ?_)
          refine lv_astore (lv' := [(5, .ref (ad b_7)), (4, .ref (ad b_5)), (0, .ref (ad a0)), (1, .int v1), (2, .int v2), (3, .int v3)]) G.1 G.2.1 d_Mo_run_42 hl (by decide) rfl (fun ls hl => ?_)
          refine lv_iload_n G.1 G.2.1 d_Mo_run_44 rfl (lv_at hl 5 rfl) ?_
          refine W.eq (g2 := F0 m 45 ls [.int v3]) rfl ?_
          by_cases e45_10 : v3 = 10
          · skip
            have h := h.1 e45_10
            refine lv_tableIn (off := 31) (tgt := 76) G.1 G.2.1 d_Mo_run_45 (by rw [e45_10]; decide) (by rw [e45_10]; decide) (by rw [e45_10]; rfl) (by decide) ?_
            refine lv_aload G.1 G.2.1 d_Mo_run_76 (lv_at hl 1 rfl) ?_
            refine ugfN (v := .int (sV s_4 b_5 50)) G hP (oa_14 h_a0 n_6) iMw rfl 50 (by decide) rfl q2799 rfl rfl d_Mo_run_78 ?_
            exact hret _ _ _ _ _ _ _ ls h hP hD hS (Nat.le_refl _) (Nat.le_refl _) d_Mo_run_81
          replace h := h.2 e45_10
          by_cases e45_11 : v3 = 11
          · skip
            have h := h.1 e45_11
            refine lv_tableIn (off := 37) (tgt := 82) G.1 G.2.1 d_Mo_run_45 (by rw [e45_11]; decide) (by rw [e45_11]; decide) (by rw [e45_11]; rfl) (by decide) ?_
            refine lv_aload G.1 G.2.1 d_Mo_run_82 (lv_at hl 1 rfl) ?_
            refine ugfN (v := .int (sV s_4 b_5 52)) G hP (oa_14 h_a0 n_6) iMw rfl 52 (by decide) rfl q2802 rfl rfl d_Mo_run_84 ?_
            exact hret _ _ _ _ _ _ _ ls h hP hD hS (Nat.le_refl _) (Nat.le_refl _) d_Mo_run_87
          replace h := h.2 e45_11
          by_cases e45_12 : v3 = 12
          · skip
            have h := h.1 e45_12
            refine lv_tableIn (off := 43) (tgt := 88) G.1 G.2.1 d_Mo_run_45 (by rw [e45_12]; decide) (by rw [e45_12]; decide) (by rw [e45_12]; rfl) (by decide) ?_
            refine lv_aload G.1 G.2.1 d_Mo_run_88 (lv_at hl 1 rfl) ?_
            refine ugfN (v := .int (sV s_4 b_5 60)) G hP (oa_14 h_a0 n_6) iMw rfl 60 (by decide) rfl q2816 rfl rfl d_Mo_run_90 ?_
            exact hret _ _ _ _ _ _ _ ls h hP hD hS (Nat.le_refl _) (Nat.le_refl _) d_Mo_run_93
          replace h := h.2 e45_12
          by_cases e45_13 : v3 = 13
          · skip
            have h := h.1 e45_13
            refine lv_tableIn (off := 49) (tgt := 94) G.1 G.2.1 d_Mo_run_45 (by rw [e45_13]; decide) (by rw [e45_13]; decide) (by rw [e45_13]; rfl) (by decide) ?_
            refine lv_aload G.1 G.2.1 d_Mo_run_94 (lv_at hl 1 rfl) ?_
            refine ugfN (v := .int (sV s_4 b_5 63)) G hP (oa_14 h_a0 n_6) iMw rfl 63 (by decide) rfl q2821 rfl rfl d_Mo_run_96 ?_
            exact hret _ _ _ _ _ _ _ ls h hP hD hS (Nat.le_refl _) (Nat.le_refl _) d_Mo_run_99
          replace h := h.2 e45_13
          have te45_10 := lv_neT (a := 10) e45_10 (by decide)
          have te45_11 := lv_neT (a := 11) e45_11 (by decide)
          have te45_12 := lv_neT (a := 12) e45_12 (by decide)
          have te45_13 := lv_neT (a := 13) e45_13 (by decide)
          refine lv_tableOut (tgt := 100) G.1 G.2.1 d_Mo_run_45 (by omega) (by decide) ?_
          refine lv_aload G.1 G.2.1 d_Mo_run_100 (lv_at hl 0 rfl) ?_
          refine ugfN (v := .int (sV s_4 b_7 0)) G hP (oa_13 (oa_14 h_a0 n_6) n_8) iMr rfl 0 (by decide) rfl q2987 rfl rfl d_Mo_run_102 ?_
          refine lv_bipush (v := (-2)) G.1 G.2.1 d_Mo_run_105 (by decide) ?_
          have J_115 : ∀ (s_j115 : St) (x2j115 : Int32) (x3j115 : Int32) (x4j115 : Nat) (x5j115 : Nat) (z0j115 : Int32) (H : Heap) (locs : List Loc), wj_Mo_run_115 y Post a0 s_j115 x2j115 x3j115 x4j115 x5j115 z0j115 → va_P D CL (ws g ad y s_j115) H → va_D A (ws g ad y s_j115) → va_S A s.heap H locs → ∀ ls, lv_has ls 8 [(0, .ref (ad a0)), (2, .int x2j115), (3, .int x3j115), (4, .ref (ad x4j115)), (5, .ref (ad x5j115))] → W p l e ru_Mo_run s m args below meth c H locs 0 0 Q (F0 m 115 ls [.int z0j115]) := by
            intro s_j115 x2j115 x3j115 x4j115 x5j115 z0j115 H locs h hP hD hS ls hl
            unfold wj_Mo_run_115 at h
            obtain ⟨c_x4j115, h⟩ := h
            obtain ⟨c_x5j115, h⟩ := h
            refine lv_istore (lv' := [(6, .int z0j115), (0, .ref (ad a0)), (2, .int x2j115), (3, .int x3j115), (4, .ref (ad x4j115)), (5, .ref (ad x5j115))]) G.1 G.2.1 d_Mo_run_115 hl (by decide) rfl (fun ls hl => ?_)
            refine lv_iload G.1 G.2.1 d_Mo_run_117 (lv_at hl 0 rfl) ?_
            have J_148 : ∀ (s_j148 : St) (x2j148 : Int32) (x3j148 : Int32) (x4j148 : Nat) (x5j148 : Nat) (x6j148 : Int32) (z0j148 : Int32) (H : Heap) (locs : List Loc), wj_Mo_run_148 y Post a0 s_j148 x2j148 x3j148 x4j148 x5j148 x6j148 z0j148 → va_P D CL (ws g ad y s_j148) H → va_D A (ws g ad y s_j148) → va_S A s.heap H locs → ∀ ls, lv_has ls 8 [(0, .ref (ad a0)), (2, .int x2j148), (3, .int x3j148), (4, .ref (ad x4j148)), (5, .ref (ad x5j148)), (6, .int x6j148)] → W p l e ru_Mo_run s m args below meth c H locs 0 0 Q (F0 m 148 ls [.int z0j148]) := by
              intro s_j148 x2j148 x3j148 x4j148 x5j148 x6j148 z0j148 H locs h hP hD hS ls hl
              unfold wj_Mo_run_148 at h
              obtain ⟨c_x4j148, h⟩ := h
              obtain ⟨c_x5j148, h⟩ := h
              refine lv_istore (lv' := [(7, .int z0j148), (0, .ref (ad a0)), (2, .int x2j148), (3, .int x3j148), (4, .ref (ad x4j148)), (5, .ref (ad x5j148)), (6, .int x6j148)]) G.1 G.2.1 d_Mo_run_148 hl (by decide) rfl (fun ls hl => ?_)
              refine lv_iload_n G.1 G.2.1 d_Mo_run_150 rfl (lv_at hl 3 rfl) ?_
              by_cases e151_0 : x3j148 = 0
              · skip
                have h := h.1 e151_0
                refine lv_tableIn (off := 49) (tgt := 200) G.1 G.2.1 d_Mo_run_151 (by rw [e151_0]; decide) (by rw [e151_0]; decide) (by rw [e151_0]; rfl) (by decide) ?_
                refine lv_aload_n G.1 G.2.1 d_Mo_run_200 rfl (lv_at hl 1 rfl) ?_
                refine lv_aload G.1 G.2.1 d_Mo_run_201 (lv_at hl 4 rfl) ?_
                refine upf G hP hD hS h 45 putO h_a0 iMo tMo tMo_ok nMo rfl (by decide) rfl q3109 rfl rfl fO rfl rfl d_Mo_run_203 (fun s_9 H locs h hP hD hS => ?_)
                refine lv_aload G.1 G.2.1 d_Mo_run_206 (lv_at hl 5 rfl) ?_
                refine ugfN (v := .int (sV s_9 x5j148 0)) G hP c_x5j148 iMr rfl 0 (by decide) rfl q2987 rfl rfl d_Mo_run_208 ?_
                refine lv_iconst (v := 1) G.1 G.2.1 d_Mo_run_211 (by decide) ?_
                have J_232 : ∀ (s_j232 : St) (z0j232 : Int32) (H : Heap) (locs : List Loc), wj_Mo_run_232 y Post a0 s_j232 z0j232 → va_P D CL (ws g ad y s_j232) H → va_D A (ws g ad y s_j232) → va_S A s.heap H locs → ∀ ls, lv_has ls 8 [] → W p l e ru_Mo_run s m args below meth c H locs 0 0 Q (F0 m 232 ls [.int z0j232]) := by
                  intro s_j232 z0j232 H locs h hP hD hS ls hl
                  unfold wj_Mo_run_232 at h
                  exact hret _ _ _ _ _ _ _ ls h hP hD hS (Nat.le_refl _) (Nat.le_refl _) d_Mo_run_232
                have J_227 : ∀ (s_j227 : St) (x5j227 : Nat) (H : Heap) (locs : List Loc), wj_Mo_run_227 y Post a0 s_j227 x5j227 → va_P D CL (ws g ad y s_j227) H → va_D A (ws g ad y s_j227) → va_S A s.heap H locs → ∀ ls, lv_has ls 8 [(5, .ref (ad x5j227))] → W p l e ru_Mo_run s m args below meth c H locs 0 0 Q (F0 m 227 ls []) := by
                  intro s_j227 x5j227 H locs h hP hD hS ls hl
                  unfold wj_Mo_run_227 at h
                  obtain ⟨c_x5j227, h⟩ := h
                  refine lv_aload G.1 G.2.1 d_Mo_run_227 (lv_at hl 0 rfl) ?_
                  refine ugfN (v := .int (sV s_j227 x5j227 0)) G hP c_x5j227 iMr rfl 0 (by decide) rfl q2987 rfl rfl d_Mo_run_229 ?_
                  exact J_232 s_j227 (sV s_j227 x5j227 0) H locs h hP hD hS ls (lv_sub hl [] rfl)
                refine lv_icmp_ne (tgt := 227) G.1 G.2.1 d_Mo_run_212 (by decide) (fun c212 => ?_) (fun c212 => ?_)
                · skip
                  have h := h.1 c212
                  exact J_227 s_9 x5j148 H locs h hP hD hS ls (lv_sub hl [5] rfl)
                · skip
                  have h := h.2 c212
                  refine lv_aload_n G.1 G.2.1 d_Mo_run_215 rfl (lv_at hl 1 rfl) ?_
                  refine W.eq (g2 := F0 m 216 ls [.ref (ad a0)]) rfl ?_
                  refine lv_iload_n G.1 G.2.1 d_Mo_run_216 rfl (lv_at hl 2 rfl) ?_
                  refine ucVi (As := [.int x2j148]) (rest := []) G hP hD hS (cu_Mo_canGo l D g ad y _ s_9 a0 x2j148 H.size h_a0 h) w9_Mo_canGo q3835 ⟨Nat.le_of_ble_eq_true rfl, Nat.le_of_ble_eq_true rfl⟩ rfl rfl h_a0 (q := (RMo, TMo, 131)) rfl rfl hl.1 rfl (Nat.le_of_ble_eq_true rfl) rfl ⟨Nat.le_refl _, Nat.le_refl _⟩ d_Mo_run_217 (fun r_10 s_11 H locs h hP hD hS => ?_)
                  refine lv_if_ne (tgt := 227) G.1 G.2.1 d_Mo_run_220 (by decide) (fun c220 => ?_) (fun c220 => ?_)
                  · skip
                    have h := h.1 c220
                    exact J_227 s_11 x5j148 H locs h hP hD hS ls (lv_sub hl [5] rfl)
                  · skip
                    have h := h.2 c220
                    refine lv_iconst (v := 4) G.1 G.2.1 d_Mo_run_223 (by decide) ?_
                    refine lv_goto (tgt := 232) G.1 G.2.1 d_Mo_run_224 (by decide) ?_
                    exact J_232 s_11 4 H locs h hP hD hS ls (lv_sub hl [] rfl)
              replace h := h.2 e151_0
              by_cases e151_1 : x3j148 = 1
              · skip
                have h := h.1 e151_1
                refine lv_tableIn (off := 82) (tgt := 233) G.1 G.2.1 d_Mo_run_151 (by rw [e151_1]; decide) (by rw [e151_1]; decide) (by rw [e151_1]; rfl) (by decide) ?_
                refine lv_iload G.1 G.2.1 d_Mo_run_233 (lv_at hl 6 rfl) ?_
                have J_247 : ∀ (s_j247 : St) (z0j247 : Int32) (H : Heap) (locs : List Loc), wj_Mo_run_247 y Post a0 s_j247 z0j247 → va_P D CL (ws g ad y s_j247) H → va_D A (ws g ad y s_j247) → va_S A s.heap H locs → ∀ ls, lv_has ls 8 [] → W p l e ru_Mo_run s m args below meth c H locs 0 0 Q (F0 m 247 ls [.int z0j247]) := by
                  intro s_j247 z0j247 H locs h hP hD hS ls hl
                  unfold wj_Mo_run_247 at h
                  exact hret _ _ _ _ _ _ _ ls h hP hD hS (Nat.le_refl _) (Nat.le_refl _) d_Mo_run_247
                refine lv_if_eq (tgt := 246) G.1 G.2.1 d_Mo_run_235 (by decide) (fun c235 => ?_) (fun c235 => ?_)
                · skip
                  have h := h.1 c235
                  refine lv_iconst (v := 0) G.1 G.2.1 d_Mo_run_246 (by decide) ?_
                  exact J_247 s_j148 0 H locs h hP hD hS ls (lv_sub hl [] rfl)
                · skip
                  have h := h.2 c235
                  refine lv_aload G.1 G.2.1 d_Mo_run_238 (lv_at hl 5 rfl) ?_
                  refine ugfN (v := .int (sV s_j148 x5j148 3)) G hP c_x5j148 iMr rfl 3 (by decide) rfl q2990 rfl rfl d_Mo_run_240 ?_
                  refine lv_goto (tgt := 247) G.1 G.2.1 d_Mo_run_243 (by decide) ?_
                  exact J_247 s_j148 (sV s_j148 x5j148 3) H locs h hP hD hS ls (lv_sub hl [] rfl)
              replace h := h.2 e151_1
              by_cases e151_2 : x3j148 = 2
              · skip
                have h := h.1 e151_2
                refine lv_tableIn (off := 97) (tgt := 248) G.1 G.2.1 d_Mo_run_151 (by rw [e151_2]; decide) (by rw [e151_2]; decide) (by rw [e151_2]; rfl) (by decide) ?_
                refine lv_iload G.1 G.2.1 d_Mo_run_248 (lv_at hl 6 rfl) ?_
                have J_262 : ∀ (s_j262 : St) (z0j262 : Int32) (H : Heap) (locs : List Loc), wj_Mo_run_262 y Post a0 s_j262 z0j262 → va_P D CL (ws g ad y s_j262) H → va_D A (ws g ad y s_j262) → va_S A s.heap H locs → ∀ ls, lv_has ls 8 [] → W p l e ru_Mo_run s m args below meth c H locs 0 0 Q (F0 m 262 ls [.int z0j262]) := by
                  intro s_j262 z0j262 H locs h hP hD hS ls hl
                  unfold wj_Mo_run_262 at h
                  exact hret _ _ _ _ _ _ _ ls h hP hD hS (Nat.le_refl _) (Nat.le_refl _) d_Mo_run_262
                refine lv_if_eq (tgt := 261) G.1 G.2.1 d_Mo_run_250 (by decide) (fun c250 => ?_) (fun c250 => ?_)
                · skip
                  have h := h.1 c250
                  refine lv_iconst (v := 0) G.1 G.2.1 d_Mo_run_261 (by decide) ?_
                  exact J_262 s_j148 0 H locs h hP hD hS ls (lv_sub hl [] rfl)
                · skip
                  have h := h.2 c250
                  refine lv_aload G.1 G.2.1 d_Mo_run_253 (lv_at hl 5 rfl) ?_
                  refine ugfN (v := .int (sV s_j148 x5j148 10)) G hP c_x5j148 iMr rfl 10 (by decide) rfl q2997 rfl rfl d_Mo_run_255 ?_
                  refine lv_goto (tgt := 262) G.1 G.2.1 d_Mo_run_258 (by decide) ?_
                  exact J_262 s_j148 (sV s_j148 x5j148 10) H locs h hP hD hS ls (lv_sub hl [] rfl)
              replace h := h.2 e151_2
              by_cases e151_3 : x3j148 = 3
              · skip
                have h := h.1 e151_3
                refine lv_tableIn (off := 112) (tgt := 263) G.1 G.2.1 d_Mo_run_151 (by rw [e151_3]; decide) (by rw [e151_3]; decide) (by rw [e151_3]; rfl) (by decide) ?_
                refine lv_iload G.1 G.2.1 d_Mo_run_263 (lv_at hl 6 rfl) ?_
                have J_277 : ∀ (s_j277 : St) (z0j277 : Int32) (H : Heap) (locs : List Loc), wj_Mo_run_277 y Post a0 s_j277 z0j277 → va_P D CL (ws g ad y s_j277) H → va_D A (ws g ad y s_j277) → va_S A s.heap H locs → ∀ ls, lv_has ls 8 [] → W p l e ru_Mo_run s m args below meth c H locs 0 0 Q (F0 m 277 ls [.int z0j277]) := by
                  intro s_j277 z0j277 H locs h hP hD hS ls hl
                  unfold wj_Mo_run_277 at h
                  exact hret _ _ _ _ _ _ _ ls h hP hD hS (Nat.le_refl _) (Nat.le_refl _) d_Mo_run_277
                refine lv_if_eq (tgt := 276) G.1 G.2.1 d_Mo_run_265 (by decide) (fun c265 => ?_) (fun c265 => ?_)
                · skip
                  have h := h.1 c265
                  refine lv_iconst (v := 0) G.1 G.2.1 d_Mo_run_276 (by decide) ?_
                  exact J_277 s_j148 0 H locs h hP hD hS ls (lv_sub hl [] rfl)
                · skip
                  have h := h.2 c265
                  refine lv_aload G.1 G.2.1 d_Mo_run_268 (lv_at hl 5 rfl) ?_
                  refine ugfN (v := .int (sV s_j148 x5j148 11)) G hP c_x5j148 iMr rfl 11 (by decide) rfl q2998 rfl rfl d_Mo_run_270 ?_
                  refine lv_goto (tgt := 277) G.1 G.2.1 d_Mo_run_273 (by decide) ?_
                  exact J_277 s_j148 (sV s_j148 x5j148 11) H locs h hP hD hS ls (lv_sub hl [] rfl)
              replace h := h.2 e151_3
              by_cases e151_4 : x3j148 = 4
              · skip
                have h := h.1 e151_4
                refine lv_tableIn (off := 127) (tgt := 278) G.1 G.2.1 d_Mo_run_151 (by rw [e151_4]; decide) (by rw [e151_4]; decide) (by rw [e151_4]; rfl) (by decide) ?_
                refine lv_iload G.1 G.2.1 d_Mo_run_278 (lv_at hl 6 rfl) ?_
                have J_293 : ∀ (s_j293 : St) (z0j293 : Int32) (H : Heap) (locs : List Loc), wj_Mo_run_293 y Post a0 s_j293 z0j293 → va_P D CL (ws g ad y s_j293) H → va_D A (ws g ad y s_j293) → va_S A s.heap H locs → ∀ ls, lv_has ls 8 [] → W p l e ru_Mo_run s m args below meth c H locs 0 0 Q (F0 m 293 ls [.int z0j293]) := by
                  intro s_j293 z0j293 H locs h hP hD hS ls hl
                  unfold wj_Mo_run_293 at h
                  exact hret _ _ _ _ _ _ _ ls h hP hD hS (Nat.le_refl _) (Nat.le_refl _) d_Mo_run_293
                refine lv_if_eq (tgt := 291) G.1 G.2.1 d_Mo_run_280 (by decide) (fun c280 => ?_) (fun c280 => ?_)
                · skip
                  have h := h.1 c280
                  refine lv_bipush (v := (-2)) G.1 G.2.1 d_Mo_run_291 (by decide) ?_
                  exact J_293 s_j148 (-2) H locs h hP hD hS ls (lv_sub hl [] rfl)
                · skip
                  have h := h.2 c280
                  refine lv_aload G.1 G.2.1 d_Mo_run_283 (lv_at hl 5 rfl) ?_
                  refine ugfN (v := .int (sV s_j148 x5j148 12)) G hP c_x5j148 iMr rfl 12 (by decide) rfl q2999 rfl rfl d_Mo_run_285 ?_
                  refine lv_goto (tgt := 293) G.1 G.2.1 d_Mo_run_288 (by decide) ?_
                  exact J_293 s_j148 (sV s_j148 x5j148 12) H locs h hP hD hS ls (lv_sub hl [] rfl)
              replace h := h.2 e151_4
              by_cases e151_5 : x3j148 = 5
              · skip
                have h := h.1 e151_5
                refine lv_tableIn (off := 143) (tgt := 294) G.1 G.2.1 d_Mo_run_151 (by rw [e151_5]; decide) (by rw [e151_5]; decide) (by rw [e151_5]; rfl) (by decide) ?_
                refine lv_iload G.1 G.2.1 d_Mo_run_294 (lv_at hl 6 rfl) ?_
                have J_308 : ∀ (s_j308 : St) (z0j308 : Int32) (H : Heap) (locs : List Loc), wj_Mo_run_308 y Post a0 s_j308 z0j308 → va_P D CL (ws g ad y s_j308) H → va_D A (ws g ad y s_j308) → va_S A s.heap H locs → ∀ ls, lv_has ls 8 [] → W p l e ru_Mo_run s m args below meth c H locs 0 0 Q (F0 m 308 ls [.int z0j308]) := by
                  intro s_j308 z0j308 H locs h hP hD hS ls hl
                  unfold wj_Mo_run_308 at h
                  exact hret _ _ _ _ _ _ _ ls h hP hD hS (Nat.le_refl _) (Nat.le_refl _) d_Mo_run_308
                refine lv_if_eq (tgt := 307) G.1 G.2.1 d_Mo_run_296 (by decide) (fun c296 => ?_) (fun c296 => ?_)
                · skip
                  have h := h.1 c296
                  refine lv_iconst (v := 0) G.1 G.2.1 d_Mo_run_307 (by decide) ?_
                  exact J_308 s_j148 0 H locs h hP hD hS ls (lv_sub hl [] rfl)
                · skip
                  have h := h.2 c296
                  refine lv_aload G.1 G.2.1 d_Mo_run_299 (lv_at hl 5 rfl) ?_
                  refine ugfN (v := .int (sV s_j148 x5j148 13)) G hP c_x5j148 iMr rfl 13 (by decide) rfl q3000 rfl rfl d_Mo_run_301 ?_
                  refine lv_goto (tgt := 308) G.1 G.2.1 d_Mo_run_304 (by decide) ?_
                  exact J_308 s_j148 (sV s_j148 x5j148 13) H locs h hP hD hS ls (lv_sub hl [] rfl)
              replace h := h.2 e151_5
              by_cases e151_6 : x3j148 = 6
              · skip
                have h := h.1 e151_6
                refine lv_tableIn (off := 158) (tgt := 309) G.1 G.2.1 d_Mo_run_151 (by rw [e151_6]; decide) (by rw [e151_6]; decide) (by rw [e151_6]; rfl) (by decide) ?_
                refine lv_iload G.1 G.2.1 d_Mo_run_309 (lv_at hl 6 rfl) ?_
                have J_323 : ∀ (s_j323 : St) (z0j323 : Int32) (H : Heap) (locs : List Loc), wj_Mo_run_323 y Post a0 s_j323 z0j323 → va_P D CL (ws g ad y s_j323) H → va_D A (ws g ad y s_j323) → va_S A s.heap H locs → ∀ ls, lv_has ls 8 [] → W p l e ru_Mo_run s m args below meth c H locs 0 0 Q (F0 m 323 ls [.int z0j323]) := by
                  intro s_j323 z0j323 H locs h hP hD hS ls hl
                  unfold wj_Mo_run_323 at h
                  exact hret _ _ _ _ _ _ _ ls h hP hD hS (Nat.le_refl _) (Nat.le_refl _) d_Mo_run_323
                refine lv_if_eq (tgt := 322) G.1 G.2.1 d_Mo_run_311 (by decide) (fun c311 => ?_) (fun c311 => ?_)
                · skip
                  have h := h.1 c311
                  refine lv_iconst (v := 0) G.1 G.2.1 d_Mo_run_322 (by decide) ?_
                  exact J_323 s_j148 0 H locs h hP hD hS ls (lv_sub hl [] rfl)
                · skip
                  have h := h.2 c311
                  refine lv_aload G.1 G.2.1 d_Mo_run_314 (lv_at hl 5 rfl) ?_
                  refine ugfN (v := .int (sV s_j148 x5j148 22)) G hP c_x5j148 iMr rfl 22 (by decide) rfl q3016 rfl rfl d_Mo_run_316 ?_
                  refine lv_goto (tgt := 323) G.1 G.2.1 d_Mo_run_319 (by decide) ?_
                  exact J_323 s_j148 (sV s_j148 x5j148 22) H locs h hP hD hS ls (lv_sub hl [] rfl)
              replace h := h.2 e151_6
              by_cases e151_7 : x3j148 = 7
              · skip
                have h := h.1 e151_7
                refine lv_tableIn (off := 173) (tgt := 324) G.1 G.2.1 d_Mo_run_151 (by rw [e151_7]; decide) (by rw [e151_7]; decide) (by rw [e151_7]; rfl) (by decide) ?_
                refine lv_iload G.1 G.2.1 d_Mo_run_324 (lv_at hl 0 rfl) ?_
                have J_339 : ∀ (s_j339 : St) (z0j339 : Int32) (H : Heap) (locs : List Loc), wj_Mo_run_339 y Post a0 s_j339 z0j339 → va_P D CL (ws g ad y s_j339) H → va_D A (ws g ad y s_j339) → va_S A s.heap H locs → ∀ ls, lv_has ls 8 [] → W p l e ru_Mo_run s m args below meth c H locs 0 0 Q (F0 m 339 ls [.int z0j339]) := by
                  intro s_j339 z0j339 H locs h hP hD hS ls hl
                  unfold wj_Mo_run_339 at h
                  exact hret _ _ _ _ _ _ _ ls h hP hD hS (Nat.le_refl _) (Nat.le_refl _) d_Mo_run_339
                refine lv_if_ge (tgt := 334) G.1 G.2.1 d_Mo_run_326 (by decide) (fun c326 => ?_) (fun c326 => ?_)
                · skip
                  have h := h.1 c326
                  refine lv_iload G.1 G.2.1 d_Mo_run_334 (lv_at hl 0 rfl) ?_
                  refine lv_bipush (v := 12) G.1 G.2.1 d_Mo_run_336 (by decide) ?_
                  refine lv_idiv G.1 G.2.1 d_Mo_run_338 (by decide) ?_
                  exact J_339 s_j148 (z0j148 / 12) H locs h hP hD hS ls (lv_sub hl [] rfl)
                · skip
                  have h := h.2 c326
                  refine lv_bipush (v := (-2)) G.1 G.2.1 d_Mo_run_329 (by decide) ?_
                  refine lv_goto (tgt := 339) G.1 G.2.1 d_Mo_run_331 (by decide) ?_
                  exact J_339 s_j148 (-2) H locs h hP hD hS ls (lv_sub hl [] rfl)
              replace h := h.2 e151_7
              by_cases e151_8 : x3j148 = 8
              · skip
                have h := h.1 e151_8
                refine lv_tableIn (off := 189) (tgt := 340) G.1 G.2.1 d_Mo_run_151 (by rw [e151_8]; decide) (by rw [e151_8]; decide) (by rw [e151_8]; rfl) (by decide) ?_
                refine lv_iload G.1 G.2.1 d_Mo_run_340 (lv_at hl 0 rfl) ?_
                have J_355 : ∀ (s_j355 : St) (z0j355 : Int32) (H : Heap) (locs : List Loc), wj_Mo_run_355 y Post a0 s_j355 z0j355 → va_P D CL (ws g ad y s_j355) H → va_D A (ws g ad y s_j355) → va_S A s.heap H locs → ∀ ls, lv_has ls 8 [] → W p l e ru_Mo_run s m args below meth c H locs 0 0 Q (F0 m 355 ls [.int z0j355]) := by
                  intro s_j355 z0j355 H locs h hP hD hS ls hl
                  unfold wj_Mo_run_355 at h
                  exact hret _ _ _ _ _ _ _ ls h hP hD hS (Nat.le_refl _) (Nat.le_refl _) d_Mo_run_355
                refine lv_if_ge (tgt := 350) G.1 G.2.1 d_Mo_run_342 (by decide) (fun c342 => ?_) (fun c342 => ?_)
                · skip
                  have h := h.1 c342
                  refine lv_iload G.1 G.2.1 d_Mo_run_350 (lv_at hl 0 rfl) ?_
                  refine lv_bipush (v := 12) G.1 G.2.1 d_Mo_run_352 (by decide) ?_
                  refine lv_irem G.1 G.2.1 d_Mo_run_354 (by decide) ?_
                  exact J_355 s_j148 (z0j148 - z0j148 / 12 * 12) H locs h hP hD hS ls (lv_sub hl [] rfl)
                · skip
                  have h := h.2 c342
                  refine lv_bipush (v := (-2)) G.1 G.2.1 d_Mo_run_345 (by decide) ?_
                  refine lv_goto (tgt := 355) G.1 G.2.1 d_Mo_run_347 (by decide) ?_
                  exact J_355 s_j148 (-2) H locs h hP hD hS ls (lv_sub hl [] rfl)
              replace h := h.2 e151_8
              have te151_0 := lv_neT (a := 0) e151_0 (by decide)
              have te151_1 := lv_neT (a := 1) e151_1 (by decide)
              have te151_2 := lv_neT (a := 2) e151_2 (by decide)
              have te151_3 := lv_neT (a := 3) e151_3 (by decide)
              have te151_4 := lv_neT (a := 4) e151_4 (by decide)
              have te151_5 := lv_neT (a := 5) e151_5 (by decide)
              have te151_6 := lv_neT (a := 6) e151_6 (by decide)
              have te151_7 := lv_neT (a := 7) e151_7 (by decide)
              have te151_8 := lv_neT (a := 8) e151_8 (by decide)
              refine lv_tableOut (tgt := 356) G.1 G.2.1 d_Mo_run_151 (by omega) (by decide) ?_
              refine lv_iload G.1 G.2.1 d_Mo_run_356 (lv_at hl 0 rfl) ?_
              have J_379 : ∀ (s_j379 : St) (z0j379 : Int32) (H : Heap) (locs : List Loc), wj_Mo_run_379 y Post a0 s_j379 z0j379 → va_P D CL (ws g ad y s_j379) H → va_D A (ws g ad y s_j379) → va_S A s.heap H locs → ∀ ls, lv_has ls 8 [] → W p l e ru_Mo_run s m args below meth c H locs 0 0 Q (F0 m 379 ls [.int z0j379]) := by
                intro s_j379 z0j379 H locs h hP hD hS ls hl
                unfold wj_Mo_run_379 at h
                exact hret _ _ _ _ _ _ _ ls h hP hD hS (Nat.le_refl _) (Nat.le_refl _) d_Mo_run_379
              refine lv_if_ge (tgt := 366) G.1 G.2.1 d_Mo_run_358 (by decide) (fun c358 => ?_) (fun c358 => ?_)
              · skip
                have h := h.1 c358
                refine lv_aload G.1 G.2.1 d_Mo_run_366 (lv_at hl 5 rfl) ?_
                refine ugfN (v := .ref (yP y x5j148 18)) G hP c_x5j148 iMr rfl 18 (by decide) rfl q3009 rfl rfl d_Mo_run_368 ?_
                refine lv_aload G.1 G.2.1 d_Mo_run_371 (lv_at hl 5 rfl) ?_
                refine ugfN (v := .int (sV s_j148 x5j148 22)) G hP c_x5j148 iMr rfl 22 (by decide) rfl q3016 rfl rfl d_Mo_run_373 ?_
                refine lv_iconst (v := 1) G.1 G.2.1 d_Mo_run_376 (by decide) ?_
                refine lv_isub G.1 G.2.1 d_Mo_run_377 ?_
                refine W.eq (g2 := F0 m 378 ls [.int ((sV s_j148 x5j148 22) - 1), .ref (yP y x5j148 18)]) rfl ?_
                refine uiald G hP (kdp c_x5j148 rfl) (typ c_x5j148 rfl) h d_Mo_run_378 (fun x_12 h => ?_)
                exact J_379 s_j148 x_12 H locs h hP hD hS ls (lv_sub hl [] rfl)
              · skip
                have h := h.2 c358
                refine lv_bipush (v := (-2)) G.1 G.2.1 d_Mo_run_361 (by decide) ?_
                refine lv_goto (tgt := 379) G.1 G.2.1 d_Mo_run_363 (by decide) ?_
                exact J_379 s_j148 (-2) H locs h hP hD hS ls (lv_sub hl [] rfl)
            have J_146 : ∀ (s_j146 : St) (x2j146 : Int32) (x3j146 : Int32) (x4j146 : Nat) (x5j146 : Nat) (x6j146 : Int32) (H : Heap) (locs : List Loc), wj_Mo_run_146 y Post a0 s_j146 x2j146 x3j146 x4j146 x5j146 x6j146 → va_P D CL (ws g ad y s_j146) H → va_D A (ws g ad y s_j146) → va_S A s.heap H locs → ∀ ls, lv_has ls 8 [(0, .ref (ad a0)), (2, .int x2j146), (3, .int x3j146), (4, .ref (ad x4j146)), (5, .ref (ad x5j146)), (6, .int x6j146)] → W p l e ru_Mo_run s m args below meth c H locs 0 0 Q (F0 m 146 ls []) := by
              intro s_j146 x2j146 x3j146 x4j146 x5j146 x6j146 H locs h hP hD hS ls hl
              unfold wj_Mo_run_146 at h
              obtain ⟨c_x4j146, h⟩ := h
              obtain ⟨c_x5j146, h⟩ := h
              refine lv_bipush (v := (-2)) G.1 G.2.1 d_Mo_run_146 (by decide) ?_
              exact J_148 s_j146 x2j146 x3j146 x4j146 x5j146 x6j146 (-2) H locs h hP hD hS ls (lv_sub hl [0, 1, 2, 3, 4, 5] rfl)
            refine lv_if_eq (tgt := 146) G.1 G.2.1 d_Mo_run_119 (by decide) (fun c119 => ?_) (fun c119 => ?_)
            · skip
              have h := h.1 c119
              exact J_146 s_j115 x2j115 x3j115 x4j115 x5j115 z0j115 H locs h hP hD hS ls (lv_sub hl [1, 2, 3, 4, 5, 0] rfl)
            · skip
              have h := h.2 c119
              refine lv_aload G.1 G.2.1 d_Mo_run_122 (lv_at hl 5 rfl) ?_
              refine ugfN (v := .int (sV s_j115 x5j115 22)) G hP c_x5j115 iMr rfl 22 (by decide) rfl q3016 rfl rfl d_Mo_run_124 ?_
              refine lv_if_le (tgt := 146) G.1 G.2.1 d_Mo_run_127 (by decide) (fun c127 => ?_) (fun c127 => ?_)
              · skip
                have h := h.1 c127
                exact J_146 s_j115 x2j115 x3j115 x4j115 x5j115 z0j115 H locs h hP hD hS ls (lv_sub hl [1, 2, 3, 4, 5, 0] rfl)
              · skip
                have h := h.2 c127
                refine lv_aload G.1 G.2.1 d_Mo_run_130 (lv_at hl 5 rfl) ?_
                refine ugfN (v := .ref (yP y x5j115 17)) G hP c_x5j115 iMr rfl 17 (by decide) rfl q3007 rfl rfl d_Mo_run_132 ?_
                refine lv_aload G.1 G.2.1 d_Mo_run_135 (lv_at hl 5 rfl) ?_
                refine ugfN (v := .int (sV s_j115 x5j115 22)) G hP c_x5j115 iMr rfl 22 (by decide) rfl q3016 rfl rfl d_Mo_run_137 ?_
                refine lv_iconst (v := 1) G.1 G.2.1 d_Mo_run_140 (by decide) ?_
                refine W.eq (g2 := F0 m 141 ls [.int 1, .int (sV s_j115 x5j115 22), .ref (yP y x5j115 17)]) rfl ?_
                refine lv_isub G.1 G.2.1 d_Mo_run_141 ?_
                refine uiald G hP (kdp c_x5j115 rfl) (typ c_x5j115 rfl) h d_Mo_run_142 (fun x_13 h => ?_)
                refine lv_goto (tgt := 148) G.1 G.2.1 d_Mo_run_143 (by decide) ?_
                exact J_148 s_j115 x2j115 x3j115 x4j115 x5j115 z0j115 x_13 H locs h hP hD hS ls (lv_sub hl [1, 2, 3, 4, 5, 0] rfl)
          refine lv_icmp_eq (tgt := 114) G.1 G.2.1 d_Mo_run_107 (by decide) (fun c107 => ?_) (fun c107 => ?_)
          · skip
            have h := h.1 c107
            refine lv_iconst (v := 0) G.1 G.2.1 d_Mo_run_114 (by decide) ?_
            exact J_115 s_4 v2 v3 b_5 b_7 0 H locs h hP hD hS ls (lv_sub hl [2, 4, 5, 1, 0] rfl)
          · skip
            have h := h.2 c107
            refine lv_iconst (v := 1) G.1 G.2.1 d_Mo_run_110 (by decide) ?_
            refine lv_goto (tgt := 115) G.1 G.2.1 d_Mo_run_111 (by decide) ?_
            exact J_115 s_4 v2 v3 b_5 b_7 1 H locs h hP hD hS ls (lv_sub hl [2, 4, 5, 1, 0] rfl)
        · skip
          have h := h.2 c22
          exact J_25 s_4 H locs h hP hD hS ls (lv_sub hl [] rfl)
def y_Mo_started : MethodName := ⟨"ClassWorksModel", "started", "(II)I"⟩
abbrev b_Mo_started : ByteArray := prog_14_method_149_code
theorem q2815 : Cond.fieldLinkNest "ClassWorksModel" 995 "ClassWorksModel$World" "begun" "[I" "ClassWorksModel" ∈ lw_nest := lw_nestmem (List.mem_of_getElem? (i := 2815) (by decide +kernel)) rfl
theorem d_Mo_started_0 : decode b_Mo_started 0 = .ok (.aload_n 0, 1) := by decide +kernel
theorem d_Mo_started_1 : decode b_Mo_started 1 = .ok (.iload_n 1, 1) := by decide +kernel
theorem d_Mo_started_2 : decode b_Mo_started 2 = .ok (.invokevirtual 1118, 3) := by decide +kernel
theorem d_Mo_started_5 : decode b_Mo_started 5 = .ok (.ifCond .eq 34, 3) := by decide +kernel
theorem d_Mo_started_8 : decode b_Mo_started 8 = .ok (.iload_n 2, 1) := by decide +kernel
theorem d_Mo_started_9 : decode b_Mo_started 9 = .ok (.ifCond .lt 30, 3) := by decide +kernel
theorem d_Mo_started_12 : decode b_Mo_started 12 = .ok (.iload_n 2, 1) := by decide +kernel
theorem d_Mo_started_13 : decode b_Mo_started 13 = .ok (.aload_n 0, 1) := by decide +kernel
theorem d_Mo_started_14 : decode b_Mo_started 14 = .ok (.getfield 263, 3) := by decide +kernel
theorem d_Mo_started_17 : decode b_Mo_started 17 = .ok (.iload_n 1, 1) := by decide +kernel
theorem d_Mo_started_18 : decode b_Mo_started 18 = .ok (.aaload, 1) := by decide +kernel
theorem d_Mo_started_19 : decode b_Mo_started 19 = .ok (.getfield 519, 3) := by decide +kernel
theorem d_Mo_started_22 : decode b_Mo_started 22 = .ok (.if_icmp .ge 17, 3) := by decide +kernel
theorem d_Mo_started_25 : decode b_Mo_started 25 = .ok (.aload_n 0, 1) := by decide +kernel
theorem d_Mo_started_26 : decode b_Mo_started 26 = .ok (.getfield 263, 3) := by decide +kernel
theorem d_Mo_started_29 : decode b_Mo_started 29 = .ok (.iload_n 1, 1) := by decide +kernel
theorem d_Mo_started_30 : decode b_Mo_started 30 = .ok (.aaload, 1) := by decide +kernel
theorem d_Mo_started_31 : decode b_Mo_started 31 = .ok (.getfield 995, 3) := by decide +kernel
theorem d_Mo_started_34 : decode b_Mo_started 34 = .ok (.iload_n 2, 1) := by decide +kernel
theorem d_Mo_started_35 : decode b_Mo_started 35 = .ok (.iaload, 1) := by decide +kernel
theorem d_Mo_started_36 : decode b_Mo_started 36 = .ok (.goto 4, 3) := by decide +kernel
theorem d_Mo_started_39 : decode b_Mo_started 39 = .ok (.iconst (-1), 1) := by decide +kernel
theorem d_Mo_started_40 : decode b_Mo_started 40 = .ok (.ireturn, 1) := by decide +kernel
abbrev ru_Mo_started : Room := { frames := 1, cells := 0, slots := 0, locals := 21 }
def wj_Mo_started_40 (y : Ly) (Post : St → Int32 → Prop) (a0 : Nat) (s_j40 : St) (z0j40 : Int32) : Prop := Post s_j40 z0j40
def wj_Mo_started_39 (y : Ly) (Post : St → Int32 → Prop) (a0 : Nat) (s_j39 : St) : Prop := wj_Mo_started_40 y Post a0 s_j39 (-1)
def wu_Mo_started (y : Ly) (Post : St → Int32 → Prop) (σ : St) (a0 : Nat) (v1 : Int32) (v2 : Int32) : Prop := wu_Mo_isWorld y (fun (s_2 : St) (r_1 : Int32) => ((r_1 = 0 → wj_Mo_started_39 y Post a0 s_2) ∧ (¬ (r_1 = 0) → ((v2 < 0 → wj_Mo_started_39 y Post a0 s_2) ∧ (¬ (v2 < 0) → xQ y a0 44 v1 (fun b_3 : Nat => (((sV s_2 b_3 60) ≤ v2 → wj_Mo_started_39 y Post a0 s_2) ∧ (¬ ((sV s_2 b_3 60) ≤ v2) → xQ y a0 44 v1 (fun b_5 : Nat => xA y s_2 b_5 59 v2 (fun x_7 : Int32 => wj_Mo_started_40 y Post a0 s_2 x_7)))))))))) σ a0 v1
set_option maxHeartbeats 4000000 in
set_option maxRecDepth 100000 in
theorem cu_Mo_started (l : Launch) (D : va_G) (g : Nat → ClassId) (ad : Nat → Nat) (y : Ly) (Post : St → Int32 → Prop) (σ : St) (a0 : Nat) (v1 : Int32) (v2 : Int32) (sz : Nat) (h_a0 : cl a0 = 14) (h : wu_Mo_started y Post σ a0 v1 v2) : Met l y_Mo_started (mw y_Mo_started b_Mo_started 3 (some .int)) ru_Mo_started (PC g D [] [.ref (ad a0), .int v1, .int v2] sz (ws g ad y σ)) (va_Qi (fun (r : Int32) (u : St) => Post u r) (QW D (va_A (ws g ad y σ) sz) (fun u => ws g ad y u)) (va_A (ws g ad y σ) sz)) 0 0 (va_A (ws g ad y σ) sz) := by
  refine ofI (by decide +kernel) (Nat.le_of_ble_eq_true rfl) ?_
  intro p e s m args below meth c A Q ls H locs G hsz hP hD hS hl hret
  subst hsz
  have hl : lv_has ls 3 [(0, .ref (ad a0)), (1, .int v1), (2, .int v2)] := hl
  unfold wu_Mo_started at h
  refine lv_aload_n G.1 G.2.1 d_Mo_started_0 rfl (lv_at hl 0 rfl) ?_
  refine lv_iload_n G.1 G.2.1 d_Mo_started_1 rfl (lv_at hl 1 rfl) ?_
  refine ucVi (As := [.int v1]) (rest := []) G hP hD hS (cu_Mo_isWorld l D g ad y _ σ a0 v1 H.size h_a0 h) w9_Mo_isWorld q3482 ⟨Nat.le_of_ble_eq_true rfl, Nat.le_of_ble_eq_true rfl⟩ rfl rfl h_a0 (q := (RMo, TMo, 131)) rfl rfl hl.1 rfl (Nat.le_of_ble_eq_true rfl) rfl ⟨Nat.le_refl _, Nat.le_refl _⟩ d_Mo_started_2 (fun r_1 s_2 H locs h hP hD hS => ?_)
  have J_40 : ∀ (s_j40 : St) (z0j40 : Int32) (H : Heap) (locs : List Loc), wj_Mo_started_40 y Post a0 s_j40 z0j40 → va_P D CL (ws g ad y s_j40) H → va_D A (ws g ad y s_j40) → va_S A s.heap H locs → ∀ ls, lv_has ls 3 [] → W p l e ru_Mo_started s m args below meth c H locs 0 0 Q (F0 m 40 ls [.int z0j40]) := by
    intro s_j40 z0j40 H locs h hP hD hS ls hl
    unfold wj_Mo_started_40 at h
    exact hret _ _ _ _ _ _ _ ls h hP hD hS (Nat.le_refl _) (Nat.le_refl _) d_Mo_started_40
  have J_39 : ∀ (s_j39 : St) (H : Heap) (locs : List Loc), wj_Mo_started_39 y Post a0 s_j39 → va_P D CL (ws g ad y s_j39) H → va_D A (ws g ad y s_j39) → va_S A s.heap H locs → ∀ ls, lv_has ls 3 [] → W p l e ru_Mo_started s m args below meth c H locs 0 0 Q (F0 m 39 ls []) := by
    intro s_j39 H locs h hP hD hS ls hl
    unfold wj_Mo_started_39 at h
    refine lv_iconst (v := (-1)) G.1 G.2.1 d_Mo_started_39 (by decide) ?_
    exact J_40 s_j39 (-1) H locs h hP hD hS ls (lv_sub hl [] rfl)
  refine lv_if_eq (tgt := 39) G.1 G.2.1 d_Mo_started_5 (by decide) (fun c5 => ?_) (fun c5 => ?_)
  · skip
    have h := h.1 c5
    exact J_39 s_2 H locs h hP hD hS ls (lv_sub hl [] rfl)
  · skip
    have h := h.2 c5
    refine lv_iload_n G.1 G.2.1 d_Mo_started_8 rfl (lv_at hl 2 rfl) ?_
    refine lv_if_lt (tgt := 39) G.1 G.2.1 d_Mo_started_9 (by decide) (fun c9 => ?_) (fun c9 => ?_)
    · skip
      have h := h.1 c9
      exact J_39 s_2 H locs h hP hD hS ls (lv_sub hl [] rfl)
    · skip
      have h := h.2 c9
      refine lv_iload_n G.1 G.2.1 d_Mo_started_12 rfl (lv_at hl 2 rfl) ?_
      refine lv_aload_n G.1 G.2.1 d_Mo_started_13 rfl (lv_at hl 0 rfl) ?_
      refine ugf (v := .ref (yP y a0 44)) G hP h_a0 iMo rfl 44 (by decide) rfl q3108 rfl rfl d_Mo_started_14 ?_
      refine lv_iload_n G.1 G.2.1 d_Mo_started_17 rfl (lv_at hl 1 rfl) ?_
      refine uqald G hP (kdp h_a0 rfl) (typ h_a0 rfl) rfl h d_Mo_started_18 (fun b_3 n_4 h => ?_)
      refine W.eq (g2 := F0 m 19 ls [.ref (ad b_3), .int v2]) rfl ?_
      refine ugfN (v := .int (sV s_2 b_3 60)) G hP (oa_14 h_a0 n_4) iMw rfl 60 (by decide) rfl q2816 rfl rfl d_Mo_started_19 ?_
      refine lv_icmp_ge (tgt := 39) G.1 G.2.1 d_Mo_started_22 (by decide) (fun c22 => ?_) (fun c22 => ?_)
      · skip
        have h := h.1 c22
        exact J_39 s_2 H locs h hP hD hS ls (lv_sub hl [] rfl)
      · skip
        have h := h.2 c22
        refine lv_aload_n G.1 G.2.1 d_Mo_started_25 rfl (lv_at hl 0 rfl) ?_
        refine ugf (v := .ref (yP y a0 44)) G hP h_a0 iMo rfl 44 (by decide) rfl q3108 rfl rfl d_Mo_started_26 ?_
        refine lv_iload_n G.1 G.2.1 d_Mo_started_29 rfl (lv_at hl 1 rfl) ?_
        refine uqald G hP (kdp h_a0 rfl) (typ h_a0 rfl) rfl h d_Mo_started_30 (fun b_5 n_6 h => ?_)
        refine ugfN (v := .ref (yP y b_5 59)) G hP (oa_14 h_a0 n_6) iMw rfl 59 (by decide) rfl q2815 rfl rfl d_Mo_started_31 ?_
        refine lv_iload_n G.1 G.2.1 d_Mo_started_34 rfl (lv_at hl 2 rfl) ?_
        refine uiald G hP (kdp (oa_14 h_a0 n_6) rfl) (typ (oa_14 h_a0 n_6) rfl) h d_Mo_started_35 (fun x_7 h => ?_)
        refine lv_goto (tgt := 40) G.1 G.2.1 d_Mo_started_36 (by decide) ?_
        exact J_40 s_2 x_7 H locs h hP hD hS ls (lv_sub hl [] rfl)
def y_Mo_shown : MethodName := ⟨"ClassWorksModel", "shown", "(IZ)I"⟩
abbrev b_Mo_shown : ByteArray := prog_14_method_150_code
theorem d_Mo_shown_0 : decode b_Mo_shown 0 = .ok (.iload_n 1, 1) := by decide +kernel
theorem d_Mo_shown_1 : decode b_Mo_shown 1 = .ok (.ifCond .eq 14, 3) := by decide +kernel
theorem d_Mo_shown_4 : decode b_Mo_shown 4 = .ok (.iload_n 0, 1) := by decide +kernel
theorem d_Mo_shown_5 : decode b_Mo_shown 5 = .ok (.sipush 1001, 3) := by decide +kernel
theorem d_Mo_shown_8 : decode b_Mo_shown 8 = .ok (.if_icmp .lt 7, 3) := by decide +kernel
theorem d_Mo_shown_11 : decode b_Mo_shown 11 = .ok (.iconst 0, 1) := by decide +kernel
theorem d_Mo_shown_12 : decode b_Mo_shown 12 = .ok (.goto 4, 3) := by decide +kernel
theorem d_Mo_shown_15 : decode b_Mo_shown 15 = .ok (.iload_n 0, 1) := by decide +kernel
theorem d_Mo_shown_16 : decode b_Mo_shown 16 = .ok (.ireturn, 1) := by decide +kernel
abbrev ru_Mo_shown : Room := { frames := 0, cells := 0, slots := 0, locals := 0 }
def wj_Mo_shown_16 (y : Ly) (Post : St → Int32 → Prop) (s_j16 : St) (z0j16 : Int32) : Prop := Post s_j16 z0j16
def wj_Mo_shown_15 (y : Ly) (Post : St → Int32 → Prop) (s_j15 : St) (x0j15 : Int32) : Prop := wj_Mo_shown_16 y Post s_j15 x0j15
def wu_Mo_shown (y : Ly) (Post : St → Int32 → Prop) (σ : St) (v0 : Int32) (v1 : Int32) : Prop := ((v1 = 0 → wj_Mo_shown_15 y Post σ v0) ∧ (¬ (v1 = 0) → ((v0 < 1001 → wj_Mo_shown_15 y Post σ v0) ∧ (¬ (v0 < 1001) → wj_Mo_shown_16 y Post σ 0))))
set_option maxHeartbeats 4000000 in
set_option maxRecDepth 100000 in
theorem cu_Mo_shown (l : Launch) (D : va_G) (g : Nat → ClassId) (ad : Nat → Nat) (y : Ly) (Post : St → Int32 → Prop) (σ : St) (v0 : Int32) (v1 : Int32) (sz : Nat) (h : wu_Mo_shown y Post σ v0 v1) : Met l y_Mo_shown (mw y_Mo_shown b_Mo_shown 2 (some .int)) ru_Mo_shown (PC g D [] [.int v0, .int v1] sz (ws g ad y σ)) (va_Qi (fun (r : Int32) (u : St) => Post u r) (QW D (va_A (ws g ad y σ) sz) (fun u => ws g ad y u)) (va_A (ws g ad y σ) sz)) 0 0 (va_A (ws g ad y σ) sz) := by
  refine ofI (by decide +kernel) (Nat.le_of_ble_eq_true rfl) ?_
  intro p e s m args below meth c A Q ls H locs G hsz hP hD hS hl hret
  subst hsz
  have hl : lv_has ls 2 [(0, .int v0), (1, .int v1)] := hl
  unfold wu_Mo_shown at h
  refine lv_iload_n G.1 G.2.1 d_Mo_shown_0 rfl (lv_at hl 1 rfl) ?_
  have J_16 : ∀ (s_j16 : St) (z0j16 : Int32) (H : Heap) (locs : List Loc), wj_Mo_shown_16 y Post s_j16 z0j16 → va_P D CL (ws g ad y s_j16) H → va_D A (ws g ad y s_j16) → va_S A s.heap H locs → ∀ ls, lv_has ls 2 [] → W p l e ru_Mo_shown s m args below meth c H locs 0 0 Q (F0 m 16 ls [.int z0j16]) := by
    intro s_j16 z0j16 H locs h hP hD hS ls hl
    unfold wj_Mo_shown_16 at h
    exact hret _ _ _ _ _ _ _ ls h hP hD hS (Nat.le_refl _) (Nat.le_refl _) d_Mo_shown_16
  have J_15 : ∀ (s_j15 : St) (x0j15 : Int32) (H : Heap) (locs : List Loc), wj_Mo_shown_15 y Post s_j15 x0j15 → va_P D CL (ws g ad y s_j15) H → va_D A (ws g ad y s_j15) → va_S A s.heap H locs → ∀ ls, lv_has ls 2 [(0, .int x0j15)] → W p l e ru_Mo_shown s m args below meth c H locs 0 0 Q (F0 m 15 ls []) := by
    intro s_j15 x0j15 H locs h hP hD hS ls hl
    unfold wj_Mo_shown_15 at h
    refine lv_iload_n G.1 G.2.1 d_Mo_shown_15 rfl (lv_at hl 0 rfl) ?_
    exact J_16 s_j15 x0j15 H locs h hP hD hS ls (lv_sub hl [] rfl)
  refine lv_if_eq (tgt := 15) G.1 G.2.1 d_Mo_shown_1 (by decide) (fun c1 => ?_) (fun c1 => ?_)
  · skip
    have h := h.1 c1
    exact J_15 σ v0 H locs h hP hD hS ls (lv_sub hl [0] rfl)
  · skip
    have h := h.2 c1
    refine lv_iload_n G.1 G.2.1 d_Mo_shown_4 rfl (lv_at hl 0 rfl) ?_
    refine lv_sipush (v := 1001) G.1 G.2.1 d_Mo_shown_5 (by decide) ?_
    refine lv_icmp_lt (tgt := 15) G.1 G.2.1 d_Mo_shown_8 (by decide) (fun c8 => ?_) (fun c8 => ?_)
    · skip
      have h := h.1 c8
      exact J_15 σ v0 H locs h hP hD hS ls (lv_sub hl [0] rfl)
    · skip
      have h := h.2 c8
      refine lv_iconst (v := 0) G.1 G.2.1 d_Mo_shown_11 (by decide) ?_
      refine lv_goto (tgt := 16) G.1 G.2.1 d_Mo_shown_12 (by decide) ?_
      exact J_16 σ 0 H locs h hP hD hS ls (lv_sub hl [] rfl)
theorem q4027 : Cond.methodLink "ClassWorksModel" 1170 y_Mo_shown ∈ lw_ok := lw_okmem (List.mem_of_getElem? (i := 4027) (by decide +kernel)) rfl
theorem q4029 : Cond.code y_Mo_shown b_Mo_shown 2 (some .int) ∈ lw_ok := lw_okmem (List.mem_of_getElem? (i := 4029) (by decide +kernel)) rfl
theorem q4028 : Cond.static y_Mo_shown ∈ lw_ok := lw_okmem (List.mem_of_getElem? (i := 4028) (by decide +kernel)) rfl
theorem w9_Mo_shown : CWv y_Mo_shown b_Mo_shown 2 (some .int) 2 ∧ Cond.static y_Mo_shown ∈ lw_ok := ⟨⟨q4029, q348, by decide +kernel, by decide +kernel, by decide +kernel⟩, q4028⟩
def y_Mo_value : MethodName := ⟨"ClassWorksModel", "value", "(IIZI)I"⟩
abbrev b_Mo_value : ByteArray := prog_14_method_151_code
theorem d_Mo_value_0 : decode b_Mo_value 0 = .ok (.aload_n 0, 1) := by decide +kernel
theorem d_Mo_value_1 : decode b_Mo_value 1 = .ok (.iload_n 1, 1) := by decide +kernel
theorem d_Mo_value_2 : decode b_Mo_value 2 = .ok (.invokevirtual 1118, 3) := by decide +kernel
theorem d_Mo_value_5 : decode b_Mo_value 5 = .ok (.ifCond .eq 15, 3) := by decide +kernel
theorem d_Mo_value_8 : decode b_Mo_value 8 = .ok (.iload_n 2, 1) := by decide +kernel
theorem d_Mo_value_9 : decode b_Mo_value 9 = .ok (.invokestatic 1153, 3) := by decide +kernel
theorem d_Mo_value_12 : decode b_Mo_value 12 = .ok (.ifCond .eq 8, 3) := by decide +kernel
theorem d_Mo_value_15 : decode b_Mo_value 15 = .ok (.iload 4, 2) := by decide +kernel
theorem d_Mo_value_17 : decode b_Mo_value 17 = .ok (.ifCond .ge 5, 3) := by decide +kernel
theorem d_Mo_value_20 : decode b_Mo_value 20 = .ok (.iconst (-1), 1) := by decide +kernel
theorem d_Mo_value_21 : decode b_Mo_value 21 = .ok (.ireturn, 1) := by decide +kernel
theorem d_Mo_value_22 : decode b_Mo_value 22 = .ok (.aload_n 0, 1) := by decide +kernel
theorem d_Mo_value_23 : decode b_Mo_value 23 = .ok (.getfield 263, 3) := by decide +kernel
theorem d_Mo_value_26 : decode b_Mo_value 26 = .ok (.iload_n 1, 1) := by decide +kernel
theorem d_Mo_value_27 : decode b_Mo_value 27 = .ok (.aaload, 1) := by decide +kernel
theorem d_Mo_value_28 : decode b_Mo_value 28 = .ok (.astore 5, 2) := by decide +kernel
theorem d_Mo_value_30 : decode b_Mo_value 30 = .ok (.aload 5, 2) := by decide +kernel
theorem d_Mo_value_32 : decode b_Mo_value 32 = .ok (.getfield 406, 3) := by decide +kernel
theorem d_Mo_value_35 : decode b_Mo_value 35 = .ok (.iload_n 2, 1) := by decide +kernel
theorem d_Mo_value_36 : decode b_Mo_value 36 = .ok (.aaload, 1) := by decide +kernel
theorem d_Mo_value_37 : decode b_Mo_value 37 = .ok (.astore 6, 2) := by decide +kernel
theorem d_Mo_value_39 : decode b_Mo_value 39 = .ok (.aload 6, 2) := by decide +kernel
theorem d_Mo_value_41 : decode b_Mo_value 41 = .ok (.getfield 486, 3) := by decide +kernel
theorem d_Mo_value_44 : decode b_Mo_value 44 = .ok (.bipush (-2), 2) := by decide +kernel
theorem d_Mo_value_46 : decode b_Mo_value 46 = .ok (.if_icmp .ne 7, 3) := by decide +kernel
theorem d_Mo_value_49 : decode b_Mo_value 49 = .ok (.iconst (-1), 1) := by decide +kernel
theorem d_Mo_value_50 : decode b_Mo_value 50 = .ok (.goto 10, 3) := by decide +kernel
theorem d_Mo_value_53 : decode b_Mo_value 53 = .ok (.aload 6, 2) := by decide +kernel
theorem d_Mo_value_55 : decode b_Mo_value 55 = .ok (.getfield 924, 3) := by decide +kernel
theorem d_Mo_value_58 : decode b_Mo_value 58 = .ok (.iconst 1, 1) := by decide +kernel
theorem d_Mo_value_59 : decode b_Mo_value 59 = .ok (.isub, 1) := by decide +kernel
theorem d_Mo_value_60 : decode b_Mo_value 60 = .ok (.istore 7, 2) := by decide +kernel
theorem d_Mo_value_62 : decode b_Mo_value 62 = .ok (.iload 7, 2) := by decide +kernel
theorem d_Mo_value_64 : decode b_Mo_value 64 = .ok (.ifCond .lt 37, 3) := by decide +kernel
theorem d_Mo_value_67 : decode b_Mo_value 67 = .ok (.iload 4, 2) := by decide +kernel
theorem d_Mo_value_69 : decode b_Mo_value 69 = .ok (.iload_n 3, 1) := by decide +kernel
theorem d_Mo_value_70 : decode b_Mo_value 70 = .ok (.ifCond .eq 14, 3) := by decide +kernel
theorem d_Mo_value_73 : decode b_Mo_value 73 = .ok (.aload 6, 2) := by decide +kernel
theorem d_Mo_value_75 : decode b_Mo_value 75 = .ok (.getfield 933, 3) := by decide +kernel
theorem d_Mo_value_78 : decode b_Mo_value 78 = .ok (.iload 7, 2) := by decide +kernel
theorem d_Mo_value_80 : decode b_Mo_value 80 = .ok (.iaload, 1) := by decide +kernel
theorem d_Mo_value_81 : decode b_Mo_value 81 = .ok (.goto 17, 3) := by decide +kernel
theorem d_Mo_value_84 : decode b_Mo_value 84 = .ok (.aload 5, 2) := by decide +kernel
theorem d_Mo_value_86 : decode b_Mo_value 86 = .ok (.getfield 459, 3) := by decide +kernel
theorem d_Mo_value_89 : decode b_Mo_value 89 = .ok (.aload 6, 2) := by decide +kernel
theorem d_Mo_value_91 : decode b_Mo_value 91 = .ok (.getfield 927, 3) := by decide +kernel
theorem d_Mo_value_94 : decode b_Mo_value 94 = .ok (.iload 7, 2) := by decide +kernel
theorem d_Mo_value_96 : decode b_Mo_value 96 = .ok (.iaload, 1) := by decide +kernel
theorem d_Mo_value_97 : decode b_Mo_value 97 = .ok (.iaload, 1) := by decide +kernel
theorem d_Mo_value_98 : decode b_Mo_value 98 = .ok (.if_icmp .lt 5, 3) := by decide +kernel
theorem d_Mo_value_101 : decode b_Mo_value 101 = .ok (.iconst (-1), 1) := by decide +kernel
theorem d_Mo_value_102 : decode b_Mo_value 102 = .ok (.ireturn, 1) := by decide +kernel
theorem d_Mo_value_103 : decode b_Mo_value 103 = .ok (.bipush 44, 2) := by decide +kernel
theorem d_Mo_value_105 : decode b_Mo_value 105 = .ok (.iload 7, 2) := by decide +kernel
theorem d_Mo_value_107 : decode b_Mo_value 107 = .ok (.imul, 1) := by decide +kernel
theorem d_Mo_value_108 : decode b_Mo_value 108 = .ok (.iload_n 3, 1) := by decide +kernel
theorem d_Mo_value_109 : decode b_Mo_value 109 = .ok (.ifCond .eq 22, 3) := by decide +kernel
theorem d_Mo_value_112 : decode b_Mo_value 112 = .ok (.bipush 20, 2) := by decide +kernel
theorem d_Mo_value_114 : decode b_Mo_value 114 = .ok (.aload 6, 2) := by decide +kernel
theorem d_Mo_value_116 : decode b_Mo_value 116 = .ok (.getfield 933, 3) := by decide +kernel
theorem d_Mo_value_119 : decode b_Mo_value 119 = .ok (.iload 7, 2) := by decide +kernel
theorem d_Mo_value_121 : decode b_Mo_value 121 = .ok (.iaload, 1) := by decide +kernel
theorem d_Mo_value_122 : decode b_Mo_value 122 = .ok (.iadd, 1) := by decide +kernel
theorem d_Mo_value_123 : decode b_Mo_value 123 = .ok (.iconst 1, 1) := by decide +kernel
theorem d_Mo_value_124 : decode b_Mo_value 124 = .ok (.isub, 1) := by decide +kernel
theorem d_Mo_value_125 : decode b_Mo_value 125 = .ok (.iload 4, 2) := by decide +kernel
theorem d_Mo_value_127 : decode b_Mo_value 127 = .ok (.isub, 1) := by decide +kernel
theorem d_Mo_value_128 : decode b_Mo_value 128 = .ok (.goto 5, 3) := by decide +kernel
theorem d_Mo_value_131 : decode b_Mo_value 131 = .ok (.iload 4, 2) := by decide +kernel
theorem d_Mo_value_133 : decode b_Mo_value 133 = .ok (.iadd, 1) := by decide +kernel
theorem d_Mo_value_134 : decode b_Mo_value 134 = .ok (.istore 8, 2) := by decide +kernel
theorem d_Mo_value_136 : decode b_Mo_value 136 = .ok (.aload 6, 2) := by decide +kernel
theorem d_Mo_value_138 : decode b_Mo_value 138 = .ok (.getfield 936, 3) := by decide +kernel
theorem d_Mo_value_141 : decode b_Mo_value 141 = .ok (.iload 8, 2) := by decide +kernel
theorem d_Mo_value_143 : decode b_Mo_value 143 = .ok (.iaload, 1) := by decide +kernel
theorem d_Mo_value_144 : decode b_Mo_value 144 = .ok (.aload 6, 2) := by decide +kernel
theorem d_Mo_value_146 : decode b_Mo_value 146 = .ok (.getfield 939, 3) := by decide +kernel
theorem d_Mo_value_149 : decode b_Mo_value 149 = .ok (.iload 8, 2) := by decide +kernel
theorem d_Mo_value_151 : decode b_Mo_value 151 = .ok (.baload, 1) := by decide +kernel
theorem d_Mo_value_152 : decode b_Mo_value 152 = .ok (.invokestatic 1170, 3) := by decide +kernel
theorem d_Mo_value_155 : decode b_Mo_value 155 = .ok (.ireturn, 1) := by decide +kernel
abbrev ru_Mo_value : Room := { frames := 1, cells := 0, slots := 0, locals := 21 }
def wj_Mo_value_20 (y : Ly) (Post : St → Int32 → Prop) (a0 : Nat) (s_j20 : St) : Prop := Post s_j20 (-1)
def wj_Mo_value_101 (y : Ly) (Post : St → Int32 → Prop) (a0 : Nat) (s_j101 : St) : Prop := Post s_j101 (-1)
def wj_Mo_value_133 (y : Ly) (Post : St → Int32 → Prop) (a0 : Nat) (s_j133 : St) (x6j133 : Nat) (z0j133 : Int32) (z1j133 : Int32) : Prop := cl x6j133 = 12 ∧ xA y s_j133 x6j133 20 (z0j133 + z1j133) (fun x_9 : Int32 => xA y s_j133 x6j133 21 (z0j133 + z1j133) (fun x_10 : Int32 => wu_Mo_shown y (fun (s_12 : St) (r_11 : Int32) => Post s_12 r_11) s_j133 x_9 x_10))
def wj_Mo_value_98 (y : Ly) (Post : St → Int32 → Prop) (a0 : Nat) (s_j98 : St) (x3j98 : Int32) (x4j98 : Int32) (x6j98 : Nat) (x7j98 : Int32) (z0j98 : Int32) (z1j98 : Int32) : Prop := cl x6j98 = 12 ∧ ((z0j98 < z1j98 → ((x3j98 = 0 → wj_Mo_value_133 y Post a0 s_j98 x6j98 (44 * x7j98) x4j98) ∧ (¬ (x3j98 = 0) → xA y s_j98 x6j98 19 x7j98 (fun x_13 : Int32 => wj_Mo_value_133 y Post a0 s_j98 x6j98 (44 * x7j98) (((20 + x_13) - 1) - x4j98))))) ∧ (¬ (z0j98 < z1j98) → wj_Mo_value_101 y Post a0 s_j98))
def wj_Mo_value_60 (y : Ly) (Post : St → Int32 → Prop) (a0 : Nat) (s_j60 : St) (x3j60 : Int32) (x4j60 : Int32) (x5j60 : Nat) (x6j60 : Nat) (z0j60 : Int32) : Prop := cl x5j60 = 13 ∧ cl x6j60 = 12 ∧ ((z0j60 < 0 → wj_Mo_value_101 y Post a0 s_j60) ∧ (¬ (z0j60 < 0) → ((x3j60 = 0 → xA y s_j60 x6j60 17 z0j60 (fun x_14 : Int32 => xA y s_j60 x5j60 22 x_14 (fun x_15 : Int32 => wj_Mo_value_98 y Post a0 s_j60 x3j60 x4j60 x6j60 z0j60 x4j60 x_15))) ∧ (¬ (x3j60 = 0) → xA y s_j60 x6j60 19 z0j60 (fun x_16 : Int32 => wj_Mo_value_98 y Post a0 s_j60 x3j60 x4j60 x6j60 z0j60 x4j60 x_16)))))
def wu_Mo_value (y : Ly) (Post : St → Int32 → Prop) (σ : St) (a0 : Nat) (v1 : Int32) (v2 : Int32) (v3 : Int32) (v4 : Int32) : Prop := wu_Mo_isWorld y (fun (s_2 : St) (r_1 : Int32) => ((r_1 = 0 → wj_Mo_value_20 y Post a0 s_2) ∧ (¬ (r_1 = 0) → wu_Mo_isThread y (fun (s_4 : St) (r_3 : Int32) => ((r_3 = 0 → wj_Mo_value_20 y Post a0 s_4) ∧ (¬ (r_3 = 0) → ((0 ≤ v4 → xQ y a0 44 v1 (fun b_5 : Nat => xQ y b_5 62 v2 (fun b_7 : Nat => ((¬ (sV s_4 b_7 0) = (-2) → wj_Mo_value_60 y Post a0 s_4 v3 v4 b_5 b_7 ((sV s_4 b_7 22) - 1)) ∧ ((sV s_4 b_7 0) = (-2) → wj_Mo_value_60 y Post a0 s_4 v3 v4 b_5 b_7 (-1)))))) ∧ (¬ (0 ≤ v4) → wj_Mo_value_20 y Post a0 s_4))))) s_2 v2))) σ a0 v1
set_option maxHeartbeats 4000000 in
set_option maxRecDepth 100000 in
theorem cu_Mo_value (l : Launch) (D : va_G) (g : Nat → ClassId) (ad : Nat → Nat) (y : Ly) (Post : St → Int32 → Prop) (σ : St) (a0 : Nat) (v1 : Int32) (v2 : Int32) (v3 : Int32) (v4 : Int32) (sz : Nat) (h_a0 : cl a0 = 14) (h : wu_Mo_value y Post σ a0 v1 v2 v3 v4) : Met l y_Mo_value (mw y_Mo_value b_Mo_value 9 (some .int)) ru_Mo_value (PC g D [] [.ref (ad a0), .int v1, .int v2, .int v3, .int v4] sz (ws g ad y σ)) (va_Qi (fun (r : Int32) (u : St) => Post u r) (QW D (va_A (ws g ad y σ) sz) (fun u => ws g ad y u)) (va_A (ws g ad y σ) sz)) 0 0 (va_A (ws g ad y σ) sz) := by
  refine ofI (by decide +kernel) (Nat.le_of_ble_eq_true rfl) ?_
  intro p e s m args below meth c A Q ls H locs G hsz hP hD hS hl hret
  subst hsz
  have hl : lv_has ls 9 [(0, .ref (ad a0)), (1, .int v1), (2, .int v2), (3, .int v3), (4, .int v4)] := hl
  unfold wu_Mo_value at h
  refine lv_aload_n G.1 G.2.1 d_Mo_value_0 rfl (lv_at hl 0 rfl) ?_
  refine lv_iload_n G.1 G.2.1 d_Mo_value_1 rfl (lv_at hl 1 rfl) ?_
  refine ucVi (As := [.int v1]) (rest := []) G hP hD hS (cu_Mo_isWorld l D g ad y _ σ a0 v1 H.size h_a0 h) w9_Mo_isWorld q3482 ⟨Nat.le_of_ble_eq_true rfl, Nat.le_of_ble_eq_true rfl⟩ rfl rfl h_a0 (q := (RMo, TMo, 131)) rfl rfl hl.1 rfl (Nat.le_of_ble_eq_true rfl) rfl ⟨Nat.le_refl _, Nat.le_refl _⟩ d_Mo_value_2 (fun r_1 s_2 H locs h hP hD hS => ?_)
  have J_20 : ∀ (s_j20 : St) (H : Heap) (locs : List Loc), wj_Mo_value_20 y Post a0 s_j20 → va_P D CL (ws g ad y s_j20) H → va_D A (ws g ad y s_j20) → va_S A s.heap H locs → ∀ ls, lv_has ls 9 [] → W p l e ru_Mo_value s m args below meth c H locs 0 0 Q (F0 m 20 ls []) := by
    intro s_j20 H locs h hP hD hS ls hl
    unfold wj_Mo_value_20 at h
    refine lv_iconst (v := (-1)) G.1 G.2.1 d_Mo_value_20 (by decide) ?_
    exact hret _ _ _ _ _ _ _ ls h hP hD hS (Nat.le_refl _) (Nat.le_refl _) d_Mo_value_21
  refine lv_if_eq (tgt := 20) G.1 G.2.1 d_Mo_value_5 (by decide) (fun c5 => ?_) (fun c5 => ?_)
  · skip
    have h := h.1 c5
    exact J_20 s_2 H locs h hP hD hS ls (lv_sub hl [] rfl)
  · skip
    have h := h.2 c5
    refine lv_iload_n G.1 G.2.1 d_Mo_value_8 rfl (lv_at hl 2 rfl) ?_
    refine ucSi (As := [.int v2]) (rest := []) G hP hD hS (cu_Mo_isThread l D g ad y _ s_2 v2 H.size  h) w9_Mo_isThread q3795 ⟨Nat.le_of_ble_eq_true rfl, Nat.le_of_ble_eq_true rfl⟩ rfl rfl hl.1 rfl (Nat.le_of_ble_eq_true rfl) rfl ⟨Nat.le_refl _, Nat.le_refl _⟩ d_Mo_value_9 (fun r_3 s_4 H locs h hP hD hS => ?_)
    refine lv_if_eq (tgt := 20) G.1 G.2.1 d_Mo_value_12 (by decide) (fun c12 => ?_) (fun c12 => ?_)
    · skip
      have h := h.1 c12
      exact J_20 s_4 H locs h hP hD hS ls (lv_sub hl [] rfl)
    · skip
      have h := h.2 c12
      refine lv_iload G.1 G.2.1 d_Mo_value_15 (lv_at hl 4 rfl) ?_
      refine lv_if_ge (tgt := 22) G.1 G.2.1 d_Mo_value_17 (by decide) (fun c17 => ?_) (fun c17 => ?_)
      · skip
        have h := h.1 c17
        refine lv_aload_n G.1 G.2.1 d_Mo_value_22 rfl (lv_at hl 0 rfl) ?_
        refine ugf (v := .ref (yP y a0 44)) G hP h_a0 iMo rfl 44 (by decide) rfl q3108 rfl rfl d_Mo_value_23 ?_
        refine W.eq (g2 := F0 m 26 ls [.ref (yP y a0 44)]) rfl ?_
        refine lv_iload_n G.1 G.2.1 d_Mo_value_26 rfl (lv_at hl 1 rfl) ?_
        refine uqald G hP (kdp h_a0 rfl) (typ h_a0 rfl) rfl h d_Mo_value_27 (fun b_5 n_6 h => ?_)
        refine lv_astore (lv' := [(5, .ref (ad b_5)), (0, .ref (ad a0)), (1, .int v1), (2, .int v2), (3, .int v3), (4, .int v4)]) G.1 G.2.1 d_Mo_value_28 hl (by decide) rfl (fun ls hl => ?_)
        refine lv_aload G.1 G.2.1 d_Mo_value_30 (lv_at hl 0 rfl) ?_
        refine ugfN (v := .ref (yP y b_5 62)) G hP (oa_14 h_a0 n_6) iMw rfl 62 (by decide) rfl q2820 rfl rfl d_Mo_value_32 ?_
        refine lv_iload_n G.1 G.2.1 d_Mo_value_35 rfl (lv_at hl 3 rfl) ?_
        refine uqald G hP (kdp (oa_14 h_a0 n_6) rfl) (typ (oa_14 h_a0 n_6) rfl) rfl h d_Mo_value_36 (fun b_7 n_8 h => ?_)
        refine lv_astore (lv' := [(6, .ref (ad b_7)), (5, .ref (ad b_5)), (0, .ref (ad a0)), (1, .int v1), (2, .int v2), (3, .int v3), (4, .int v4)]) G.1 G.2.1 d_Mo_value_37 hl (by decide) rfl (fun ls hl => ?_)
        refine lv_aload G.1 G.2.1 d_Mo_value_39 (lv_at hl 0 rfl) ?_
        refine ugfN (v := .int (sV s_4 b_7 0)) G hP (oa_13 (oa_14 h_a0 n_6) n_8) iMr rfl 0 (by decide) rfl q2987 rfl rfl d_Mo_value_41 ?_
        refine lv_bipush (v := (-2)) G.1 G.2.1 d_Mo_value_44 (by decide) ?_
        have J_60 : ∀ (s_j60 : St) (x3j60 : Int32) (x4j60 : Int32) (x5j60 : Nat) (x6j60 : Nat) (z0j60 : Int32) (H : Heap) (locs : List Loc), wj_Mo_value_60 y Post a0 s_j60 x3j60 x4j60 x5j60 x6j60 z0j60 → va_P D CL (ws g ad y s_j60) H → va_D A (ws g ad y s_j60) → va_S A s.heap H locs → ∀ ls, lv_has ls 9 [(3, .int x3j60), (4, .int x4j60), (5, .ref (ad x5j60)), (6, .ref (ad x6j60))] → W p l e ru_Mo_value s m args below meth c H locs 0 0 Q (F0 m 60 ls [.int z0j60]) := by
          intro s_j60 x3j60 x4j60 x5j60 x6j60 z0j60 H locs h hP hD hS ls hl
          unfold wj_Mo_value_60 at h
          obtain ⟨c_x5j60, h⟩ := h
          obtain ⟨c_x6j60, h⟩ := h
          refine lv_istore (lv' := [(7, .int z0j60), (3, .int x3j60), (4, .int x4j60), (5, .ref (ad x5j60)), (6, .ref (ad x6j60))]) G.1 G.2.1 d_Mo_value_60 hl (by decide) rfl (fun ls hl => ?_)
          refine lv_iload G.1 G.2.1 d_Mo_value_62 (lv_at hl 0 rfl) ?_
          have J_101 : ∀ (s_j101 : St) (H : Heap) (locs : List Loc), wj_Mo_value_101 y Post a0 s_j101 → va_P D CL (ws g ad y s_j101) H → va_D A (ws g ad y s_j101) → va_S A s.heap H locs → ∀ ls, lv_has ls 9 [] → W p l e ru_Mo_value s m args below meth c H locs 0 0 Q (F0 m 101 ls []) := by
            intro s_j101 H locs h hP hD hS ls hl
            unfold wj_Mo_value_101 at h
            refine lv_iconst (v := (-1)) G.1 G.2.1 d_Mo_value_101 (by decide) ?_
            exact hret _ _ _ _ _ _ _ ls h hP hD hS (Nat.le_refl _) (Nat.le_refl _) d_Mo_value_102
          refine lv_if_lt (tgt := 101) G.1 G.2.1 d_Mo_value_64 (by decide) (fun c64 => ?_) (fun c64 => ?_)
          · skip
            have h := h.1 c64
            exact J_101 s_j60 H locs h hP hD hS ls (lv_sub hl [] rfl)
          · skip
            have h := h.2 c64
            refine lv_iload G.1 G.2.1 d_Mo_value_67 (lv_at hl 2 rfl) ?_
            refine lv_iload_n G.1 G.2.1 d_Mo_value_69 rfl (lv_at hl 1 rfl) ?_
            have J_98 : ∀ (s_j98 : St) (x3j98 : Int32) (x4j98 : Int32) (x6j98 : Nat) (x7j98 : Int32) (z0j98 : Int32) (z1j98 : Int32) (H : Heap) (locs : List Loc), wj_Mo_value_98 y Post a0 s_j98 x3j98 x4j98 x6j98 x7j98 z0j98 z1j98 → va_P D CL (ws g ad y s_j98) H → va_D A (ws g ad y s_j98) → va_S A s.heap H locs → ∀ ls, lv_has ls 9 [(3, .int x3j98), (4, .int x4j98), (6, .ref (ad x6j98)), (7, .int x7j98)] → W p l e ru_Mo_value s m args below meth c H locs 0 0 Q (F0 m 98 ls [.int z1j98, .int z0j98]) := by
              intro s_j98 x3j98 x4j98 x6j98 x7j98 z0j98 z1j98 H locs h hP hD hS ls hl
              unfold wj_Mo_value_98 at h
              obtain ⟨c_x6j98, h⟩ := h
              refine lv_icmp_lt (tgt := 103) G.1 G.2.1 d_Mo_value_98 (by decide) (fun c98 => ?_) (fun c98 => ?_)
              · skip
                have h := h.1 c98
                refine lv_bipush (v := 44) G.1 G.2.1 d_Mo_value_103 (by decide) ?_
                refine lv_iload G.1 G.2.1 d_Mo_value_105 (lv_at hl 3 rfl) ?_
                refine lv_imul G.1 G.2.1 d_Mo_value_107 ?_
                refine lv_iload_n G.1 G.2.1 d_Mo_value_108 rfl (lv_at hl 0 rfl) ?_
                have J_133 : ∀ (s_j133 : St) (x6j133 : Nat) (z0j133 : Int32) (z1j133 : Int32) (H : Heap) (locs : List Loc), wj_Mo_value_133 y Post a0 s_j133 x6j133 z0j133 z1j133 → va_P D CL (ws g ad y s_j133) H → va_D A (ws g ad y s_j133) → va_S A s.heap H locs → ∀ ls, lv_has ls 9 [(6, .ref (ad x6j133))] → W p l e ru_Mo_value s m args below meth c H locs 0 0 Q (F0 m 133 ls [.int z1j133, .int z0j133]) := by
                  intro s_j133 x6j133 z0j133 z1j133 H locs h hP hD hS ls hl
                  unfold wj_Mo_value_133 at h
                  obtain ⟨c_x6j133, h⟩ := h
                  refine lv_iadd G.1 G.2.1 d_Mo_value_133 ?_
                  refine lv_istore (lv' := [(8, .int (z0j133 + z1j133)), (6, .ref (ad x6j133))]) G.1 G.2.1 d_Mo_value_134 hl (by decide) rfl (fun ls hl => ?_)
                  refine lv_aload G.1 G.2.1 d_Mo_value_136 (lv_at hl 1 rfl) ?_
                  refine ugfN (v := .ref (yP y x6j133 20)) G hP c_x6j133 iMr rfl 20 (by decide) rfl q3013 rfl rfl d_Mo_value_138 ?_
                  refine lv_iload G.1 G.2.1 d_Mo_value_141 (lv_at hl 0 rfl) ?_
                  refine uiald G hP (kdp c_x6j133 rfl) (typ c_x6j133 rfl) h d_Mo_value_143 (fun x_9 h => ?_)
                  refine lv_aload G.1 G.2.1 d_Mo_value_144 (lv_at hl 1 rfl) ?_
                  refine ugfN (v := .ref (yP y x6j133 21)) G hP c_x6j133 iMr rfl 21 (by decide) rfl q3015 rfl rfl d_Mo_value_146 ?_
                  refine lv_iload G.1 G.2.1 d_Mo_value_149 (lv_at hl 0 rfl) ?_
                  refine uzald G hP (kdp c_x6j133 rfl) (typ c_x6j133 rfl) h d_Mo_value_151 (fun x_10 h => ?_)
                  refine ucSi (As := [.int x_9, .int x_10]) (rest := []) G hP hD hS (cu_Mo_shown l D g ad y _ s_j133 x_9 x_10 H.size  h) w9_Mo_shown q4027 ⟨Nat.le_of_ble_eq_true rfl, Nat.le_of_ble_eq_true rfl⟩ rfl rfl hl.1 rfl (Nat.le_of_ble_eq_true rfl) rfl ⟨Nat.le_refl _, Nat.le_refl _⟩ d_Mo_value_152 (fun r_11 s_12 H locs h hP hD hS => ?_)
                  refine W.eq (g2 := F0 m 155 ls [.int r_11]) rfl ?_
                  exact hret _ _ _ _ _ _ _ ls h hP hD hS (Nat.le_refl _) (Nat.le_refl _) d_Mo_value_155
                refine lv_if_eq (tgt := 131) G.1 G.2.1 d_Mo_value_109 (by decide) (fun c109 => ?_) (fun c109 => ?_)
                · skip
                  have h := h.1 c109
                  refine lv_iload G.1 G.2.1 d_Mo_value_131 (lv_at hl 1 rfl) ?_
                  exact J_133 s_j98 x6j98 (44 * x7j98) x4j98 H locs h hP hD hS ls (lv_sub hl [2] rfl)
                · skip
                  have h := h.2 c109
                  refine lv_bipush (v := 20) G.1 G.2.1 d_Mo_value_112 (by decide) ?_
                  refine lv_aload G.1 G.2.1 d_Mo_value_114 (lv_at hl 2 rfl) ?_
                  refine ugfN (v := .ref (yP y x6j98 19)) G hP c_x6j98 iMr rfl 19 (by decide) rfl q3011 rfl rfl d_Mo_value_116 ?_
                  refine lv_iload G.1 G.2.1 d_Mo_value_119 (lv_at hl 3 rfl) ?_
                  refine uiald G hP (kdp c_x6j98 rfl) (typ c_x6j98 rfl) h d_Mo_value_121 (fun x_13 h => ?_)
                  refine W.eq (g2 := F0 m 122 ls [.int x_13, .int 20, .int (44 * x7j98)]) rfl ?_
                  refine lv_iadd G.1 G.2.1 d_Mo_value_122 ?_
                  refine lv_iconst (v := 1) G.1 G.2.1 d_Mo_value_123 (by decide) ?_
                  refine lv_isub G.1 G.2.1 d_Mo_value_124 ?_
                  refine lv_iload G.1 G.2.1 d_Mo_value_125 (lv_at hl 1 rfl) ?_
                  refine lv_isub G.1 G.2.1 d_Mo_value_127 ?_
                  refine lv_goto (tgt := 133) G.1 G.2.1 d_Mo_value_128 (by decide) ?_
                  exact J_133 s_j98 x6j98 (44 * x7j98) (((20 + x_13) - 1) - x4j98) H locs h hP hD hS ls (lv_sub hl [2] rfl)
              · skip
                have h := h.2 c98
                exact J_101 s_j98 H locs h hP hD hS ls (lv_sub hl [] rfl)
            refine lv_if_eq (tgt := 84) G.1 G.2.1 d_Mo_value_70 (by decide) (fun c70 => ?_) (fun c70 => ?_)
            · skip
              have h := h.1 c70
              refine lv_aload G.1 G.2.1 d_Mo_value_84 (lv_at hl 3 rfl) ?_
              refine ugfN (v := .ref (yP y x5j60 22)) G hP c_x5j60 iMw rfl 22 (by decide) rfl q2748 rfl rfl d_Mo_value_86 ?_
              refine lv_aload G.1 G.2.1 d_Mo_value_89 (lv_at hl 4 rfl) ?_
              refine ugfN (v := .ref (yP y x6j60 17)) G hP c_x6j60 iMr rfl 17 (by decide) rfl q3007 rfl rfl d_Mo_value_91 ?_
              refine lv_iload G.1 G.2.1 d_Mo_value_94 (lv_at hl 0 rfl) ?_
              refine W.eq (g2 := F0 m 96 ls [.int z0j60, .ref (yP y x6j60 17), .ref (yP y x5j60 22), .int x4j60]) rfl ?_
              refine uiald G hP (kdp c_x6j60 rfl) (typ c_x6j60 rfl) h d_Mo_value_96 (fun x_14 h => ?_)
              refine uiald G hP (kdp c_x5j60 rfl) (typ c_x5j60 rfl) h d_Mo_value_97 (fun x_15 h => ?_)
              exact J_98 s_j60 x3j60 x4j60 x6j60 z0j60 x4j60 x_15 H locs h hP hD hS ls (lv_sub hl [1, 2, 4, 0] rfl)
            · skip
              have h := h.2 c70
              refine lv_aload G.1 G.2.1 d_Mo_value_73 (lv_at hl 4 rfl) ?_
              refine ugfN (v := .ref (yP y x6j60 19)) G hP c_x6j60 iMr rfl 19 (by decide) rfl q3011 rfl rfl d_Mo_value_75 ?_
              refine lv_iload G.1 G.2.1 d_Mo_value_78 (lv_at hl 0 rfl) ?_
              refine uiald G hP (kdp c_x6j60 rfl) (typ c_x6j60 rfl) h d_Mo_value_80 (fun x_16 h => ?_)
              refine lv_goto (tgt := 98) G.1 G.2.1 d_Mo_value_81 (by decide) ?_
              exact J_98 s_j60 x3j60 x4j60 x6j60 z0j60 x4j60 x_16 H locs h hP hD hS ls (lv_sub hl [1, 2, 4, 0] rfl)
        refine lv_icmp_ne (tgt := 53) G.1 G.2.1 d_Mo_value_46 (by decide) (fun c46 => ?_) (fun c46 => ?_)
        · skip
          have h := h.1 c46
          refine W.eq (g2 := F0 m 53 ls []) rfl ?_
          refine lv_aload G.1 G.2.1 d_Mo_value_53 (lv_at hl 0 rfl) ?_
          refine ugfN (v := .int (sV s_4 b_7 22)) G hP (oa_13 (oa_14 h_a0 n_6) n_8) iMr rfl 22 (by decide) rfl q3016 rfl rfl d_Mo_value_55 ?_
          refine lv_iconst (v := 1) G.1 G.2.1 d_Mo_value_58 (by decide) ?_
          refine lv_isub G.1 G.2.1 d_Mo_value_59 ?_
          exact J_60 s_4 v3 v4 b_5 b_7 ((sV s_4 b_7 22) - 1) H locs h hP hD hS ls (lv_sub hl [5, 6, 1, 0] rfl)
        · skip
          have h := h.2 c46
          refine W.eq (g2 := F0 m 49 ls []) rfl ?_
          refine lv_iconst (v := (-1)) G.1 G.2.1 d_Mo_value_49 (by decide) ?_
          refine lv_goto (tgt := 60) G.1 G.2.1 d_Mo_value_50 (by decide) ?_
          exact J_60 s_4 v3 v4 b_5 b_7 (-1) H locs h hP hD hS ls (lv_sub hl [5, 6, 1, 0] rfl)
      · skip
        have h := h.2 c17
        exact J_20 s_4 H locs h hP hD hS ls (lv_sub hl [] rfl)
