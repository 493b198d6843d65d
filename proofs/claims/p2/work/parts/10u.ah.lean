def y_Hp_ruleOf : MethodName := ⟨"ClassWorks$Heap", "ruleOf", "(I)I"⟩
abbrev b_Hp_ruleOf : ByteArray := prog_4_method_7_code
theorem d_Hp_ruleOf_0 : decode b_Hp_ruleOf 0 = .ok (.iload_n 1, 1) := by decide +kernel
theorem d_Hp_ruleOf_1 : decode b_Hp_ruleOf 1 = .ok (.sipush 1000, 3) := by decide +kernel
theorem d_Hp_ruleOf_4 : decode b_Hp_ruleOf 4 = .ok (.isub, 1) := by decide +kernel
theorem d_Hp_ruleOf_5 : decode b_Hp_ruleOf 5 = .ok (.iconst 1, 1) := by decide +kernel
theorem d_Hp_ruleOf_6 : decode b_Hp_ruleOf 6 = .ok (.isub, 1) := by decide +kernel
theorem d_Hp_ruleOf_7 : decode b_Hp_ruleOf 7 = .ok (.istore_n 2, 1) := by decide +kernel
theorem d_Hp_ruleOf_8 : decode b_Hp_ruleOf 8 = .ok (.iload_n 2, 1) := by decide +kernel
theorem d_Hp_ruleOf_9 : decode b_Hp_ruleOf 9 = .ok (.ifCond .lt 29, 3) := by decide +kernel
theorem d_Hp_ruleOf_12 : decode b_Hp_ruleOf 12 = .ok (.iload_n 2, 1) := by decide +kernel
theorem d_Hp_ruleOf_13 : decode b_Hp_ruleOf 13 = .ok (.aload_n 0, 1) := by decide +kernel
theorem d_Hp_ruleOf_14 : decode b_Hp_ruleOf 14 = .ok (.getfield 48, 3) := by decide +kernel
theorem d_Hp_ruleOf_17 : decode b_Hp_ruleOf 17 = .ok (.getfield 71, 3) := by decide +kernel
theorem d_Hp_ruleOf_20 : decode b_Hp_ruleOf 20 = .ok (.if_icmp .ge 18, 3) := by decide +kernel
theorem d_Hp_ruleOf_23 : decode b_Hp_ruleOf 23 = .ok (.aload_n 0, 1) := by decide +kernel
theorem d_Hp_ruleOf_24 : decode b_Hp_ruleOf 24 = .ok (.getfield 48, 3) := by decide +kernel
theorem d_Hp_ruleOf_27 : decode b_Hp_ruleOf 27 = .ok (.getfield 84, 3) := by decide +kernel
theorem d_Hp_ruleOf_30 : decode b_Hp_ruleOf 30 = .ok (.iload_n 2, 1) := by decide +kernel
theorem d_Hp_ruleOf_31 : decode b_Hp_ruleOf 31 = .ok (.iaload, 1) := by decide +kernel
theorem d_Hp_ruleOf_32 : decode b_Hp_ruleOf 32 = .ok (.bipush 100, 2) := by decide +kernel
theorem d_Hp_ruleOf_34 : decode b_Hp_ruleOf 34 = .ok (.idiv, 1) := by decide +kernel
theorem d_Hp_ruleOf_35 : decode b_Hp_ruleOf 35 = .ok (.goto 4, 3) := by decide +kernel
theorem d_Hp_ruleOf_38 : decode b_Hp_ruleOf 38 = .ok (.iconst 0, 1) := by decide +kernel
theorem d_Hp_ruleOf_39 : decode b_Hp_ruleOf 39 = .ok (.ireturn, 1) := by decide +kernel
abbrev ru_Hp_ruleOf : Room := { frames := 0, cells := 0, slots := 0, locals := 0 }
def wj_Hp_ruleOf_39 (y : Ly) (Post : St → Int32 → Prop) (a0 : Nat) (s_j39 : St) (z0j39 : Int32) : Prop := Post s_j39 z0j39
def wj_Hp_ruleOf_38 (y : Ly) (Post : St → Int32 → Prop) (a0 : Nat) (s_j38 : St) : Prop := wj_Hp_ruleOf_39 y Post a0 s_j38 0
def wu_Hp_ruleOf (y : Ly) (Post : St → Int32 → Prop) (σ : St) (a0 : Nat) (v1 : Int32) : Prop := ((((v1 - 1000) - 1) < 0 → wj_Hp_ruleOf_38 y Post a0 σ) ∧ (¬ (((v1 - 1000) - 1) < 0) → (((sV σ (lk a0 10) 1) ≤ ((v1 - 1000) - 1) → wj_Hp_ruleOf_38 y Post a0 σ) ∧ (¬ ((sV σ (lk a0 10) 1) ≤ ((v1 - 1000) - 1)) → xA y σ (lk a0 10) 0 ((v1 - 1000) - 1) (fun x_1 : Int32 => wj_Hp_ruleOf_39 y Post a0 σ (x_1 / 100))))))
set_option maxHeartbeats 4000000 in
set_option maxRecDepth 100000 in
theorem cu_Hp_ruleOf (l : Launch) (D : va_G) (g : Nat → ClassId) (ad : Nat → Nat) (y : Ly) (Post : St → Int32 → Prop) (σ : St) (a0 : Nat) (v1 : Int32) (sz : Nat) (h_a0 : cl a0 = 2) (h : wu_Hp_ruleOf y Post σ a0 v1) : Met l y_Hp_ruleOf (mw y_Hp_ruleOf b_Hp_ruleOf 3 (some .int)) ru_Hp_ruleOf (PC g D [] [.ref (ad a0), .int v1] sz (ws g ad y σ)) (va_Qi (fun (r : Int32) (u : St) => Post u r) (QW D (va_A (ws g ad y σ) sz) (fun u => ws g ad y u)) (va_A (ws g ad y σ) sz)) 0 0 (va_A (ws g ad y σ) sz) := by
  refine ofI (by decide +kernel) (Nat.le_of_ble_eq_true rfl) ?_
  intro p e s m args below meth c A Q ls H locs G hsz hP hD hS hl hret
  subst hsz
  have hl : lv_has ls 3 [(0, .ref (ad a0)), (1, .int v1)] := hl
  unfold wu_Hp_ruleOf at h
  refine lv_iload_n G.1 G.2.1 d_Hp_ruleOf_0 rfl (lv_at hl 1 rfl) ?_
  refine lv_sipush (v := 1000) G.1 G.2.1 d_Hp_ruleOf_1 (by decide) ?_
  refine lv_isub G.1 G.2.1 d_Hp_ruleOf_4 ?_
  refine lv_iconst (v := 1) G.1 G.2.1 d_Hp_ruleOf_5 (by decide) ?_
  refine lv_isub G.1 G.2.1 d_Hp_ruleOf_6 ?_
  refine lv_istore_n (lv' := [(2, .int ((v1 - 1000) - 1)), (0, .ref (ad a0)), (1, .int v1)]) G.1 G.2.1 d_Hp_ruleOf_7 rfl hl (by decide) rfl (fun ls hl => ?_)
  refine lv_iload_n G.1 G.2.1 d_Hp_ruleOf_8 rfl (lv_at hl 0 rfl) ?_
  have J_39 : ∀ (s_j39 : St) (z0j39 : Int32) (H : Heap) (locs : List Loc), wj_Hp_ruleOf_39 y Post a0 s_j39 z0j39 → va_P D CL (ws g ad y s_j39) H → va_D A (ws g ad y s_j39) → va_S A s.heap H locs → ∀ ls, lv_has ls 3 [] → W p l e ru_Hp_ruleOf s m args below meth c H locs 0 0 Q (F0 m 39 ls [.int z0j39]) := by
    intro s_j39 z0j39 H locs h hP hD hS ls hl
    unfold wj_Hp_ruleOf_39 at h
    exact hret _ _ _ _ _ _ _ ls h hP hD hS (Nat.le_refl _) (Nat.le_refl _) d_Hp_ruleOf_39
  have J_38 : ∀ (s_j38 : St) (H : Heap) (locs : List Loc), wj_Hp_ruleOf_38 y Post a0 s_j38 → va_P D CL (ws g ad y s_j38) H → va_D A (ws g ad y s_j38) → va_S A s.heap H locs → ∀ ls, lv_has ls 3 [] → W p l e ru_Hp_ruleOf s m args below meth c H locs 0 0 Q (F0 m 38 ls []) := by
    intro s_j38 H locs h hP hD hS ls hl
    unfold wj_Hp_ruleOf_38 at h
    refine lv_iconst (v := 0) G.1 G.2.1 d_Hp_ruleOf_38 (by decide) ?_
    exact J_39 s_j38 0 H locs h hP hD hS ls (lv_sub hl [] rfl)
  refine lv_if_lt (tgt := 38) G.1 G.2.1 d_Hp_ruleOf_9 (by decide) (fun c9 => ?_) (fun c9 => ?_)
  · skip
    have h := h.1 c9
    exact J_38 σ H locs h hP hD hS ls (lv_sub hl [] rfl)
  · skip
    have h := h.2 c9
    refine lv_iload_n G.1 G.2.1 d_Hp_ruleOf_12 rfl (lv_at hl 0 rfl) ?_
    refine lv_aload_n G.1 G.2.1 d_Hp_ruleOf_13 rfl (lv_at hl 1 rfl) ?_
    refine ugf (v := .ref (ad (lk a0 10))) G hP h_a0 iHp rfl 10 (by decide) rfl q931 rfl rfl d_Hp_ruleOf_14 ?_
    refine W.eq (g2 := F0 m 17 ls [.ref (ad (lk a0 10)), .int ((v1 - 1000) - 1)]) rfl ?_
    refine ugf (v := .int (sV σ (lk a0 10) 1)) G hP (lk_2_10 h_a0) iIn rfl 1 (by decide) rfl q392 rfl rfl d_Hp_ruleOf_17 ?_
    refine lv_icmp_ge (tgt := 38) G.1 G.2.1 d_Hp_ruleOf_20 (by decide) (fun c20 => ?_) (fun c20 => ?_)
    · skip
      have h := h.1 c20
      exact J_38 σ H locs h hP hD hS ls (lv_sub hl [] rfl)
    · skip
      have h := h.2 c20
      refine lv_aload_n G.1 G.2.1 d_Hp_ruleOf_23 rfl (lv_at hl 1 rfl) ?_
      refine ugf (v := .ref (ad (lk a0 10))) G hP h_a0 iHp rfl 10 (by decide) rfl q931 rfl rfl d_Hp_ruleOf_24 ?_
      refine ugf (v := .ref (yP y (lk a0 10) 0)) G hP (lk_2_10 h_a0) iIn rfl 0 (by decide) rfl q382 rfl rfl d_Hp_ruleOf_27 ?_
      refine lv_iload_n G.1 G.2.1 d_Hp_ruleOf_30 rfl (lv_at hl 0 rfl) ?_
      refine uiald G hP (kdp (lk_2_10 h_a0) rfl) (typ (lk_2_10 h_a0) rfl) h d_Hp_ruleOf_31 (fun x_1 h => ?_)
      refine lv_bipush (v := 100) G.1 G.2.1 d_Hp_ruleOf_32 (by decide) ?_
      refine lv_idiv G.1 G.2.1 d_Hp_ruleOf_34 (by decide) ?_
      refine lv_goto (tgt := 39) G.1 G.2.1 d_Hp_ruleOf_35 (by decide) ?_
      exact J_39 σ (x_1 / 100) H locs h hP hD hS ls (lv_sub hl [] rfl)
theorem q2065 : Cond.methodLink "ClassWorks$Machine" 324 y_Hp_ruleOf ∈ lw_ok := lw_okmem (List.mem_of_getElem? (i := 2065) (by decide +kernel)) rfl
theorem q2068 : Cond.code y_Hp_ruleOf b_Hp_ruleOf 3 (some .int) ∈ lw_ok := lw_okmem (List.mem_of_getElem? (i := 2068) (by decide +kernel)) rfl
theorem q2066 : Cond.instanceMethod y_Hp_ruleOf ∈ lw_ok := lw_okmem (List.mem_of_getElem? (i := 2066) (by decide +kernel)) rfl
theorem q2067 : Cond.selects y_Hp_ruleOf.cls y_Hp_ruleOf y_Hp_ruleOf ∈ lw_ok := lw_okmem (List.mem_of_getElem? (i := 2067) (by decide +kernel)) rfl
theorem w9_Hp_ruleOf : CWv y_Hp_ruleOf b_Hp_ruleOf 3 (some .int) 1 ∧ Cond.instanceMethod y_Hp_ruleOf ∈ lw_ok ∧ Cond.selects y_Hp_ruleOf.cls y_Hp_ruleOf y_Hp_ruleOf ∈ lw_ok := ⟨⟨q2068, q346, by decide +kernel, by decide +kernel, by decide +kernel⟩, q2066, q2067⟩
def y_Ma_lose : MethodName := ⟨"ClassWorks$Machine", "lose", "(LClassWorks$Runner;I)V"⟩
abbrev b_Ma_lose : ByteArray := prog_6_method_24_code
theorem q1003 : Cond.fieldLink "ClassWorks$Machine" 327 "ClassWorks$Runner" "endRule" "I" ∈ lw_ok := lw_okmem (List.mem_of_getElem? (i := 1003) (by decide +kernel)) rfl
theorem d_Ma_lose_0 : decode b_Ma_lose 0 = .ok (.aload_n 1, 1) := by decide +kernel
theorem d_Ma_lose_1 : decode b_Ma_lose 1 = .ok (.iconst 3, 1) := by decide +kernel
theorem d_Ma_lose_2 : decode b_Ma_lose 2 = .ok (.putfield 105, 3) := by decide +kernel
theorem d_Ma_lose_5 : decode b_Ma_lose 5 = .ok (.aload_n 1, 1) := by decide +kernel
theorem d_Ma_lose_6 : decode b_Ma_lose 6 = .ok (.aload_n 0, 1) := by decide +kernel
theorem d_Ma_lose_7 : decode b_Ma_lose 7 = .ok (.getfield 12, 3) := by decide +kernel
theorem d_Ma_lose_10 : decode b_Ma_lose 10 = .ok (.iload_n 2, 1) := by decide +kernel
theorem d_Ma_lose_11 : decode b_Ma_lose 11 = .ok (.invokevirtual 319, 3) := by decide +kernel
theorem d_Ma_lose_14 : decode b_Ma_lose 14 = .ok (.putfield 321, 3) := by decide +kernel
theorem d_Ma_lose_17 : decode b_Ma_lose 17 = .ok (.aload_n 1, 1) := by decide +kernel
theorem d_Ma_lose_18 : decode b_Ma_lose 18 = .ok (.aload_n 0, 1) := by decide +kernel
theorem d_Ma_lose_19 : decode b_Ma_lose 19 = .ok (.getfield 12, 3) := by decide +kernel
theorem d_Ma_lose_22 : decode b_Ma_lose 22 = .ok (.iload_n 2, 1) := by decide +kernel
theorem d_Ma_lose_23 : decode b_Ma_lose 23 = .ok (.invokevirtual 324, 3) := by decide +kernel
theorem d_Ma_lose_26 : decode b_Ma_lose 26 = .ok (.putfield 327, 3) := by decide +kernel
theorem d_Ma_lose_29 : decode b_Ma_lose 29 = .ok (.return_, 1) := by decide +kernel
abbrev ru_Ma_lose : Room := { frames := 1, cells := 0, slots := 0, locals := 22 }
def wu_Ma_lose (y : Ly) (Post : St → Prop) (σ : St) (a0 : Nat) (a1 : Nat) (v2 : Int32) : Prop := xP (uV σ a1 3 3) (fun s_1 : St => wu_Hp_classOf y (fun (s_3 : St) (r_2 : Int32) => xP (uV s_3 a1 8 r_2) (fun s_4 : St => wu_Hp_ruleOf y (fun (s_6 : St) (r_5 : Int32) => xP (uV s_6 a1 9 r_5) (fun s_7 : St => Post s_7)) s_4 (lk a0 1) v2)) s_1 (lk a0 1) v2)
set_option maxHeartbeats 4000000 in
set_option maxRecDepth 100000 in
theorem cu_Ma_lose (l : Launch) (D : va_G) (g : Nat → ClassId) (ad : Nat → Nat) (y : Ly) (Post : St → Prop) (σ : St) (a0 : Nat) (a1 : Nat) (v2 : Int32) (sz : Nat) (h_a0 : cl a0 = 4) (h_a1 : cl a1 = 7) (h : wu_Ma_lose y Post σ a0 a1 v2) : Met l y_Ma_lose (mw y_Ma_lose b_Ma_lose 3 (none)) ru_Ma_lose (PC g D [] [.ref (ad a0), .ref (ad a1), .int v2] sz (ws g ad y σ)) (va_Qv (fun u : St => Post u) (QW D (va_A (ws g ad y σ) sz) (fun u => ws g ad y u)) (va_A (ws g ad y σ) sz)) 0 0 (va_A (ws g ad y σ) sz) := by
  refine ofV (by decide +kernel) (Nat.le_of_ble_eq_true rfl) ?_
  intro p e s m args below meth c A Q ls H locs G hsz hP hD hS hl hret
  subst hsz
  have hl : lv_has ls 3 [(0, .ref (ad a0)), (1, .ref (ad a1)), (2, .int v2)] := hl
  unfold wu_Ma_lose at h
  refine lv_aload_n G.1 G.2.1 d_Ma_lose_0 rfl (lv_at hl 1 rfl) ?_
  refine lv_iconst (v := 3) G.1 G.2.1 d_Ma_lose_1 (by decide) ?_
  refine upf G hP hD hS h 3 putV h_a1 iRu tRu tRu_ok nRu rfl (by decide) rfl q986 rfl rfl fV rfl rfl d_Ma_lose_2 (fun s_1 H locs h hP hD hS => ?_)
  refine lv_aload_n G.1 G.2.1 d_Ma_lose_5 rfl (lv_at hl 1 rfl) ?_
  refine lv_aload_n G.1 G.2.1 d_Ma_lose_6 rfl (lv_at hl 0 rfl) ?_
  refine ugf (v := .ref (ad (lk a0 1))) G hP h_a0 iMa rfl 1 (by decide) rfl q1067 rfl rfl d_Ma_lose_7 ?_
  refine lv_iload_n G.1 G.2.1 d_Ma_lose_10 rfl (lv_at hl 2 rfl) ?_
  refine ucVi (As := [.int v2]) (rest := [.ref (ad a1)]) G hP hD hS (cu_Hp_classOf l D g ad y _ s_1 (lk a0 1) v2 H.size (lk_4_1 h_a0) h) w9_Hp_classOf q1885 ⟨Nat.le_of_ble_eq_true rfl, Nat.le_of_ble_eq_true rfl⟩ rfl rfl (lk_4_1 h_a0) (q := (RHp, THp, 15)) rfl rfl hl.1 rfl (Nat.le_of_ble_eq_true rfl) rfl ⟨Nat.le_refl _, Nat.le_refl _⟩ d_Ma_lose_11 (fun r_2 s_3 H locs h hP hD hS => ?_)
  refine upf G hP hD hS h 8 putV h_a1 iRu tRu tRu_ok nRu rfl (by decide) rfl q1000 rfl rfl fV rfl rfl d_Ma_lose_14 (fun s_4 H locs h hP hD hS => ?_)
  refine lv_aload_n G.1 G.2.1 d_Ma_lose_17 rfl (lv_at hl 1 rfl) ?_
  refine lv_aload_n G.1 G.2.1 d_Ma_lose_18 rfl (lv_at hl 0 rfl) ?_
  refine W.eq (g2 := F0 m 19 ls [.ref (ad a0), .ref (ad a1)]) rfl ?_
  refine ugf (v := .ref (ad (lk a0 1))) G hP h_a0 iMa rfl 1 (by decide) rfl q1067 rfl rfl d_Ma_lose_19 ?_
  refine lv_iload_n G.1 G.2.1 d_Ma_lose_22 rfl (lv_at hl 2 rfl) ?_
  refine ucVi (As := [.int v2]) (rest := [.ref (ad a1)]) G hP hD hS (cu_Hp_ruleOf l D g ad y _ s_4 (lk a0 1) v2 H.size (lk_4_1 h_a0) h) w9_Hp_ruleOf q2065 ⟨Nat.le_of_ble_eq_true rfl, Nat.le_of_ble_eq_true rfl⟩ rfl rfl (lk_4_1 h_a0) (q := (RHp, THp, 15)) rfl rfl hl.1 rfl (Nat.le_of_ble_eq_true rfl) rfl ⟨Nat.le_refl _, Nat.le_refl _⟩ d_Ma_lose_23 (fun r_5 s_6 H locs h hP hD hS => ?_)
  refine upf G hP hD hS h 9 putV h_a1 iRu tRu tRu_ok nRu rfl (by decide) rfl q1003 rfl rfl fV rfl rfl d_Ma_lose_26 (fun s_7 H locs h hP hD hS => ?_)
  exact hret _ _ _ _ _ _ ls h hP hD hS (Nat.le_refl _) (Nat.le_refl _) d_Ma_lose_29
def y_Ru_addStart : MethodName := ⟨"ClassWorks$Runner", "addStart", "(I)V"⟩
abbrev b_Ru_addStart : ByteArray := prog_9_method_6_code
theorem q1023 : Cond.fieldLink "ClassWorks$Runner" 66 "ClassWorks$Runner" "startClass" "[I" ∈ lw_ok := lw_okmem (List.mem_of_getElem? (i := 1023) (by decide +kernel)) rfl
theorem d_Ru_addStart_0 : decode b_Ru_addStart 0 = .ok (.aload_n 0, 1) := by decide +kernel
theorem d_Ru_addStart_1 : decode b_Ru_addStart 1 = .ok (.getfield 63, 3) := by decide +kernel
theorem d_Ru_addStart_4 : decode b_Ru_addStart 4 = .ok (.bipush 51, 2) := by decide +kernel
theorem d_Ru_addStart_6 : decode b_Ru_addStart 6 = .ok (.if_icmp .ge 36, 3) := by decide +kernel
theorem d_Ru_addStart_9 : decode b_Ru_addStart 9 = .ok (.aload_n 0, 1) := by decide +kernel
theorem d_Ru_addStart_10 : decode b_Ru_addStart 10 = .ok (.getfield 66, 3) := by decide +kernel
theorem d_Ru_addStart_13 : decode b_Ru_addStart 13 = .ok (.aload_n 0, 1) := by decide +kernel
theorem d_Ru_addStart_14 : decode b_Ru_addStart 14 = .ok (.getfield 63, 3) := by decide +kernel
theorem d_Ru_addStart_17 : decode b_Ru_addStart 17 = .ok (.iload_n 1, 1) := by decide +kernel
theorem d_Ru_addStart_18 : decode b_Ru_addStart 18 = .ok (.iastore, 1) := by decide +kernel
theorem d_Ru_addStart_19 : decode b_Ru_addStart 19 = .ok (.aload_n 0, 1) := by decide +kernel
theorem d_Ru_addStart_20 : decode b_Ru_addStart 20 = .ok (.getfield 69, 3) := by decide +kernel
theorem d_Ru_addStart_23 : decode b_Ru_addStart 23 = .ok (.aload_n 0, 1) := by decide +kernel
theorem d_Ru_addStart_24 : decode b_Ru_addStart 24 = .ok (.getfield 63, 3) := by decide +kernel
theorem d_Ru_addStart_27 : decode b_Ru_addStart 27 = .ok (.aload_n 0, 1) := by decide +kernel
theorem d_Ru_addStart_28 : decode b_Ru_addStart 28 = .ok (.getfield 44, 3) := by decide +kernel
theorem d_Ru_addStart_31 : decode b_Ru_addStart 31 = .ok (.iastore, 1) := by decide +kernel
theorem d_Ru_addStart_32 : decode b_Ru_addStart 32 = .ok (.aload_n 0, 1) := by decide +kernel
theorem d_Ru_addStart_33 : decode b_Ru_addStart 33 = .ok (.dup, 1) := by decide +kernel
theorem d_Ru_addStart_34 : decode b_Ru_addStart 34 = .ok (.getfield 63, 3) := by decide +kernel
theorem d_Ru_addStart_37 : decode b_Ru_addStart 37 = .ok (.iconst 1, 1) := by decide +kernel
theorem d_Ru_addStart_38 : decode b_Ru_addStart 38 = .ok (.iadd, 1) := by decide +kernel
theorem d_Ru_addStart_39 : decode b_Ru_addStart 39 = .ok (.putfield 63, 3) := by decide +kernel
theorem d_Ru_addStart_42 : decode b_Ru_addStart 42 = .ok (.return_, 1) := by decide +kernel
abbrev ru_Ru_addStart : Room := { frames := 0, cells := 0, slots := 0, locals := 0 }
def wj_Ru_addStart_42 (y : Ly) (Post : St → Prop) (a0 : Nat) (s_j42 : St) : Prop := Post s_j42
def wu_Ru_addStart (y : Ly) (Post : St → Prop) (σ : St) (a0 : Nat) (v1 : Int32) : Prop := ((51 ≤ (sV σ a0 16) → wj_Ru_addStart_42 y Post a0 σ) ∧ (¬ (51 ≤ (sV σ a0 16)) → xS y σ a0 17 (sV σ a0 16) v1 (fun s_1 : St => xS y s_1 a0 18 (sV s_1 a0 16) (sV s_1 a0 10) (fun s_2 : St => xP (uV s_2 a0 16 ((sV s_2 a0 16) + 1)) (fun s_3 : St => wj_Ru_addStart_42 y Post a0 s_3)))))
set_option maxHeartbeats 4000000 in
set_option maxRecDepth 100000 in
theorem cu_Ru_addStart (l : Launch) (D : va_G) (g : Nat → ClassId) (ad : Nat → Nat) (y : Ly) (Post : St → Prop) (σ : St) (a0 : Nat) (v1 : Int32) (sz : Nat) (h_a0 : cl a0 = 7) (h : wu_Ru_addStart y Post σ a0 v1) : Met l y_Ru_addStart (mw y_Ru_addStart b_Ru_addStart 2 (none)) ru_Ru_addStart (PC g D [] [.ref (ad a0), .int v1] sz (ws g ad y σ)) (va_Qv (fun u : St => Post u) (QW D (va_A (ws g ad y σ) sz) (fun u => ws g ad y u)) (va_A (ws g ad y σ) sz)) 0 0 (va_A (ws g ad y σ) sz) := by
  refine ofV (by decide +kernel) (Nat.le_of_ble_eq_true rfl) ?_
  intro p e s m args below meth c A Q ls H locs G hsz hP hD hS hl hret
  subst hsz
  have hl : lv_has ls 2 [(0, .ref (ad a0)), (1, .int v1)] := hl
  unfold wu_Ru_addStart at h
  refine lv_aload_n G.1 G.2.1 d_Ru_addStart_0 rfl (lv_at hl 0 rfl) ?_
  refine ugf (v := .int (sV σ a0 16)) G hP h_a0 iRu rfl 16 (by decide) rfl q1021 rfl rfl d_Ru_addStart_1 ?_
  refine lv_bipush (v := 51) G.1 G.2.1 d_Ru_addStart_4 (by decide) ?_
  have J_42 : ∀ (s_j42 : St) (H : Heap) (locs : List Loc), wj_Ru_addStart_42 y Post a0 s_j42 → va_P D CL (ws g ad y s_j42) H → va_D A (ws g ad y s_j42) → va_S A s.heap H locs → ∀ ls, lv_has ls 2 [] → W p l e ru_Ru_addStart s m args below meth c H locs 0 0 Q (F0 m 42 ls []) := by
    intro s_j42 H locs h hP hD hS ls hl
    unfold wj_Ru_addStart_42 at h
    exact hret _ _ _ _ _ _ ls h hP hD hS (Nat.le_refl _) (Nat.le_refl _) d_Ru_addStart_42
  refine lv_icmp_ge (tgt := 42) G.1 G.2.1 d_Ru_addStart_6 (by decide) (fun c6 => ?_) (fun c6 => ?_)
  · skip
    have h := h.1 c6
    exact J_42 σ H locs h hP hD hS ls (lv_sub hl [] rfl)
  · skip
    have h := h.2 c6
    refine lv_aload_n G.1 G.2.1 d_Ru_addStart_9 rfl (lv_at hl 0 rfl) ?_
    refine ugf (v := .ref (yP y a0 17)) G hP h_a0 iRu rfl 17 (by decide) rfl q1023 rfl rfl d_Ru_addStart_10 ?_
    refine lv_aload_n G.1 G.2.1 d_Ru_addStart_13 rfl (lv_at hl 0 rfl) ?_
    refine ugf (v := .int (sV σ a0 16)) G hP h_a0 iRu rfl 16 (by decide) rfl q1021 rfl rfl d_Ru_addStart_14 ?_
    refine lv_iload_n G.1 G.2.1 d_Ru_addStart_17 rfl (lv_at hl 1 rfl) ?_
    refine uiast G hP hD hS (kdp h_a0 rfl) (typ h_a0 rfl) h d_Ru_addStart_18 (fun s_1 H locs h hP hD hS => ?_)
    refine lv_aload_n G.1 G.2.1 d_Ru_addStart_19 rfl (lv_at hl 0 rfl) ?_
    refine W.eq (g2 := F0 m 20 ls [.ref (ad a0)]) rfl ?_
    refine ugf (v := .ref (yP y a0 18)) G hP h_a0 iRu rfl 18 (by decide) rfl q1025 rfl rfl d_Ru_addStart_20 ?_
    refine lv_aload_n G.1 G.2.1 d_Ru_addStart_23 rfl (lv_at hl 0 rfl) ?_
    refine ugf (v := .int (sV s_1 a0 16)) G hP h_a0 iRu rfl 16 (by decide) rfl q1021 rfl rfl d_Ru_addStart_24 ?_
    refine lv_aload_n G.1 G.2.1 d_Ru_addStart_27 rfl (lv_at hl 0 rfl) ?_
    refine ugf (v := .int (sV s_1 a0 10)) G hP h_a0 iRu rfl 10 (by decide) rfl q1005 rfl rfl d_Ru_addStart_28 ?_
    refine uiast G hP hD hS (kdp h_a0 rfl) (typ h_a0 rfl) h d_Ru_addStart_31 (fun s_2 H locs h hP hD hS => ?_)
    refine lv_aload_n G.1 G.2.1 d_Ru_addStart_32 rfl (lv_at hl 0 rfl) ?_
    refine lv_dup G.1 G.2.1 d_Ru_addStart_33 rfl ?_
    refine ugf (v := .int (sV s_2 a0 16)) G hP h_a0 iRu rfl 16 (by decide) rfl q1021 rfl rfl d_Ru_addStart_34 ?_
    refine lv_iconst (v := 1) G.1 G.2.1 d_Ru_addStart_37 (by decide) ?_
    refine lv_iadd G.1 G.2.1 d_Ru_addStart_38 ?_
    refine upf G hP hD hS h 16 putV h_a0 iRu tRu tRu_ok nRu rfl (by decide) rfl q1021 rfl rfl fV rfl rfl d_Ru_addStart_39 (fun s_3 H locs h hP hD hS => ?_)
    exact J_42 s_3 H locs h hP hD hS ls (lv_sub hl [] rfl)
theorem q1077 : Cond.fieldLink "ClassWorks$Machine" 35 "ClassWorks$Machine" "startedList" "[I" ∈ lw_ok := lw_okmem (List.mem_of_getElem? (i := 1077) (by decide +kernel)) rfl
theorem q2077 : Cond.methodLink "ClassWorks$Machine" 286 y_Ru_addStart ∈ lw_ok := lw_okmem (List.mem_of_getElem? (i := 2077) (by decide +kernel)) rfl
theorem q2080 : Cond.code y_Ru_addStart b_Ru_addStart 2 (none) ∈ lw_ok := lw_okmem (List.mem_of_getElem? (i := 2080) (by decide +kernel)) rfl
theorem q2078 : Cond.instanceMethod y_Ru_addStart ∈ lw_ok := lw_okmem (List.mem_of_getElem? (i := 2078) (by decide +kernel)) rfl
theorem q2079 : Cond.selects y_Ru_addStart.cls y_Ru_addStart y_Ru_addStart ∈ lw_ok := lw_okmem (List.mem_of_getElem? (i := 2079) (by decide +kernel)) rfl
theorem w9_Ru_addStart : CWv y_Ru_addStart b_Ru_addStart 2 (none) 1 ∧ Cond.instanceMethod y_Ru_addStart ∈ lw_ok ∧ Cond.selects y_Ru_addStart.cls y_Ru_addStart y_Ru_addStart ∈ lw_ok := ⟨⟨q2080, q347, by decide +kernel, by decide +kernel, by decide +kernel⟩, q2078, q2079⟩
def y_Ma_beginStart : MethodName := ⟨"ClassWorks$Machine", "beginStart", "(LClassWorks$Runner;I)V"⟩
abbrev b_Ma_beginStart : ByteArray := prog_6_method_18_code
theorem d_Ma_beginStart_0 : decode b_Ma_beginStart 0 = .ok (.aload_n 0, 1) := by decide +kernel
theorem d_Ma_beginStart_1 : decode b_Ma_beginStart 1 = .ok (.getfield 69, 3) := by decide +kernel
theorem d_Ma_beginStart_4 : decode b_Ma_beginStart 4 = .ok (.aload_n 0, 1) := by decide +kernel
theorem d_Ma_beginStart_5 : decode b_Ma_beginStart 5 = .ok (.getfield 63, 3) := by decide +kernel
theorem d_Ma_beginStart_8 : decode b_Ma_beginStart 8 = .ok (.bipush 13, 2) := by decide +kernel
theorem d_Ma_beginStart_10 : decode b_Ma_beginStart 10 = .ok (.iconst 1, 1) := by decide +kernel
theorem d_Ma_beginStart_11 : decode b_Ma_beginStart 11 = .ok (.invokevirtual 122, 3) := by decide +kernel
theorem d_Ma_beginStart_14 : decode b_Ma_beginStart 14 = .ok (.aload_n 0, 1) := by decide +kernel
theorem d_Ma_beginStart_15 : decode b_Ma_beginStart 15 = .ok (.getfield 69, 3) := by decide +kernel
theorem d_Ma_beginStart_18 : decode b_Ma_beginStart 18 = .ok (.aload_n 0, 1) := by decide +kernel
theorem d_Ma_beginStart_19 : decode b_Ma_beginStart 19 = .ok (.getfield 63, 3) := by decide +kernel
theorem d_Ma_beginStart_22 : decode b_Ma_beginStart 22 = .ok (.bipush 14, 2) := by decide +kernel
theorem d_Ma_beginStart_24 : decode b_Ma_beginStart 24 = .ok (.iload_n 2, 1) := by decide +kernel
theorem d_Ma_beginStart_25 : decode b_Ma_beginStart 25 = .ok (.invokevirtual 122, 3) := by decide +kernel
theorem d_Ma_beginStart_28 : decode b_Ma_beginStart 28 = .ok (.aload_n 0, 1) := by decide +kernel
theorem d_Ma_beginStart_29 : decode b_Ma_beginStart 29 = .ok (.getfield 35, 3) := by decide +kernel
theorem d_Ma_beginStart_32 : decode b_Ma_beginStart 32 = .ok (.aload_n 0, 1) := by decide +kernel
theorem d_Ma_beginStart_33 : decode b_Ma_beginStart 33 = .ok (.getfield 38, 3) := by decide +kernel
theorem d_Ma_beginStart_36 : decode b_Ma_beginStart 36 = .ok (.aload_n 0, 1) := by decide +kernel
theorem d_Ma_beginStart_37 : decode b_Ma_beginStart 37 = .ok (.getfield 63, 3) := by decide +kernel
theorem d_Ma_beginStart_40 : decode b_Ma_beginStart 40 = .ok (.iastore, 1) := by decide +kernel
theorem d_Ma_beginStart_41 : decode b_Ma_beginStart 41 = .ok (.aload_n 0, 1) := by decide +kernel
theorem d_Ma_beginStart_42 : decode b_Ma_beginStart 42 = .ok (.dup, 1) := by decide +kernel
theorem d_Ma_beginStart_43 : decode b_Ma_beginStart 43 = .ok (.getfield 38, 3) := by decide +kernel
theorem d_Ma_beginStart_46 : decode b_Ma_beginStart 46 = .ok (.iconst 1, 1) := by decide +kernel
theorem d_Ma_beginStart_47 : decode b_Ma_beginStart 47 = .ok (.iadd, 1) := by decide +kernel
theorem d_Ma_beginStart_48 : decode b_Ma_beginStart 48 = .ok (.putfield 38, 3) := by decide +kernel
theorem d_Ma_beginStart_51 : decode b_Ma_beginStart 51 = .ok (.aload_n 0, 1) := by decide +kernel
theorem d_Ma_beginStart_52 : decode b_Ma_beginStart 52 = .ok (.iconst 4, 1) := by decide +kernel
theorem d_Ma_beginStart_53 : decode b_Ma_beginStart 53 = .ok (.iload_n 2, 1) := by decide +kernel
theorem d_Ma_beginStart_54 : decode b_Ma_beginStart 54 = .ok (.aload_n 0, 1) := by decide +kernel
theorem d_Ma_beginStart_55 : decode b_Ma_beginStart 55 = .ok (.getfield 63, 3) := by decide +kernel
theorem d_Ma_beginStart_58 : decode b_Ma_beginStart 58 = .ok (.bipush (-2), 2) := by decide +kernel
theorem d_Ma_beginStart_60 : decode b_Ma_beginStart 60 = .ok (.invokevirtual 276, 3) := by decide +kernel
theorem d_Ma_beginStart_63 : decode b_Ma_beginStart 63 = .ok (.iconst 0, 1) := by decide +kernel
theorem d_Ma_beginStart_64 : decode b_Ma_beginStart 64 = .ok (.istore_n 3, 1) := by decide +kernel
theorem d_Ma_beginStart_65 : decode b_Ma_beginStart 65 = .ok (.iload_n 3, 1) := by decide +kernel
theorem d_Ma_beginStart_66 : decode b_Ma_beginStart 66 = .ok (.aload_n 0, 1) := by decide +kernel
theorem d_Ma_beginStart_67 : decode b_Ma_beginStart 67 = .ok (.getfield 69, 3) := by decide +kernel
theorem d_Ma_beginStart_70 : decode b_Ma_beginStart 70 = .ok (.aload_n 0, 1) := by decide +kernel
theorem d_Ma_beginStart_71 : decode b_Ma_beginStart 71 = .ok (.getfield 63, 3) := by decide +kernel
theorem d_Ma_beginStart_74 : decode b_Ma_beginStart 74 = .ok (.bipush 9, 2) := by decide +kernel
theorem d_Ma_beginStart_76 : decode b_Ma_beginStart 76 = .ok (.invokevirtual 192, 3) := by decide +kernel
theorem d_Ma_beginStart_79 : decode b_Ma_beginStart 79 = .ok (.if_icmp .ge 47, 3) := by decide +kernel
theorem d_Ma_beginStart_82 : decode b_Ma_beginStart 82 = .ok (.aload_n 0, 1) := by decide +kernel
theorem d_Ma_beginStart_83 : decode b_Ma_beginStart 83 = .ok (.getfield 69, 3) := by decide +kernel
theorem d_Ma_beginStart_86 : decode b_Ma_beginStart 86 = .ok (.aload_n 0, 1) := by decide +kernel
theorem d_Ma_beginStart_87 : decode b_Ma_beginStart 87 = .ok (.getfield 63, 3) := by decide +kernel
theorem d_Ma_beginStart_90 : decode b_Ma_beginStart 90 = .ok (.iload_n 3, 1) := by decide +kernel
theorem d_Ma_beginStart_91 : decode b_Ma_beginStart 91 = .ok (.iconst 3, 1) := by decide +kernel
theorem d_Ma_beginStart_92 : decode b_Ma_beginStart 92 = .ok (.invokevirtual 280, 3) := by decide +kernel
theorem d_Ma_beginStart_95 : decode b_Ma_beginStart 95 = .ok (.ifCond .eq 25, 3) := by decide +kernel
theorem d_Ma_beginStart_98 : decode b_Ma_beginStart 98 = .ok (.aload_n 0, 1) := by decide +kernel
theorem d_Ma_beginStart_99 : decode b_Ma_beginStart 99 = .ok (.aload_n 0, 1) := by decide +kernel
theorem d_Ma_beginStart_100 : decode b_Ma_beginStart 100 = .ok (.getfield 63, 3) := by decide +kernel
theorem d_Ma_beginStart_103 : decode b_Ma_beginStart 103 = .ok (.iload_n 3, 1) := by decide +kernel
theorem d_Ma_beginStart_104 : decode b_Ma_beginStart 104 = .ok (.aload_n 0, 1) := by decide +kernel
theorem d_Ma_beginStart_105 : decode b_Ma_beginStart 105 = .ok (.getfield 69, 3) := by decide +kernel
theorem d_Ma_beginStart_108 : decode b_Ma_beginStart 108 = .ok (.aload_n 0, 1) := by decide +kernel
theorem d_Ma_beginStart_109 : decode b_Ma_beginStart 109 = .ok (.getfield 63, 3) := by decide +kernel
theorem d_Ma_beginStart_112 : decode b_Ma_beginStart 112 = .ok (.iload_n 3, 1) := by decide +kernel
theorem d_Ma_beginStart_113 : decode b_Ma_beginStart 113 = .ok (.iconst 4, 1) := by decide +kernel
theorem d_Ma_beginStart_114 : decode b_Ma_beginStart 114 = .ok (.invokevirtual 280, 3) := by decide +kernel
theorem d_Ma_beginStart_117 : decode b_Ma_beginStart 117 = .ok (.invokevirtual 283, 3) := by decide +kernel
theorem d_Ma_beginStart_120 : decode b_Ma_beginStart 120 = .ok (.iinc 3 1, 3) := by decide +kernel
theorem d_Ma_beginStart_123 : decode b_Ma_beginStart 123 = .ok (.goto (-58), 3) := by decide +kernel
theorem d_Ma_beginStart_126 : decode b_Ma_beginStart 126 = .ok (.aload_n 1, 1) := by decide +kernel
theorem d_Ma_beginStart_127 : decode b_Ma_beginStart 127 = .ok (.aload_n 0, 1) := by decide +kernel
theorem d_Ma_beginStart_128 : decode b_Ma_beginStart 128 = .ok (.getfield 63, 3) := by decide +kernel
theorem d_Ma_beginStart_131 : decode b_Ma_beginStart 131 = .ok (.invokevirtual 286, 3) := by decide +kernel
theorem d_Ma_beginStart_134 : decode b_Ma_beginStart 134 = .ok (.return_, 1) := by decide +kernel
abbrev ru_Ma_beginStart : Room := { frames := 2, cells := 0, slots := 0, locals := 45 }
def wj_Ma_beginStart_120 (y : Ly) (Post : St → Prop) (K_65 : St → Int32 → Prop) (a0 : Nat) (a1 : Nat) (s_j120 : St) (x3j120 : Int32) : Prop := K_65 s_j120 (x3j120 + 1)
def wb_Ma_beginStart_65 (y : Ly) (Post : St → Prop) (K_65 : St → Int32 → Prop) (a0 : Nat) (a1 : Nat) (s_h65 : St) (x3h65 : Int32) : Prop := wu_Wd_of y (fun (s_10 : St) (r_9 : Int32) => ((r_9 ≤ x3h65 → wu_Ru_addStart y (fun (s_12 : St) => Post s_12) s_10 a1 (sV s_10 a0 17)) ∧ (¬ (r_9 ≤ x3h65) → wu_Wd_field y (fun (s_14 : St) (r_13 : Int32) => ((r_13 = 0 → wj_Ma_beginStart_120 y Post K_65 a0 a1 s_14 x3h65) ∧ (¬ (r_13 = 0) → wu_Wd_field y (fun (s_16 : St) (r_15 : Int32) => wu_Ma_setFixed y (fun (s_18 : St) => wj_Ma_beginStart_120 y Post K_65 a0 a1 s_18 x3h65) s_16 a0 (sV s_14 a0 17) x3h65 r_15) s_14 (lk a0 0) (sV s_14 a0 17) x3h65 4))) s_10 (lk a0 0) (sV s_10 a0 17) x3h65 3))) s_h65 (lk a0 0) (sV s_h65 a0 17) 9
def wl_Ma_beginStart_65 (y : Ly) (Post : St → Prop) (a0 : Nat) (a1 : Nat) (s_h65 : St) (x3h65 : Int32) : Prop := ∃ (I : St → Int32 → Prop) (μ : St → Int32 → Nat), I s_h65 x3h65 ∧ ∀ (u : St) (t0 : Int32), I u t0 → wb_Ma_beginStart_65 y Post (fun z t0q => I z t0q ∧ μ z t0q < μ u t0) a0 a1 u t0
def wu_Ma_beginStart (y : Ly) (Post : St → Prop) (σ : St) (a0 : Nat) (a1 : Nat) (v2 : Int32) : Prop := wu_Wd_set y (fun (s_2 : St) => wu_Wd_set y (fun (s_4 : St) => xS y s_4 a0 6 (sV s_4 a0 7) (sV s_4 a0 17) (fun s_5 : St => xP (uV s_5 a0 7 ((sV s_5 a0 7) + 1)) (fun s_6 : St => wu_Ma_mark y (fun (s_8 : St) => wl_Ma_beginStart_65 y Post a0 a1 s_8 0) s_6 a0 4 v2 (sV s_6 a0 17) (-2)))) s_2 (lk a0 0) (sV s_2 a0 17) 14 v2) σ (lk a0 0) (sV σ a0 17) 13 1
set_option maxHeartbeats 4000000 in
set_option maxRecDepth 100000 in
theorem cu_Ma_beginStart (l : Launch) (D : va_G) (g : Nat → ClassId) (ad : Nat → Nat) (y : Ly) (Post : St → Prop) (σ : St) (a0 : Nat) (a1 : Nat) (v2 : Int32) (sz : Nat) (h_a0 : cl a0 = 4) (h_a1 : cl a1 = 7) (h : wu_Ma_beginStart y Post σ a0 a1 v2) : Met l y_Ma_beginStart (mw y_Ma_beginStart b_Ma_beginStart 4 (none)) ru_Ma_beginStart (PC g D [] [.ref (ad a0), .ref (ad a1), .int v2] sz (ws g ad y σ)) (va_Qv (fun u : St => Post u) (QW D (va_A (ws g ad y σ) sz) (fun u => ws g ad y u)) (va_A (ws g ad y σ) sz)) 0 0 (va_A (ws g ad y σ) sz) := by
  refine ofV (by decide +kernel) (Nat.le_of_ble_eq_true rfl) ?_
  intro p e s m args below meth c A Q ls H locs G hsz hP hD hS hl hret
  subst hsz
  have hl : lv_has ls 4 [(0, .ref (ad a0)), (1, .ref (ad a1)), (2, .int v2)] := hl
  unfold wu_Ma_beginStart at h
  refine lv_aload_n G.1 G.2.1 d_Ma_beginStart_0 rfl (lv_at hl 0 rfl) ?_
  refine ugf (v := .ref (ad (lk a0 0))) G hP h_a0 iMa rfl 0 (by decide) rfl q1065 rfl rfl d_Ma_beginStart_1 ?_
  refine lv_aload_n G.1 G.2.1 d_Ma_beginStart_4 rfl (lv_at hl 0 rfl) ?_
  refine ugf (v := .int (sV σ a0 17)) G hP h_a0 iMa rfl 17 (by decide) rfl q1093 rfl rfl d_Ma_beginStart_5 ?_
  refine lv_bipush (v := 13) G.1 G.2.1 d_Ma_beginStart_8 (by decide) ?_
  refine lv_iconst (v := 1) G.1 G.2.1 d_Ma_beginStart_10 (by decide) ?_
  refine ucVv (As := [.int (sV σ a0 17), .int 13, .int 1]) (rest := []) G hP hD hS (cu_Wd_set l D g ad y _ σ (lk a0 0) (sV σ a0 17) 13 1 H.size (lk_4_0 h_a0) h) w9_Wd_set q1770 ⟨Nat.le_of_ble_eq_true rfl, Nat.le_of_ble_eq_true rfl⟩ rfl rfl (lk_4_0 h_a0) (q := (RWd, TWd, 17)) rfl rfl hl.1 rfl (Nat.le_of_ble_eq_true rfl) rfl ⟨Nat.le_refl _, Nat.le_refl _⟩ d_Ma_beginStart_11 (fun s_2 H locs h hP hD hS => ?_)
  refine lv_aload_n G.1 G.2.1 d_Ma_beginStart_14 rfl (lv_at hl 0 rfl) ?_
  refine ugf (v := .ref (ad (lk a0 0))) G hP h_a0 iMa rfl 0 (by decide) rfl q1065 rfl rfl d_Ma_beginStart_15 ?_
  refine lv_aload_n G.1 G.2.1 d_Ma_beginStart_18 rfl (lv_at hl 0 rfl) ?_
  refine ugf (v := .int (sV s_2 a0 17)) G hP h_a0 iMa rfl 17 (by decide) rfl q1093 rfl rfl d_Ma_beginStart_19 ?_
  refine W.eq (g2 := F0 m 22 ls [.int (sV s_2 a0 17), .ref (ad (lk a0 0))]) rfl ?_
  refine lv_bipush (v := 14) G.1 G.2.1 d_Ma_beginStart_22 (by decide) ?_
  refine lv_iload_n G.1 G.2.1 d_Ma_beginStart_24 rfl (lv_at hl 2 rfl) ?_
  refine ucVv (As := [.int (sV s_2 a0 17), .int 14, .int v2]) (rest := []) G hP hD hS (cu_Wd_set l D g ad y _ s_2 (lk a0 0) (sV s_2 a0 17) 14 v2 H.size (lk_4_0 h_a0) h) w9_Wd_set q1770 ⟨Nat.le_of_ble_eq_true rfl, Nat.le_of_ble_eq_true rfl⟩ rfl rfl (lk_4_0 h_a0) (q := (RWd, TWd, 17)) rfl rfl hl.1 rfl (Nat.le_of_ble_eq_true rfl) rfl ⟨Nat.le_refl _, Nat.le_refl _⟩ d_Ma_beginStart_25 (fun s_4 H locs h hP hD hS => ?_)
  refine lv_aload_n G.1 G.2.1 d_Ma_beginStart_28 rfl (lv_at hl 0 rfl) ?_
  refine ugf (v := .ref (yP y a0 6)) G hP h_a0 iMa rfl 6 (by decide) rfl q1077 rfl rfl d_Ma_beginStart_29 ?_
  refine lv_aload_n G.1 G.2.1 d_Ma_beginStart_32 rfl (lv_at hl 0 rfl) ?_
  refine ugf (v := .int (sV s_4 a0 7)) G hP h_a0 iMa rfl 7 (by decide) rfl q1079 rfl rfl d_Ma_beginStart_33 ?_
  refine lv_aload_n G.1 G.2.1 d_Ma_beginStart_36 rfl (lv_at hl 0 rfl) ?_
  refine ugf (v := .int (sV s_4 a0 17)) G hP h_a0 iMa rfl 17 (by decide) rfl q1093 rfl rfl d_Ma_beginStart_37 ?_
  refine uiast G hP hD hS (kdp h_a0 rfl) (typ h_a0 rfl) h d_Ma_beginStart_40 (fun s_5 H locs h hP hD hS => ?_)
  refine lv_aload_n G.1 G.2.1 d_Ma_beginStart_41 rfl (lv_at hl 0 rfl) ?_
  refine lv_dup G.1 G.2.1 d_Ma_beginStart_42 rfl ?_
  refine W.eq (g2 := F0 m 43 ls [.ref (ad a0), .ref (ad a0)]) rfl ?_
  refine ugf (v := .int (sV s_5 a0 7)) G hP h_a0 iMa rfl 7 (by decide) rfl q1079 rfl rfl d_Ma_beginStart_43 ?_
  refine lv_iconst (v := 1) G.1 G.2.1 d_Ma_beginStart_46 (by decide) ?_
  refine lv_iadd G.1 G.2.1 d_Ma_beginStart_47 ?_
  refine upf G hP hD hS h 7 putV h_a0 iMa tMa tMa_ok nMa rfl (by decide) rfl q1079 rfl rfl fV rfl rfl d_Ma_beginStart_48 (fun s_6 H locs h hP hD hS => ?_)
  refine lv_aload_n G.1 G.2.1 d_Ma_beginStart_51 rfl (lv_at hl 0 rfl) ?_
  refine lv_iconst (v := 4) G.1 G.2.1 d_Ma_beginStart_52 (by decide) ?_
  refine lv_iload_n G.1 G.2.1 d_Ma_beginStart_53 rfl (lv_at hl 2 rfl) ?_
  refine lv_aload_n G.1 G.2.1 d_Ma_beginStart_54 rfl (lv_at hl 0 rfl) ?_
  refine ugf (v := .int (sV s_6 a0 17)) G hP h_a0 iMa rfl 17 (by decide) rfl q1093 rfl rfl d_Ma_beginStart_55 ?_
  refine lv_bipush (v := (-2)) G.1 G.2.1 d_Ma_beginStart_58 (by decide) ?_
  refine ucVv (As := [.int 4, .int v2, .int (sV s_6 a0 17), .int (-2)]) (rest := []) G hP hD hS (cu_Ma_mark l D g ad y _ s_6 a0 4 v2 (sV s_6 a0 17) (-2) H.size h_a0 h) w9_Ma_mark q1911 ⟨Nat.le_of_ble_eq_true rfl, Nat.le_of_ble_eq_true rfl⟩ rfl rfl h_a0 (q := (RMa, TMa, 19)) rfl rfl hl.1 rfl (Nat.le_of_ble_eq_true rfl) rfl ⟨Nat.le_refl _, Nat.le_refl _⟩ d_Ma_beginStart_60 (fun s_8 H locs h hP hD hS => ?_)
  refine lv_iconst (v := 0) G.1 G.2.1 d_Ma_beginStart_63 (by decide) ?_
  refine W.eq (g2 := F0 m 64 ls [.int 0]) rfl ?_
  refine lv_istore_n (lv' := [(3, .int 0), (0, .ref (ad a0)), (1, .ref (ad a1)), (2, .int v2)]) G.1 G.2.1 d_Ma_beginStart_64 rfl hl (by decide) rfl (fun ls hl => ?_)
  unfold wl_Ma_beginStart_65 at h
  obtain ⟨I_65, μ_65, hI_65, hB_65⟩ := h
  have L_65 : ∀ (n_65 : Nat) (s_h65 : St) (x3h65 : Int32), μ_65 s_h65 x3h65 < n_65 → I_65 s_h65 x3h65 → ∀ (H : Heap) (locs : List Loc), va_P D CL (ws g ad y s_h65) H → va_D A (ws g ad y s_h65) → va_S A s.heap H locs → ∀ ls, lv_has ls 4 [(0, .ref (ad a0)), (1, .ref (ad a1)), (3, .int x3h65)] → W p l e ru_Ma_beginStart s m args below meth c H locs 0 0 Q (F0 m 65 ls []) := by
    intro n_65
    induction n_65 with
    | zero => intro s_h65 x3h65 hμ; exact absurd hμ (Nat.not_lt_zero _)
    | succ n_65 ih_65 =>
      intro s_h65 x3h65 hμ_65 hJ H locs hP hD hS ls hl
      obtain ⟨K_65, hK_65, h⟩ : ∃ K : St → Int32 → Prop, (∀ z (t0 : Int32), K z t0 → I_65 z t0 ∧ μ_65 z t0 < μ_65 s_h65 x3h65) ∧ wb_Ma_beginStart_65 y Post K a0 a1 s_h65 x3h65 := ⟨_, fun _ _ h => h, hB_65 s_h65 x3h65 hJ⟩
      unfold wb_Ma_beginStart_65 at h
      refine lv_iload_n G.1 G.2.1 d_Ma_beginStart_65 rfl (lv_at hl 2 rfl) ?_
      refine lv_aload_n G.1 G.2.1 d_Ma_beginStart_66 rfl (lv_at hl 0 rfl) ?_
      refine ugf (v := .ref (ad (lk a0 0))) G hP h_a0 iMa rfl 0 (by decide) rfl q1065 rfl rfl d_Ma_beginStart_67 ?_
      refine lv_aload_n G.1 G.2.1 d_Ma_beginStart_70 rfl (lv_at hl 0 rfl) ?_
      refine ugf (v := .int (sV s_h65 a0 17)) G hP h_a0 iMa rfl 17 (by decide) rfl q1093 rfl rfl d_Ma_beginStart_71 ?_
      refine lv_bipush (v := 9) G.1 G.2.1 d_Ma_beginStart_74 (by decide) ?_
      refine ucVi (As := [.int (sV s_h65 a0 17), .int 9]) (rest := [.int x3h65]) G hP hD hS (cu_Wd_of l D g ad y _ s_h65 (lk a0 0) (sV s_h65 a0 17) 9 H.size (lk_4_0 h_a0) h) w9_Wd_of q1810 ⟨Nat.le_of_ble_eq_true rfl, Nat.le_of_ble_eq_true rfl⟩ rfl rfl (lk_4_0 h_a0) (q := (RWd, TWd, 17)) rfl rfl hl.1 rfl (Nat.le_of_ble_eq_true rfl) rfl ⟨Nat.le_refl _, Nat.le_refl _⟩ d_Ma_beginStart_76 (fun r_9 s_10 H locs h hP hD hS => ?_)
      refine lv_icmp_ge (tgt := 126) G.1 G.2.1 d_Ma_beginStart_79 (by decide) (fun c79 => ?_) (fun c79 => ?_)
      · skip
        have h := h.1 c79
        refine lv_aload_n G.1 G.2.1 d_Ma_beginStart_126 rfl (lv_at hl 1 rfl) ?_
        refine lv_aload_n G.1 G.2.1 d_Ma_beginStart_127 rfl (lv_at hl 0 rfl) ?_
        refine ugf (v := .int (sV s_10 a0 17)) G hP h_a0 iMa rfl 17 (by decide) rfl q1093 rfl rfl d_Ma_beginStart_128 ?_
        refine W.eq (g2 := F0 m 131 ls [.int (sV s_10 a0 17), .ref (ad a1)]) rfl ?_
        refine ucVv (As := [.int (sV s_10 a0 17)]) (rest := []) G hP hD hS (cu_Ru_addStart l D g ad y _ s_10 a1 (sV s_10 a0 17) H.size h_a1 h) w9_Ru_addStart q2077 ⟨Nat.le_of_ble_eq_true rfl, Nat.le_of_ble_eq_true rfl⟩ rfl rfl h_a1 (q := (RRu, TRu, 19)) rfl rfl hl.1 rfl (Nat.le_of_ble_eq_true rfl) rfl ⟨Nat.le_refl _, Nat.le_refl _⟩ d_Ma_beginStart_131 (fun s_12 H locs h hP hD hS => ?_)
        exact hret _ _ _ _ _ _ ls h hP hD hS (Nat.le_refl _) (Nat.le_refl _) d_Ma_beginStart_134
      · skip
        have h := h.2 c79
        refine lv_aload_n G.1 G.2.1 d_Ma_beginStart_82 rfl (lv_at hl 0 rfl) ?_
        refine ugf (v := .ref (ad (lk a0 0))) G hP h_a0 iMa rfl 0 (by decide) rfl q1065 rfl rfl d_Ma_beginStart_83 ?_
        refine lv_aload_n G.1 G.2.1 d_Ma_beginStart_86 rfl (lv_at hl 0 rfl) ?_
        refine W.eq (g2 := F0 m 87 ls [.ref (ad a0), .ref (ad (lk a0 0))]) rfl ?_
        refine ugf (v := .int (sV s_10 a0 17)) G hP h_a0 iMa rfl 17 (by decide) rfl q1093 rfl rfl d_Ma_beginStart_87 ?_
        refine lv_iload_n G.1 G.2.1 d_Ma_beginStart_90 rfl (lv_at hl 2 rfl) ?_
        refine lv_iconst (v := 3) G.1 G.2.1 d_Ma_beginStart_91 (by decide) ?_
        refine ucVi (As := [.int (sV s_10 a0 17), .int x3h65, .int 3]) (rest := []) G hP hD hS (cu_Wd_field l D g ad y _ s_10 (lk a0 0) (sV s_10 a0 17) x3h65 3 H.size (lk_4_0 h_a0) h) w9_Wd_field q1988 ⟨Nat.le_of_ble_eq_true rfl, Nat.le_of_ble_eq_true rfl⟩ rfl rfl (lk_4_0 h_a0) (q := (RWd, TWd, 17)) rfl rfl hl.1 rfl (Nat.le_of_ble_eq_true rfl) rfl ⟨Nat.le_refl _, Nat.le_refl _⟩ d_Ma_beginStart_92 (fun r_13 s_14 H locs h hP hD hS => ?_)
        have J_120 : ∀ (s_j120 : St) (x3j120 : Int32) (H : Heap) (locs : List Loc), wj_Ma_beginStart_120 y Post K_65 a0 a1 s_j120 x3j120 → va_P D CL (ws g ad y s_j120) H → va_D A (ws g ad y s_j120) → va_S A s.heap H locs → ∀ ls, lv_has ls 4 [(0, .ref (ad a0)), (1, .ref (ad a1)), (3, .int x3j120)] → W p l e ru_Ma_beginStart s m args below meth c H locs 0 0 Q (F0 m 120 ls []) := by
          intro s_j120 x3j120 H locs h hP hD hS ls hl
          unfold wj_Ma_beginStart_120 at h
          refine lv_iinc (v := x3j120 + 1) (lv' := [(3, .int (x3j120 + 1)), (0, .ref (ad a0)), (1, .ref (ad a1))]) G.1 G.2.1 d_Ma_beginStart_120 hl (k := 2) rfl rfl (by decide) rfl (fun ls hl => ?_)
          refine lv_goto (tgt := 65) G.1 G.2.1 d_Ma_beginStart_123 (by decide) ?_
          have h := hK_65 s_j120 (x3j120 + 1) h
          exact ih_65 s_j120 (x3j120 + 1) (Nat.lt_of_lt_of_le h.2 (Nat.le_of_lt_succ hμ_65)) h.1 H locs hP hD hS ls (lv_sub hl [1, 2, 0] rfl)
        refine lv_if_eq (tgt := 120) G.1 G.2.1 d_Ma_beginStart_95 (by decide) (fun c95 => ?_) (fun c95 => ?_)
        · skip
          have h := h.1 c95
          exact J_120 s_14 x3h65 H locs h hP hD hS ls (lv_sub hl [0, 1, 2] rfl)
        · skip
          have h := h.2 c95
          refine lv_aload_n G.1 G.2.1 d_Ma_beginStart_98 rfl (lv_at hl 0 rfl) ?_
          refine lv_aload_n G.1 G.2.1 d_Ma_beginStart_99 rfl (lv_at hl 0 rfl) ?_
          refine ugf (v := .int (sV s_14 a0 17)) G hP h_a0 iMa rfl 17 (by decide) rfl q1093 rfl rfl d_Ma_beginStart_100 ?_
          refine lv_iload_n G.1 G.2.1 d_Ma_beginStart_103 rfl (lv_at hl 2 rfl) ?_
          refine lv_aload_n G.1 G.2.1 d_Ma_beginStart_104 rfl (lv_at hl 0 rfl) ?_
          refine ugf (v := .ref (ad (lk a0 0))) G hP h_a0 iMa rfl 0 (by decide) rfl q1065 rfl rfl d_Ma_beginStart_105 ?_
          refine lv_aload_n G.1 G.2.1 d_Ma_beginStart_108 rfl (lv_at hl 0 rfl) ?_
          refine W.eq (g2 := F0 m 109 ls [.ref (ad a0), .ref (ad (lk a0 0)), .int x3h65, .int (sV s_14 a0 17), .ref (ad a0)]) rfl ?_
          refine ugf (v := .int (sV s_14 a0 17)) G hP h_a0 iMa rfl 17 (by decide) rfl q1093 rfl rfl d_Ma_beginStart_109 ?_
          refine lv_iload_n G.1 G.2.1 d_Ma_beginStart_112 rfl (lv_at hl 2 rfl) ?_
          refine lv_iconst (v := 4) G.1 G.2.1 d_Ma_beginStart_113 (by decide) ?_
          refine ucVi (As := [.int (sV s_14 a0 17), .int x3h65, .int 4]) (rest := [.int x3h65, .int (sV s_14 a0 17), .ref (ad a0)]) G hP hD hS (cu_Wd_field l D g ad y _ s_14 (lk a0 0) (sV s_14 a0 17) x3h65 4 H.size (lk_4_0 h_a0) h) w9_Wd_field q1988 ⟨Nat.le_of_ble_eq_true rfl, Nat.le_of_ble_eq_true rfl⟩ rfl rfl (lk_4_0 h_a0) (q := (RWd, TWd, 17)) rfl rfl hl.1 rfl (Nat.le_of_ble_eq_true rfl) rfl ⟨Nat.le_refl _, Nat.le_refl _⟩ d_Ma_beginStart_114 (fun r_15 s_16 H locs h hP hD hS => ?_)
          refine ucVv (As := [.int (sV s_14 a0 17), .int x3h65, .int r_15]) (rest := []) G hP hD hS (cu_Ma_setFixed l D g ad y _ s_16 a0 (sV s_14 a0 17) x3h65 r_15 H.size h_a0 h) w9_Ma_setFixed q1989 ⟨Nat.le_of_ble_eq_true rfl, Nat.le_of_ble_eq_true rfl⟩ rfl rfl h_a0 (q := (RMa, TMa, 19)) rfl rfl hl.1 rfl (Nat.le_of_ble_eq_true rfl) rfl ⟨Nat.le_refl _, Nat.le_refl _⟩ d_Ma_beginStart_117 (fun s_18 H locs h hP hD hS => ?_)
          exact J_120 s_18 x3h65 H locs h hP hD hS ls (lv_sub hl [0, 1, 2] rfl)
  exact L_65 _ s_8 0 (Nat.lt_succ_self _) hI_65 H locs hP hD hS ls (lv_sub hl [1, 2, 0] rfl)
def y_Cw_ofWorld : MethodName := ⟨"ClassWorks", "ofWorld", "(LClassWorks$Machine;I)I"⟩
abbrev b_Cw_ofWorld : ByteArray := prog_1_method_25_code
theorem q1068 : Cond.fieldLink "ClassWorks" 256 "ClassWorks$Machine" "heap" "LClassWorks$Heap;" ∈ lw_ok := lw_okmem (List.mem_of_getElem? (i := 1068) (by decide +kernel)) rfl
theorem q924 : Cond.fieldLink "ClassWorks" 260 "ClassWorks$Heap" "objects" "I" ∈ lw_ok := lw_okmem (List.mem_of_getElem? (i := 924) (by decide +kernel)) rfl
theorem q926 : Cond.fieldLink "ClassWorks" 265 "ClassWorks$Heap" "top" "I" ∈ lw_ok := lw_okmem (List.mem_of_getElem? (i := 926) (by decide +kernel)) rfl
theorem q1080 : Cond.fieldLink "ClassWorks" 268 "ClassWorks$Machine" "startedCount" "I" ∈ lw_ok := lw_okmem (List.mem_of_getElem? (i := 1080) (by decide +kernel)) rfl
theorem q1082 : Cond.fieldLink "ClassWorks" 271 "ClassWorks$Machine" "present" "I" ∈ lw_ok := lw_okmem (List.mem_of_getElem? (i := 1082) (by decide +kernel)) rfl
theorem d_Cw_ofWorld_0 : decode b_Cw_ofWorld 0 = .ok (.iload_n 2, 1) := by decide +kernel
theorem d_Cw_ofWorld_1 : decode b_Cw_ofWorld 1 = .ok (.tableswitch 48 10 12 #[27, 35, 43], 27) := by decide +kernel
theorem d_Cw_ofWorld_28 : decode b_Cw_ofWorld 28 = .ok (.aload_n 1, 1) := by decide +kernel
theorem d_Cw_ofWorld_29 : decode b_Cw_ofWorld 29 = .ok (.getfield 256, 3) := by decide +kernel
theorem d_Cw_ofWorld_32 : decode b_Cw_ofWorld 32 = .ok (.getfield 260, 3) := by decide +kernel
theorem d_Cw_ofWorld_35 : decode b_Cw_ofWorld 35 = .ok (.ireturn, 1) := by decide +kernel
theorem d_Cw_ofWorld_36 : decode b_Cw_ofWorld 36 = .ok (.aload_n 1, 1) := by decide +kernel
theorem d_Cw_ofWorld_37 : decode b_Cw_ofWorld 37 = .ok (.getfield 256, 3) := by decide +kernel
theorem d_Cw_ofWorld_40 : decode b_Cw_ofWorld 40 = .ok (.getfield 265, 3) := by decide +kernel
theorem d_Cw_ofWorld_43 : decode b_Cw_ofWorld 43 = .ok (.ireturn, 1) := by decide +kernel
theorem d_Cw_ofWorld_44 : decode b_Cw_ofWorld 44 = .ok (.aload_n 1, 1) := by decide +kernel
theorem d_Cw_ofWorld_45 : decode b_Cw_ofWorld 45 = .ok (.getfield 268, 3) := by decide +kernel
theorem d_Cw_ofWorld_48 : decode b_Cw_ofWorld 48 = .ok (.ireturn, 1) := by decide +kernel
theorem d_Cw_ofWorld_49 : decode b_Cw_ofWorld 49 = .ok (.aload_n 1, 1) := by decide +kernel
theorem d_Cw_ofWorld_50 : decode b_Cw_ofWorld 50 = .ok (.getfield 271, 3) := by decide +kernel
theorem d_Cw_ofWorld_53 : decode b_Cw_ofWorld 53 = .ok (.ireturn, 1) := by decide +kernel
abbrev ru_Cw_ofWorld : Room := { frames := 0, cells := 0, slots := 0, locals := 0 }
def wu_Cw_ofWorld (y : Ly) (Post : St → Int32 → Prop) (σ : St) (a0 : Nat) (a1 : Nat) (v2 : Int32) : Prop := ((v2 = 10 → Post σ (sV σ (lk a1 1) 4)) ∧ (¬ (v2 = 10) → ((v2 = 11 → Post σ (sV σ (lk a1 1) 5)) ∧ (¬ (v2 = 11) → ((v2 = 12 → Post σ (sV σ a1 7)) ∧ (¬ (v2 = 12) → Post σ (sV σ a1 8)))))))
set_option maxHeartbeats 4000000 in
set_option maxRecDepth 100000 in
theorem cu_Cw_ofWorld (l : Launch) (D : va_G) (g : Nat → ClassId) (ad : Nat → Nat) (y : Ly) (Post : St → Int32 → Prop) (σ : St) (a0 : Nat) (a1 : Nat) (v2 : Int32) (sz : Nat) (h_a0 : cl a0 = 11) (h_a1 : cl a1 = 4) (h : wu_Cw_ofWorld y Post σ a0 a1 v2) : Met l y_Cw_ofWorld (mw y_Cw_ofWorld b_Cw_ofWorld 3 (some .int)) ru_Cw_ofWorld (PC g D [] [.ref (ad a0), .ref (ad a1), .int v2] sz (ws g ad y σ)) (va_Qi (fun (r : Int32) (u : St) => Post u r) (QW D (va_A (ws g ad y σ) sz) (fun u => ws g ad y u)) (va_A (ws g ad y σ) sz)) 0 0 (va_A (ws g ad y σ) sz) := by
  refine ofI (by decide +kernel) (Nat.le_of_ble_eq_true rfl) ?_
  intro p e s m args below meth c A Q ls H locs G hsz hP hD hS hl hret
  subst hsz
  have hl : lv_has ls 3 [(0, .ref (ad a0)), (1, .ref (ad a1)), (2, .int v2)] := hl
  unfold wu_Cw_ofWorld at h
  refine lv_iload_n G.1 G.2.1 d_Cw_ofWorld_0 rfl (lv_at hl 2 rfl) ?_
  by_cases e1_10 : v2 = 10
  · skip
    have h := h.1 e1_10
    refine lv_tableIn (off := 27) (tgt := 28) G.1 G.2.1 d_Cw_ofWorld_1 (by rw [e1_10]; decide) (by rw [e1_10]; decide) (by rw [e1_10]; rfl) (by decide) ?_
    refine lv_aload_n G.1 G.2.1 d_Cw_ofWorld_28 rfl (lv_at hl 1 rfl) ?_
    refine ugf (v := .ref (ad (lk a1 1))) G hP h_a1 iMa rfl 1 (by decide) rfl q1068 rfl rfl d_Cw_ofWorld_29 ?_
    refine ugf (v := .int (sV σ (lk a1 1) 4)) G hP (lk_4_1 h_a1) iHp rfl 4 (by decide) rfl q924 rfl rfl d_Cw_ofWorld_32 ?_
    exact hret _ _ _ _ _ _ _ ls h hP hD hS (Nat.le_refl _) (Nat.le_refl _) d_Cw_ofWorld_35
  replace h := h.2 e1_10
  by_cases e1_11 : v2 = 11
  · skip
    have h := h.1 e1_11
    refine lv_tableIn (off := 35) (tgt := 36) G.1 G.2.1 d_Cw_ofWorld_1 (by rw [e1_11]; decide) (by rw [e1_11]; decide) (by rw [e1_11]; rfl) (by decide) ?_
    refine lv_aload_n G.1 G.2.1 d_Cw_ofWorld_36 rfl (lv_at hl 1 rfl) ?_
    refine ugf (v := .ref (ad (lk a1 1))) G hP h_a1 iMa rfl 1 (by decide) rfl q1068 rfl rfl d_Cw_ofWorld_37 ?_
    refine ugf (v := .int (sV σ (lk a1 1) 5)) G hP (lk_4_1 h_a1) iHp rfl 5 (by decide) rfl q926 rfl rfl d_Cw_ofWorld_40 ?_
    exact hret _ _ _ _ _ _ _ ls h hP hD hS (Nat.le_refl _) (Nat.le_refl _) d_Cw_ofWorld_43
  replace h := h.2 e1_11
  by_cases e1_12 : v2 = 12
  · skip
    have h := h.1 e1_12
    refine lv_tableIn (off := 43) (tgt := 44) G.1 G.2.1 d_Cw_ofWorld_1 (by rw [e1_12]; decide) (by rw [e1_12]; decide) (by rw [e1_12]; rfl) (by decide) ?_
    refine lv_aload_n G.1 G.2.1 d_Cw_ofWorld_44 rfl (lv_at hl 1 rfl) ?_
    refine ugf (v := .int (sV σ a1 7)) G hP h_a1 iMa rfl 7 (by decide) rfl q1080 rfl rfl d_Cw_ofWorld_45 ?_
    exact hret _ _ _ _ _ _ _ ls h hP hD hS (Nat.le_refl _) (Nat.le_refl _) d_Cw_ofWorld_48
  replace h := h.2 e1_12
  have te1_10 := lv_neT (a := 10) e1_10 (by decide)
  have te1_11 := lv_neT (a := 11) e1_11 (by decide)
  have te1_12 := lv_neT (a := 12) e1_12 (by decide)
  refine lv_tableOut (tgt := 49) G.1 G.2.1 d_Cw_ofWorld_1 (by omega) (by decide) ?_
  refine lv_aload_n G.1 G.2.1 d_Cw_ofWorld_49 rfl (lv_at hl 1 rfl) ?_
  refine ugf (v := .int (sV σ a1 8)) G hP h_a1 iMa rfl 8 (by decide) rfl q1082 rfl rfl d_Cw_ofWorld_50 ?_
  exact hret _ _ _ _ _ _ _ ls h hP hD hS (Nat.le_refl _) (Nat.le_refl _) d_Cw_ofWorld_53
theorem q992 : Cond.fieldLink "ClassWorks$Machine" 129 "ClassWorks$Runner" "waits" "Z" ∈ lw_ok := lw_okmem (List.mem_of_getElem? (i := 992) (by decide +kernel)) rfl
theorem q1789 : Cond.methodLink "ClassWorks$Machine" 132 y_Ma_plan ∈ lw_ok := lw_okmem (List.mem_of_getElem? (i := 1789) (by decide +kernel)) rfl
theorem q1792 : Cond.code y_Ma_plan b_Ma_plan 3 (some .int) ∈ lw_ok := lw_okmem (List.mem_of_getElem? (i := 1792) (by decide +kernel)) rfl
theorem q1791 : Cond.instanceMethod y_Ma_plan ∈ lw_ok := lw_okmem (List.mem_of_getElem? (i := 1791) (by decide +kernel)) rfl
theorem q79 : Cond.selects y_Ma_plan.cls y_Ma_plan y_Ma_plan ∈ lw_ok := lw_okmem (List.mem_of_getElem? (i := 79) (by decide +kernel)) rfl
theorem w9_Ma_plan : CWv y_Ma_plan b_Ma_plan 3 (some .int) 1 ∧ Cond.instanceMethod y_Ma_plan ∈ lw_ok ∧ Cond.selects y_Ma_plan.cls y_Ma_plan y_Ma_plan ∈ lw_ok := ⟨⟨q1792, q344, by decide +kernel, by decide +kernel, by decide +kernel⟩, q1791, q79⟩
def y_Ma_stateOf : MethodName := ⟨"ClassWorks$Machine", "stateOf", "(I)I"⟩
abbrev b_Ma_stateOf : ByteArray := prog_6_method_8_code
theorem d_Ma_stateOf_0 : decode b_Ma_stateOf 0 = .ok (.aload_n 0, 1) := by decide +kernel
theorem d_Ma_stateOf_1 : decode b_Ma_stateOf 1 = .ok (.getfield 20, 3) := by decide +kernel
theorem d_Ma_stateOf_4 : decode b_Ma_stateOf 4 = .ok (.iload_n 1, 1) := by decide +kernel
theorem d_Ma_stateOf_5 : decode b_Ma_stateOf 5 = .ok (.aaload, 1) := by decide +kernel
theorem d_Ma_stateOf_6 : decode b_Ma_stateOf 6 = .ok (.astore_n 2, 1) := by decide +kernel
theorem d_Ma_stateOf_7 : decode b_Ma_stateOf 7 = .ok (.aload_n 2, 1) := by decide +kernel
theorem d_Ma_stateOf_8 : decode b_Ma_stateOf 8 = .ok (.getfield 105, 3) := by decide +kernel
theorem d_Ma_stateOf_11 : decode b_Ma_stateOf 11 = .ok (.ifCond .ne 6, 3) := by decide +kernel
theorem d_Ma_stateOf_14 : decode b_Ma_stateOf 14 = .ok (.bipush (-2), 2) := by decide +kernel
theorem d_Ma_stateOf_16 : decode b_Ma_stateOf 16 = .ok (.ireturn, 1) := by decide +kernel
theorem d_Ma_stateOf_17 : decode b_Ma_stateOf 17 = .ok (.aload_n 2, 1) := by decide +kernel
theorem d_Ma_stateOf_18 : decode b_Ma_stateOf 18 = .ok (.invokevirtual 108, 3) := by decide +kernel
theorem d_Ma_stateOf_21 : decode b_Ma_stateOf 21 = .ok (.ifCond .ne 17, 3) := by decide +kernel
theorem d_Ma_stateOf_24 : decode b_Ma_stateOf 24 = .ok (.aload_n 2, 1) := by decide +kernel
theorem d_Ma_stateOf_25 : decode b_Ma_stateOf 25 = .ok (.getfield 105, 3) := by decide +kernel
theorem d_Ma_stateOf_28 : decode b_Ma_stateOf 28 = .ok (.iconst 2, 1) := by decide +kernel
theorem d_Ma_stateOf_29 : decode b_Ma_stateOf 29 = .ok (.if_icmp .ne 7, 3) := by decide +kernel
theorem d_Ma_stateOf_32 : decode b_Ma_stateOf 32 = .ok (.iconst 0, 1) := by decide +kernel
theorem d_Ma_stateOf_33 : decode b_Ma_stateOf 33 = .ok (.goto 4, 3) := by decide +kernel
theorem d_Ma_stateOf_36 : decode b_Ma_stateOf 36 = .ok (.iconst 2, 1) := by decide +kernel
theorem d_Ma_stateOf_37 : decode b_Ma_stateOf 37 = .ok (.ireturn, 1) := by decide +kernel
theorem d_Ma_stateOf_38 : decode b_Ma_stateOf 38 = .ok (.aload_n 2, 1) := by decide +kernel
theorem d_Ma_stateOf_39 : decode b_Ma_stateOf 39 = .ok (.getfield 129, 3) := by decide +kernel
theorem d_Ma_stateOf_42 : decode b_Ma_stateOf 42 = .ok (.ifCond .eq 15, 3) := by decide +kernel
theorem d_Ma_stateOf_45 : decode b_Ma_stateOf 45 = .ok (.aload_n 0, 1) := by decide +kernel
theorem d_Ma_stateOf_46 : decode b_Ma_stateOf 46 = .ok (.iload_n 1, 1) := by decide +kernel
theorem d_Ma_stateOf_47 : decode b_Ma_stateOf 47 = .ok (.invokevirtual 132, 3) := by decide +kernel
theorem d_Ma_stateOf_50 : decode b_Ma_stateOf 50 = .ok (.ifCond .ne 7, 3) := by decide +kernel
theorem d_Ma_stateOf_53 : decode b_Ma_stateOf 53 = .ok (.iconst 4, 1) := by decide +kernel
theorem d_Ma_stateOf_54 : decode b_Ma_stateOf 54 = .ok (.goto 4, 3) := by decide +kernel
theorem d_Ma_stateOf_57 : decode b_Ma_stateOf 57 = .ok (.iconst 1, 1) := by decide +kernel
theorem d_Ma_stateOf_58 : decode b_Ma_stateOf 58 = .ok (.ireturn, 1) := by decide +kernel
abbrev ru_Ma_stateOf : Room := { frames := 5, cells := 0, slots := 0, locals := 134 }
def wj_Ma_stateOf_58 (y : Ly) (Post : St → Int32 → Prop) (a0 : Nat) (s_j58 : St) (z0j58 : Int32) : Prop := Post s_j58 z0j58
def wj_Ma_stateOf_57 (y : Ly) (Post : St → Int32 → Prop) (a0 : Nat) (s_j57 : St) : Prop := wj_Ma_stateOf_58 y Post a0 s_j57 1
def wj_Ma_stateOf_37 (y : Ly) (Post : St → Int32 → Prop) (a0 : Nat) (s_j37 : St) (z0j37 : Int32) : Prop := Post s_j37 z0j37
def wu_Ma_stateOf (y : Ly) (Post : St → Int32 → Prop) (σ : St) (a0 : Nat) (v1 : Int32) : Prop := xQ y a0 2 v1 (fun b_1 : Nat => ((¬ (sV σ b_1 3) = 0 → wu_Ru_on y (fun (s_4 : St) (r_3 : Int32) => ((¬ r_3 = 0 → (((sV s_4 b_1 5) = 0 → wj_Ma_stateOf_57 y Post a0 s_4) ∧ (¬ ((sV s_4 b_1 5) = 0) → wu_Ma_plan y (fun (s_6 : St) (r_5 : Int32) => ((¬ r_5 = 0 → wj_Ma_stateOf_57 y Post a0 s_6) ∧ (r_5 = 0 → wj_Ma_stateOf_58 y Post a0 s_6 4))) s_4 a0 v1))) ∧ (r_3 = 0 → ((¬ (sV s_4 b_1 3) = 2 → wj_Ma_stateOf_37 y Post a0 s_4 2) ∧ ((sV s_4 b_1 3) = 2 → wj_Ma_stateOf_37 y Post a0 s_4 0))))) σ b_1) ∧ ((sV σ b_1 3) = 0 → Post σ (-2))))
set_option maxHeartbeats 4000000 in
set_option maxRecDepth 100000 in
theorem cu_Ma_stateOf (l : Launch) (D : va_G) (g : Nat → ClassId) (ad : Nat → Nat) (y : Ly) (Post : St → Int32 → Prop) (σ : St) (a0 : Nat) (v1 : Int32) (sz : Nat) (h_a0 : cl a0 = 4) (h : wu_Ma_stateOf y Post σ a0 v1) : Met l y_Ma_stateOf (mw y_Ma_stateOf b_Ma_stateOf 3 (some .int)) ru_Ma_stateOf (PC g D [] [.ref (ad a0), .int v1] sz (ws g ad y σ)) (va_Qi (fun (r : Int32) (u : St) => Post u r) (QW D (va_A (ws g ad y σ) sz) (fun u => ws g ad y u)) (va_A (ws g ad y σ) sz)) 0 0 (va_A (ws g ad y σ) sz) := by
  refine ofI (by decide +kernel) (Nat.le_of_ble_eq_true rfl) ?_
  intro p e s m args below meth c A Q ls H locs G hsz hP hD hS hl hret
  subst hsz
  have hl : lv_has ls 3 [(0, .ref (ad a0)), (1, .int v1)] := hl
  unfold wu_Ma_stateOf at h
  refine lv_aload_n G.1 G.2.1 d_Ma_stateOf_0 rfl (lv_at hl 0 rfl) ?_
  refine ugf (v := .ref (yP y a0 2)) G hP h_a0 iMa rfl 2 (by decide) rfl q1069 rfl rfl d_Ma_stateOf_1 ?_
  refine lv_iload_n G.1 G.2.1 d_Ma_stateOf_4 rfl (lv_at hl 1 rfl) ?_
  refine uqald G hP (kdp h_a0 rfl) (typ h_a0 rfl) rfl h d_Ma_stateOf_5 (fun b_1 n_2 h => ?_)
  refine lv_astore_n (lv' := [(2, .ref (ad b_1)), (0, .ref (ad a0)), (1, .int v1)]) G.1 G.2.1 d_Ma_stateOf_6 rfl hl (by decide) rfl (fun ls hl => ?_)
  refine lv_aload_n G.1 G.2.1 d_Ma_stateOf_7 rfl (lv_at hl 0 rfl) ?_
  refine ugf (v := .int (sV σ b_1 3)) G hP (oa_4 h_a0 n_2) iRu rfl 3 (by decide) rfl q986 rfl rfl d_Ma_stateOf_8 ?_
  refine lv_if_ne (tgt := 17) G.1 G.2.1 d_Ma_stateOf_11 (by decide) (fun c11 => ?_) (fun c11 => ?_)
  · skip
    have h := h.1 c11
    refine lv_aload_n G.1 G.2.1 d_Ma_stateOf_17 rfl (lv_at hl 0 rfl) ?_
    refine ucVi (As := []) (rest := []) G hP hD hS (cu_Ru_on l D g ad y _ σ b_1 H.size (oa_4 h_a0 n_2) h) w9_Ru_on q1769 ⟨Nat.le_of_ble_eq_true rfl, Nat.le_of_ble_eq_true rfl⟩ rfl rfl (oa_4 h_a0 n_2) (q := (RRu, TRu, 19)) rfl rfl hl.1 rfl (Nat.le_of_ble_eq_true rfl) rfl ⟨Nat.le_refl _, Nat.le_refl _⟩ d_Ma_stateOf_18 (fun r_3 s_4 H locs h hP hD hS => ?_)
    refine lv_if_ne (tgt := 38) G.1 G.2.1 d_Ma_stateOf_21 (by decide) (fun c21 => ?_) (fun c21 => ?_)
    · skip
      have h := h.1 c21
      refine W.eq (g2 := F0 m 38 ls []) rfl ?_
      refine lv_aload_n G.1 G.2.1 d_Ma_stateOf_38 rfl (lv_at hl 0 rfl) ?_
      refine ugf (v := .int (sV s_4 b_1 5)) G hP (oa_4 h_a0 n_2) iRu rfl 5 (by decide) rfl q992 rfl rfl d_Ma_stateOf_39 ?_
      have J_58 : ∀ (s_j58 : St) (z0j58 : Int32) (H : Heap) (locs : List Loc), wj_Ma_stateOf_58 y Post a0 s_j58 z0j58 → va_P D CL (ws g ad y s_j58) H → va_D A (ws g ad y s_j58) → va_S A s.heap H locs → ∀ ls, lv_has ls 3 [] → W p l e ru_Ma_stateOf s m args below meth c H locs 0 0 Q (F0 m 58 ls [.int z0j58]) := by
        intro s_j58 z0j58 H locs h hP hD hS ls hl
        unfold wj_Ma_stateOf_58 at h
        exact hret _ _ _ _ _ _ _ ls h hP hD hS (Nat.le_refl _) (Nat.le_refl _) d_Ma_stateOf_58
      have J_57 : ∀ (s_j57 : St) (H : Heap) (locs : List Loc), wj_Ma_stateOf_57 y Post a0 s_j57 → va_P D CL (ws g ad y s_j57) H → va_D A (ws g ad y s_j57) → va_S A s.heap H locs → ∀ ls, lv_has ls 3 [] → W p l e ru_Ma_stateOf s m args below meth c H locs 0 0 Q (F0 m 57 ls []) := by
        intro s_j57 H locs h hP hD hS ls hl
        unfold wj_Ma_stateOf_57 at h
        refine lv_iconst (v := 1) G.1 G.2.1 d_Ma_stateOf_57 (by decide) ?_
        exact J_58 s_j57 1 H locs h hP hD hS ls (lv_sub hl [] rfl)
      refine lv_if_eq (tgt := 57) G.1 G.2.1 d_Ma_stateOf_42 (by decide) (fun c42 => ?_) (fun c42 => ?_)
      · skip
        have h := h.1 c42
        exact J_57 s_4 H locs h hP hD hS ls (lv_sub hl [] rfl)
      · skip
        have h := h.2 c42
        refine lv_aload_n G.1 G.2.1 d_Ma_stateOf_45 rfl (lv_at hl 1 rfl) ?_
        refine lv_iload_n G.1 G.2.1 d_Ma_stateOf_46 rfl (lv_at hl 2 rfl) ?_
        refine ucVi (As := [.int v1]) (rest := []) G hP hD hS (cu_Ma_plan l D g ad y _ s_4 a0 v1 H.size h_a0 h) w9_Ma_plan q1789 ⟨Nat.le_of_ble_eq_true rfl, Nat.le_of_ble_eq_true rfl⟩ rfl rfl h_a0 (q := (RMa, TMa, 19)) rfl rfl hl.1 rfl (Nat.le_of_ble_eq_true rfl) rfl ⟨Nat.le_refl _, Nat.le_refl _⟩ d_Ma_stateOf_47 (fun r_5 s_6 H locs h hP hD hS => ?_)
        refine lv_if_ne (tgt := 57) G.1 G.2.1 d_Ma_stateOf_50 (by decide) (fun c50 => ?_) (fun c50 => ?_)
        · skip
          have h := h.1 c50
          exact J_57 s_6 H locs h hP hD hS ls (lv_sub hl [] rfl)
        · skip
          have h := h.2 c50
          refine lv_iconst (v := 4) G.1 G.2.1 d_Ma_stateOf_53 (by decide) ?_
          refine lv_goto (tgt := 58) G.1 G.2.1 d_Ma_stateOf_54 (by decide) ?_
          exact J_58 s_6 4 H locs h hP hD hS ls (lv_sub hl [] rfl)
    · skip
      have h := h.2 c21
      refine W.eq (g2 := F0 m 24 ls []) rfl ?_
      refine lv_aload_n G.1 G.2.1 d_Ma_stateOf_24 rfl (lv_at hl 0 rfl) ?_
      refine ugf (v := .int (sV s_4 b_1 3)) G hP (oa_4 h_a0 n_2) iRu rfl 3 (by decide) rfl q986 rfl rfl d_Ma_stateOf_25 ?_
      refine lv_iconst (v := 2) G.1 G.2.1 d_Ma_stateOf_28 (by decide) ?_
      have J_37 : ∀ (s_j37 : St) (z0j37 : Int32) (H : Heap) (locs : List Loc), wj_Ma_stateOf_37 y Post a0 s_j37 z0j37 → va_P D CL (ws g ad y s_j37) H → va_D A (ws g ad y s_j37) → va_S A s.heap H locs → ∀ ls, lv_has ls 3 [] → W p l e ru_Ma_stateOf s m args below meth c H locs 0 0 Q (F0 m 37 ls [.int z0j37]) := by
        intro s_j37 z0j37 H locs h hP hD hS ls hl
        unfold wj_Ma_stateOf_37 at h
        exact hret _ _ _ _ _ _ _ ls h hP hD hS (Nat.le_refl _) (Nat.le_refl _) d_Ma_stateOf_37
      refine lv_icmp_ne (tgt := 36) G.1 G.2.1 d_Ma_stateOf_29 (by decide) (fun c29 => ?_) (fun c29 => ?_)
      · skip
        have h := h.1 c29
        refine lv_iconst (v := 2) G.1 G.2.1 d_Ma_stateOf_36 (by decide) ?_
        exact J_37 s_4 2 H locs h hP hD hS ls (lv_sub hl [] rfl)
      · skip
        have h := h.2 c29
        refine lv_iconst (v := 0) G.1 G.2.1 d_Ma_stateOf_32 (by decide) ?_
        refine lv_goto (tgt := 37) G.1 G.2.1 d_Ma_stateOf_33 (by decide) ?_
        exact J_37 s_4 0 H locs h hP hD hS ls (lv_sub hl [] rfl)
  · skip
    have h := h.2 c11
    refine lv_bipush (v := (-2)) G.1 G.2.1 d_Ma_stateOf_14 (by decide) ?_
    exact hret _ _ _ _ _ _ _ ls h hP hD hS (Nat.le_refl _) (Nat.le_refl _) d_Ma_stateOf_16
def y_Cw_ofThread : MethodName := ⟨"ClassWorks", "ofThread", "(LClassWorks$Runner;I)I"⟩
abbrev b_Cw_ofThread : ByteArray := prog_1_method_26_code
theorem q1007 : Cond.fieldLink "ClassWorks" 274 "ClassWorks$Runner" "frames" "I" ∈ lw_ok := lw_okmem (List.mem_of_getElem? (i := 1007) (by decide +kernel)) rfl
theorem q990 : Cond.fieldLink "ClassWorks" 277 "ClassWorks$Runner" "steps" "I" ∈ lw_ok := lw_okmem (List.mem_of_getElem? (i := 990) (by decide +kernel)) rfl
theorem q994 : Cond.fieldLink "ClassWorks" 280 "ClassWorks$Runner" "endKind" "I" ∈ lw_ok := lw_okmem (List.mem_of_getElem? (i := 994) (by decide +kernel)) rfl
theorem q997 : Cond.fieldLink "ClassWorks" 283 "ClassWorks$Runner" "endNumber" "I" ∈ lw_ok := lw_okmem (List.mem_of_getElem? (i := 997) (by decide +kernel)) rfl
theorem q1001 : Cond.fieldLink "ClassWorks" 286 "ClassWorks$Runner" "endClass" "I" ∈ lw_ok := lw_okmem (List.mem_of_getElem? (i := 1001) (by decide +kernel)) rfl
theorem q1004 : Cond.fieldLink "ClassWorks" 289 "ClassWorks$Runner" "endRule" "I" ∈ lw_ok := lw_okmem (List.mem_of_getElem? (i := 1004) (by decide +kernel)) rfl
theorem q1010 : Cond.fieldLink "ClassWorks" 292 "ClassWorks$Runner" "classOf" "[I" ∈ lw_ok := lw_okmem (List.mem_of_getElem? (i := 1010) (by decide +kernel)) rfl
theorem q1013 : Cond.fieldLink "ClassWorks" 295 "ClassWorks$Runner" "methodOf" "[I" ∈ lw_ok := lw_okmem (List.mem_of_getElem? (i := 1013) (by decide +kernel)) rfl
theorem q1016 : Cond.fieldLink "ClassWorks" 298 "ClassWorks$Runner" "at" "[I" ∈ lw_ok := lw_okmem (List.mem_of_getElem? (i := 1016) (by decide +kernel)) rfl
theorem d_Cw_ofThread_0 : decode b_Cw_ofThread 0 = .ok (.aload_n 1, 1) := by decide +kernel
theorem d_Cw_ofThread_1 : decode b_Cw_ofThread 1 = .ok (.getfield 274, 3) := by decide +kernel
theorem d_Cw_ofThread_4 : decode b_Cw_ofThread 4 = .ok (.iconst 1, 1) := by decide +kernel
theorem d_Cw_ofThread_5 : decode b_Cw_ofThread 5 = .ok (.isub, 1) := by decide +kernel
theorem d_Cw_ofThread_6 : decode b_Cw_ofThread 6 = .ok (.istore_n 3, 1) := by decide +kernel
theorem d_Cw_ofThread_7 : decode b_Cw_ofThread 7 = .ok (.iload_n 2, 1) := by decide +kernel
theorem d_Cw_ofThread_8 : decode b_Cw_ofThread 8 = .ok (.tableswitch 110 1 8 #[48, 53, 58, 63, 68, 73, 78, 94], 48) := by decide +kernel
theorem d_Cw_ofThread_56 : decode b_Cw_ofThread 56 = .ok (.aload_n 1, 1) := by decide +kernel
theorem d_Cw_ofThread_57 : decode b_Cw_ofThread 57 = .ok (.getfield 277, 3) := by decide +kernel
theorem d_Cw_ofThread_60 : decode b_Cw_ofThread 60 = .ok (.ireturn, 1) := by decide +kernel
theorem d_Cw_ofThread_61 : decode b_Cw_ofThread 61 = .ok (.aload_n 1, 1) := by decide +kernel
theorem d_Cw_ofThread_62 : decode b_Cw_ofThread 62 = .ok (.getfield 280, 3) := by decide +kernel
theorem d_Cw_ofThread_65 : decode b_Cw_ofThread 65 = .ok (.ireturn, 1) := by decide +kernel
theorem d_Cw_ofThread_66 : decode b_Cw_ofThread 66 = .ok (.aload_n 1, 1) := by decide +kernel
theorem d_Cw_ofThread_67 : decode b_Cw_ofThread 67 = .ok (.getfield 283, 3) := by decide +kernel
theorem d_Cw_ofThread_70 : decode b_Cw_ofThread 70 = .ok (.ireturn, 1) := by decide +kernel
theorem d_Cw_ofThread_71 : decode b_Cw_ofThread 71 = .ok (.aload_n 1, 1) := by decide +kernel
theorem d_Cw_ofThread_72 : decode b_Cw_ofThread 72 = .ok (.getfield 286, 3) := by decide +kernel
theorem d_Cw_ofThread_75 : decode b_Cw_ofThread 75 = .ok (.ireturn, 1) := by decide +kernel
theorem d_Cw_ofThread_76 : decode b_Cw_ofThread 76 = .ok (.aload_n 1, 1) := by decide +kernel
theorem d_Cw_ofThread_77 : decode b_Cw_ofThread 77 = .ok (.getfield 289, 3) := by decide +kernel
theorem d_Cw_ofThread_80 : decode b_Cw_ofThread 80 = .ok (.ireturn, 1) := by decide +kernel
theorem d_Cw_ofThread_81 : decode b_Cw_ofThread 81 = .ok (.aload_n 1, 1) := by decide +kernel
theorem d_Cw_ofThread_82 : decode b_Cw_ofThread 82 = .ok (.getfield 274, 3) := by decide +kernel
theorem d_Cw_ofThread_85 : decode b_Cw_ofThread 85 = .ok (.ireturn, 1) := by decide +kernel
theorem d_Cw_ofThread_86 : decode b_Cw_ofThread 86 = .ok (.iload_n 3, 1) := by decide +kernel
theorem d_Cw_ofThread_87 : decode b_Cw_ofThread 87 = .ok (.ifCond .ge 8, 3) := by decide +kernel
theorem d_Cw_ofThread_90 : decode b_Cw_ofThread 90 = .ok (.bipush (-2), 2) := by decide +kernel
theorem d_Cw_ofThread_92 : decode b_Cw_ofThread 92 = .ok (.goto 9, 3) := by decide +kernel
theorem d_Cw_ofThread_95 : decode b_Cw_ofThread 95 = .ok (.aload_n 1, 1) := by decide +kernel
theorem d_Cw_ofThread_96 : decode b_Cw_ofThread 96 = .ok (.getfield 292, 3) := by decide +kernel
theorem d_Cw_ofThread_99 : decode b_Cw_ofThread 99 = .ok (.iload_n 3, 1) := by decide +kernel
theorem d_Cw_ofThread_100 : decode b_Cw_ofThread 100 = .ok (.iaload, 1) := by decide +kernel
theorem d_Cw_ofThread_101 : decode b_Cw_ofThread 101 = .ok (.ireturn, 1) := by decide +kernel
theorem d_Cw_ofThread_102 : decode b_Cw_ofThread 102 = .ok (.iload_n 3, 1) := by decide +kernel
theorem d_Cw_ofThread_103 : decode b_Cw_ofThread 103 = .ok (.ifCond .ge 8, 3) := by decide +kernel
theorem d_Cw_ofThread_106 : decode b_Cw_ofThread 106 = .ok (.bipush (-2), 2) := by decide +kernel
theorem d_Cw_ofThread_108 : decode b_Cw_ofThread 108 = .ok (.goto 9, 3) := by decide +kernel
theorem d_Cw_ofThread_111 : decode b_Cw_ofThread 111 = .ok (.aload_n 1, 1) := by decide +kernel
theorem d_Cw_ofThread_112 : decode b_Cw_ofThread 112 = .ok (.getfield 295, 3) := by decide +kernel
theorem d_Cw_ofThread_115 : decode b_Cw_ofThread 115 = .ok (.iload_n 3, 1) := by decide +kernel
theorem d_Cw_ofThread_116 : decode b_Cw_ofThread 116 = .ok (.iaload, 1) := by decide +kernel
theorem d_Cw_ofThread_117 : decode b_Cw_ofThread 117 = .ok (.ireturn, 1) := by decide +kernel
theorem d_Cw_ofThread_118 : decode b_Cw_ofThread 118 = .ok (.iload_n 3, 1) := by decide +kernel
theorem d_Cw_ofThread_119 : decode b_Cw_ofThread 119 = .ok (.ifCond .ge 8, 3) := by decide +kernel
theorem d_Cw_ofThread_122 : decode b_Cw_ofThread 122 = .ok (.bipush (-2), 2) := by decide +kernel
theorem d_Cw_ofThread_124 : decode b_Cw_ofThread 124 = .ok (.goto 9, 3) := by decide +kernel
theorem d_Cw_ofThread_127 : decode b_Cw_ofThread 127 = .ok (.aload_n 1, 1) := by decide +kernel
theorem d_Cw_ofThread_128 : decode b_Cw_ofThread 128 = .ok (.getfield 298, 3) := by decide +kernel
theorem d_Cw_ofThread_131 : decode b_Cw_ofThread 131 = .ok (.iload_n 3, 1) := by decide +kernel
theorem d_Cw_ofThread_132 : decode b_Cw_ofThread 132 = .ok (.iaload, 1) := by decide +kernel
theorem d_Cw_ofThread_133 : decode b_Cw_ofThread 133 = .ok (.ireturn, 1) := by decide +kernel
abbrev ru_Cw_ofThread : Room := { frames := 0, cells := 0, slots := 0, locals := 0 }
def wj_Cw_ofThread_101 (y : Ly) (Post : St → Int32 → Prop) (a0 : Nat) (a1 : Nat) (s_j101 : St) (z0j101 : Int32) : Prop := Post s_j101 z0j101
def wj_Cw_ofThread_117 (y : Ly) (Post : St → Int32 → Prop) (a0 : Nat) (a1 : Nat) (s_j117 : St) (z0j117 : Int32) : Prop := Post s_j117 z0j117
def wj_Cw_ofThread_133 (y : Ly) (Post : St → Int32 → Prop) (a0 : Nat) (a1 : Nat) (s_j133 : St) (z0j133 : Int32) : Prop := Post s_j133 z0j133
def wu_Cw_ofThread (y : Ly) (Post : St → Int32 → Prop) (σ : St) (a0 : Nat) (a1 : Nat) (v2 : Int32) : Prop := ((v2 = 1 → Post σ (sV σ a1 4)) ∧ (¬ (v2 = 1) → ((v2 = 2 → Post σ (sV σ a1 6)) ∧ (¬ (v2 = 2) → ((v2 = 3 → Post σ (sV σ a1 7)) ∧ (¬ (v2 = 3) → ((v2 = 4 → Post σ (sV σ a1 8)) ∧ (¬ (v2 = 4) → ((v2 = 5 → Post σ (sV σ a1 9)) ∧ (¬ (v2 = 5) → ((v2 = 6 → Post σ (sV σ a1 10)) ∧ (¬ (v2 = 6) → ((v2 = 7 → ((0 ≤ ((sV σ a1 10) - 1) → xA y σ a1 11 ((sV σ a1 10) - 1) (fun x_1 : Int32 => wj_Cw_ofThread_101 y Post a0 a1 σ x_1)) ∧ (¬ (0 ≤ ((sV σ a1 10) - 1)) → wj_Cw_ofThread_101 y Post a0 a1 σ (-2)))) ∧ (¬ (v2 = 7) → ((v2 = 8 → ((0 ≤ ((sV σ a1 10) - 1) → xA y σ a1 12 ((sV σ a1 10) - 1) (fun x_2 : Int32 => wj_Cw_ofThread_117 y Post a0 a1 σ x_2)) ∧ (¬ (0 ≤ ((sV σ a1 10) - 1)) → wj_Cw_ofThread_117 y Post a0 a1 σ (-2)))) ∧ (¬ (v2 = 8) → ((0 ≤ ((sV σ a1 10) - 1) → xA y σ a1 13 ((sV σ a1 10) - 1) (fun x_3 : Int32 => wj_Cw_ofThread_133 y Post a0 a1 σ x_3)) ∧ (¬ (0 ≤ ((sV σ a1 10) - 1)) → wj_Cw_ofThread_133 y Post a0 a1 σ (-2)))))))))))))))))))
set_option maxHeartbeats 4000000 in
set_option maxRecDepth 100000 in
theorem cu_Cw_ofThread (l : Launch) (D : va_G) (g : Nat → ClassId) (ad : Nat → Nat) (y : Ly) (Post : St → Int32 → Prop) (σ : St) (a0 : Nat) (a1 : Nat) (v2 : Int32) (sz : Nat) (h_a0 : cl a0 = 11) (h_a1 : cl a1 = 7) (h : wu_Cw_ofThread y Post σ a0 a1 v2) : Met l y_Cw_ofThread (mw y_Cw_ofThread b_Cw_ofThread 4 (some .int)) ru_Cw_ofThread (PC g D [] [.ref (ad a0), .ref (ad a1), .int v2] sz (ws g ad y σ)) (va_Qi (fun (r : Int32) (u : St) => Post u r) (QW D (va_A (ws g ad y σ) sz) (fun u => ws g ad y u)) (va_A (ws g ad y σ) sz)) 0 0 (va_A (ws g ad y σ) sz) := by
  refine ofI (by decide +kernel) (Nat.le_of_ble_eq_true rfl) ?_
  intro p e s m args below meth c A Q ls H locs G hsz hP hD hS hl hret
  subst hsz
  have hl : lv_has ls 4 [(0, .ref (ad a0)), (1, .ref (ad a1)), (2, .int v2)] := hl
  unfold wu_Cw_ofThread at h
  refine lv_aload_n G.1 G.2.1 d_Cw_ofThread_0 rfl (lv_at hl 1 rfl) ?_
  refine ugf (v := .int (sV σ a1 10)) G hP h_a1 iRu rfl 10 (by decide) rfl q1007 rfl rfl d_Cw_ofThread_1 ?_
  refine lv_iconst (v := 1) G.1 G.2.1 d_Cw_ofThread_4 (by decide) ?_
  refine lv_isub G.1 G.2.1 d_Cw_ofThread_5 ?_
  refine lv_istore_n (lv' := [(3, .int ((sV σ a1 10) - 1)), (0, .ref (ad a0)), (1, .ref (ad a1)), (2, .int v2)]) G.1 G.2.1 d_Cw_ofThread_6 rfl hl (by decide) rfl (fun ls hl => ?_)
  refine lv_iload_n G.1 G.2.1 d_Cw_ofThread_7 rfl (lv_at hl 3 rfl) ?_
  by_cases e8_1 : v2 = 1
  · skip
    have h := h.1 e8_1
    refine lv_tableIn (off := 48) (tgt := 56) G.1 G.2.1 d_Cw_ofThread_8 (by rw [e8_1]; decide) (by rw [e8_1]; decide) (by rw [e8_1]; rfl) (by decide) ?_
    refine lv_aload_n G.1 G.2.1 d_Cw_ofThread_56 rfl (lv_at hl 2 rfl) ?_
    refine ugf (v := .int (sV σ a1 4)) G hP h_a1 iRu rfl 4 (by decide) rfl q990 rfl rfl d_Cw_ofThread_57 ?_
    exact hret _ _ _ _ _ _ _ ls h hP hD hS (Nat.le_refl _) (Nat.le_refl _) d_Cw_ofThread_60
  replace h := h.2 e8_1
  by_cases e8_2 : v2 = 2
  · skip
    have h := h.1 e8_2
    refine lv_tableIn (off := 53) (tgt := 61) G.1 G.2.1 d_Cw_ofThread_8 (by rw [e8_2]; decide) (by rw [e8_2]; decide) (by rw [e8_2]; rfl) (by decide) ?_
    refine lv_aload_n G.1 G.2.1 d_Cw_ofThread_61 rfl (lv_at hl 2 rfl) ?_
    refine ugf (v := .int (sV σ a1 6)) G hP h_a1 iRu rfl 6 (by decide) rfl q994 rfl rfl d_Cw_ofThread_62 ?_
    exact hret _ _ _ _ _ _ _ ls h hP hD hS (Nat.le_refl _) (Nat.le_refl _) d_Cw_ofThread_65
  replace h := h.2 e8_2
  by_cases e8_3 : v2 = 3
  · skip
    have h := h.1 e8_3
    refine lv_tableIn (off := 58) (tgt := 66) G.1 G.2.1 d_Cw_ofThread_8 (by rw [e8_3]; decide) (by rw [e8_3]; decide) (by rw [e8_3]; rfl) (by decide) ?_
    refine lv_aload_n G.1 G.2.1 d_Cw_ofThread_66 rfl (lv_at hl 2 rfl) ?_
    refine ugf (v := .int (sV σ a1 7)) G hP h_a1 iRu rfl 7 (by decide) rfl q997 rfl rfl d_Cw_ofThread_67 ?_
    exact hret _ _ _ _ _ _ _ ls h hP hD hS (Nat.le_refl _) (Nat.le_refl _) d_Cw_ofThread_70
  replace h := h.2 e8_3
  by_cases e8_4 : v2 = 4
  · skip
    have h := h.1 e8_4
    refine lv_tableIn (off := 63) (tgt := 71) G.1 G.2.1 d_Cw_ofThread_8 (by rw [e8_4]; decide) (by rw [e8_4]; decide) (by rw [e8_4]; rfl) (by decide) ?_
    refine lv_aload_n G.1 G.2.1 d_Cw_ofThread_71 rfl (lv_at hl 2 rfl) ?_
    refine ugf (v := .int (sV σ a1 8)) G hP h_a1 iRu rfl 8 (by decide) rfl q1001 rfl rfl d_Cw_ofThread_72 ?_
    exact hret _ _ _ _ _ _ _ ls h hP hD hS (Nat.le_refl _) (Nat.le_refl _) d_Cw_ofThread_75
  replace h := h.2 e8_4
  by_cases e8_5 : v2 = 5
  · skip
    have h := h.1 e8_5
    refine lv_tableIn (off := 68) (tgt := 76) G.1 G.2.1 d_Cw_ofThread_8 (by rw [e8_5]; decide) (by rw [e8_5]; decide) (by rw [e8_5]; rfl) (by decide) ?_
    refine lv_aload_n G.1 G.2.1 d_Cw_ofThread_76 rfl (lv_at hl 2 rfl) ?_
    refine ugf (v := .int (sV σ a1 9)) G hP h_a1 iRu rfl 9 (by decide) rfl q1004 rfl rfl d_Cw_ofThread_77 ?_
    exact hret _ _ _ _ _ _ _ ls h hP hD hS (Nat.le_refl _) (Nat.le_refl _) d_Cw_ofThread_80
  replace h := h.2 e8_5
  by_cases e8_6 : v2 = 6
  · skip
    have h := h.1 e8_6
    refine lv_tableIn (off := 73) (tgt := 81) G.1 G.2.1 d_Cw_ofThread_8 (by rw [e8_6]; decide) (by rw [e8_6]; decide) (by rw [e8_6]; rfl) (by decide) ?_
    refine lv_aload_n G.1 G.2.1 d_Cw_ofThread_81 rfl (lv_at hl 2 rfl) ?_
    refine ugf (v := .int (sV σ a1 10)) G hP h_a1 iRu rfl 10 (by decide) rfl q1007 rfl rfl d_Cw_ofThread_82 ?_
    exact hret _ _ _ _ _ _ _ ls h hP hD hS (Nat.le_refl _) (Nat.le_refl _) d_Cw_ofThread_85
  replace h := h.2 e8_6
  by_cases e8_7 : v2 = 7
  · skip
    have h := h.1 e8_7
    refine lv_tableIn (off := 78) (tgt := 86) G.1 G.2.1 d_Cw_ofThread_8 (by rw [e8_7]; decide) (by rw [e8_7]; decide) (by rw [e8_7]; rfl) (by decide) ?_
    refine lv_iload_n G.1 G.2.1 d_Cw_ofThread_86 rfl (lv_at hl 0 rfl) ?_
    have J_101 : ∀ (s_j101 : St) (z0j101 : Int32) (H : Heap) (locs : List Loc), wj_Cw_ofThread_101 y Post a0 a1 s_j101 z0j101 → va_P D CL (ws g ad y s_j101) H → va_D A (ws g ad y s_j101) → va_S A s.heap H locs → ∀ ls, lv_has ls 4 [] → W p l e ru_Cw_ofThread s m args below meth c H locs 0 0 Q (F0 m 101 ls [.int z0j101]) := by
      intro s_j101 z0j101 H locs h hP hD hS ls hl
      unfold wj_Cw_ofThread_101 at h
      exact hret _ _ _ _ _ _ _ ls h hP hD hS (Nat.le_refl _) (Nat.le_refl _) d_Cw_ofThread_101
    refine lv_if_ge (tgt := 95) G.1 G.2.1 d_Cw_ofThread_87 (by decide) (fun c87 => ?_) (fun c87 => ?_)
    · skip
      have h := h.1 c87
      refine lv_aload_n G.1 G.2.1 d_Cw_ofThread_95 rfl (lv_at hl 2 rfl) ?_
      refine ugf (v := .ref (yP y a1 11)) G hP h_a1 iRu rfl 11 (by decide) rfl q1010 rfl rfl d_Cw_ofThread_96 ?_
      refine W.eq (g2 := F0 m 99 ls [.ref (yP y a1 11)]) rfl ?_
      refine lv_iload_n G.1 G.2.1 d_Cw_ofThread_99 rfl (lv_at hl 0 rfl) ?_
      refine uiald G hP (kdp h_a1 rfl) (typ h_a1 rfl) h d_Cw_ofThread_100 (fun x_1 h => ?_)
      exact J_101 σ x_1 H locs h hP hD hS ls (lv_sub hl [] rfl)
    · skip
      have h := h.2 c87
      refine lv_bipush (v := (-2)) G.1 G.2.1 d_Cw_ofThread_90 (by decide) ?_
      refine lv_goto (tgt := 101) G.1 G.2.1 d_Cw_ofThread_92 (by decide) ?_
      exact J_101 σ (-2) H locs h hP hD hS ls (lv_sub hl [] rfl)
  replace h := h.2 e8_7
  by_cases e8_8 : v2 = 8
  · skip
    have h := h.1 e8_8
    refine lv_tableIn (off := 94) (tgt := 102) G.1 G.2.1 d_Cw_ofThread_8 (by rw [e8_8]; decide) (by rw [e8_8]; decide) (by rw [e8_8]; rfl) (by decide) ?_
    refine lv_iload_n G.1 G.2.1 d_Cw_ofThread_102 rfl (lv_at hl 0 rfl) ?_
    have J_117 : ∀ (s_j117 : St) (z0j117 : Int32) (H : Heap) (locs : List Loc), wj_Cw_ofThread_117 y Post a0 a1 s_j117 z0j117 → va_P D CL (ws g ad y s_j117) H → va_D A (ws g ad y s_j117) → va_S A s.heap H locs → ∀ ls, lv_has ls 4 [] → W p l e ru_Cw_ofThread s m args below meth c H locs 0 0 Q (F0 m 117 ls [.int z0j117]) := by
      intro s_j117 z0j117 H locs h hP hD hS ls hl
      unfold wj_Cw_ofThread_117 at h
      exact hret _ _ _ _ _ _ _ ls h hP hD hS (Nat.le_refl _) (Nat.le_refl _) d_Cw_ofThread_117
    refine lv_if_ge (tgt := 111) G.1 G.2.1 d_Cw_ofThread_103 (by decide) (fun c103 => ?_) (fun c103 => ?_)
    · skip
      have h := h.1 c103
      refine lv_aload_n G.1 G.2.1 d_Cw_ofThread_111 rfl (lv_at hl 2 rfl) ?_
      refine ugf (v := .ref (yP y a1 12)) G hP h_a1 iRu rfl 12 (by decide) rfl q1013 rfl rfl d_Cw_ofThread_112 ?_
      refine W.eq (g2 := F0 m 115 ls [.ref (yP y a1 12)]) rfl ?_
      refine lv_iload_n G.1 G.2.1 d_Cw_ofThread_115 rfl (lv_at hl 0 rfl) ?_
      refine uiald G hP (kdp h_a1 rfl) (typ h_a1 rfl) h d_Cw_ofThread_116 (fun x_2 h => ?_)
      exact J_117 σ x_2 H locs h hP hD hS ls (lv_sub hl [] rfl)
    · skip
      have h := h.2 c103
      refine lv_bipush (v := (-2)) G.1 G.2.1 d_Cw_ofThread_106 (by decide) ?_
      refine lv_goto (tgt := 117) G.1 G.2.1 d_Cw_ofThread_108 (by decide) ?_
      exact J_117 σ (-2) H locs h hP hD hS ls (lv_sub hl [] rfl)
  replace h := h.2 e8_8
  have te8_1 := lv_neT (a := 1) e8_1 (by decide)
  have te8_2 := lv_neT (a := 2) e8_2 (by decide)
  have te8_3 := lv_neT (a := 3) e8_3 (by decide)
  have te8_4 := lv_neT (a := 4) e8_4 (by decide)
  have te8_5 := lv_neT (a := 5) e8_5 (by decide)
  have te8_6 := lv_neT (a := 6) e8_6 (by decide)
  have te8_7 := lv_neT (a := 7) e8_7 (by decide)
  have te8_8 := lv_neT (a := 8) e8_8 (by decide)
  refine lv_tableOut (tgt := 118) G.1 G.2.1 d_Cw_ofThread_8 (by omega) (by decide) ?_
  refine lv_iload_n G.1 G.2.1 d_Cw_ofThread_118 rfl (lv_at hl 0 rfl) ?_
  have J_133 : ∀ (s_j133 : St) (z0j133 : Int32) (H : Heap) (locs : List Loc), wj_Cw_ofThread_133 y Post a0 a1 s_j133 z0j133 → va_P D CL (ws g ad y s_j133) H → va_D A (ws g ad y s_j133) → va_S A s.heap H locs → ∀ ls, lv_has ls 4 [] → W p l e ru_Cw_ofThread s m args below meth c H locs 0 0 Q (F0 m 133 ls [.int z0j133]) := by
    intro s_j133 z0j133 H locs h hP hD hS ls hl
    unfold wj_Cw_ofThread_133 at h
    exact hret _ _ _ _ _ _ _ ls h hP hD hS (Nat.le_refl _) (Nat.le_refl _) d_Cw_ofThread_133
  refine lv_if_ge (tgt := 127) G.1 G.2.1 d_Cw_ofThread_119 (by decide) (fun c119 => ?_) (fun c119 => ?_)
  · skip
    have h := h.1 c119
    refine lv_aload_n G.1 G.2.1 d_Cw_ofThread_127 rfl (lv_at hl 2 rfl) ?_
    refine ugf (v := .ref (yP y a1 13)) G hP h_a1 iRu rfl 13 (by decide) rfl q1016 rfl rfl d_Cw_ofThread_128 ?_
    refine W.eq (g2 := F0 m 131 ls [.ref (yP y a1 13)]) rfl ?_
    refine lv_iload_n G.1 G.2.1 d_Cw_ofThread_131 rfl (lv_at hl 0 rfl) ?_
    refine uiald G hP (kdp h_a1 rfl) (typ h_a1 rfl) h d_Cw_ofThread_132 (fun x_3 h => ?_)
    exact J_133 σ x_3 H locs h hP hD hS ls (lv_sub hl [] rfl)
  · skip
    have h := h.2 c119
    refine lv_bipush (v := (-2)) G.1 G.2.1 d_Cw_ofThread_122 (by decide) ?_
    refine lv_goto (tgt := 133) G.1 G.2.1 d_Cw_ofThread_124 (by decide) ?_
    exact J_133 σ (-2) H locs h hP hD hS ls (lv_sub hl [] rfl)
theorem q1070 : Cond.fieldLink "ClassWorks" 202 "ClassWorks$Machine" "runs" "[LClassWorks$Runner;" ∈ lw_ok := lw_okmem (List.mem_of_getElem? (i := 1070) (by decide +kernel)) rfl
theorem q2101 : Cond.methodLink "ClassWorks" 252 y_Cw_ofThread ∈ lw_ok := lw_okmem (List.mem_of_getElem? (i := 2101) (by decide +kernel)) rfl
theorem q2104 : Cond.code y_Cw_ofThread b_Cw_ofThread 4 (some .int) ∈ lw_ok := lw_okmem (List.mem_of_getElem? (i := 2104) (by decide +kernel)) rfl
theorem q2103 : Cond.instanceMethod y_Cw_ofThread ∈ lw_ok := lw_okmem (List.mem_of_getElem? (i := 2103) (by decide +kernel)) rfl
theorem q114 : Cond.selects y_Cw_ofThread.cls y_Cw_ofThread y_Cw_ofThread ∈ lw_ok := lw_okmem (List.mem_of_getElem? (i := 114) (by decide +kernel)) rfl
theorem w9_Cw_ofThread : CWv y_Cw_ofThread b_Cw_ofThread 4 (some .int) 2 ∧ Cond.instanceMethod y_Cw_ofThread ∈ lw_ok ∧ Cond.selects y_Cw_ofThread.cls y_Cw_ofThread y_Cw_ofThread ∈ lw_ok := ⟨⟨q2104, q329, by decide +kernel, by decide +kernel, by decide +kernel⟩, q2103, q114⟩
theorem q2097 : Cond.methodLink "ClassWorks" 249 y_Ma_stateOf ∈ lw_ok := lw_okmem (List.mem_of_getElem? (i := 2097) (by decide +kernel)) rfl
theorem q2100 : Cond.code y_Ma_stateOf b_Ma_stateOf 3 (some .int) ∈ lw_ok := lw_okmem (List.mem_of_getElem? (i := 2100) (by decide +kernel)) rfl
theorem q2098 : Cond.instanceMethod y_Ma_stateOf ∈ lw_ok := lw_okmem (List.mem_of_getElem? (i := 2098) (by decide +kernel)) rfl
theorem q2099 : Cond.selects y_Ma_stateOf.cls y_Ma_stateOf y_Ma_stateOf ∈ lw_ok := lw_okmem (List.mem_of_getElem? (i := 2099) (by decide +kernel)) rfl
theorem w9_Ma_stateOf : CWv y_Ma_stateOf b_Ma_stateOf 3 (some .int) 1 ∧ Cond.instanceMethod y_Ma_stateOf ∈ lw_ok ∧ Cond.selects y_Ma_stateOf.cls y_Ma_stateOf y_Ma_stateOf ∈ lw_ok := ⟨⟨q2100, q344, by decide +kernel, by decide +kernel, by decide +kernel⟩, q2098, q2099⟩
theorem q2093 : Cond.methodLink "ClassWorks" 245 y_Cw_ofWorld ∈ lw_ok := lw_okmem (List.mem_of_getElem? (i := 2093) (by decide +kernel)) rfl
theorem q2096 : Cond.code y_Cw_ofWorld b_Cw_ofWorld 3 (some .int) ∈ lw_ok := lw_okmem (List.mem_of_getElem? (i := 2096) (by decide +kernel)) rfl
theorem q2095 : Cond.instanceMethod y_Cw_ofWorld ∈ lw_ok := lw_okmem (List.mem_of_getElem? (i := 2095) (by decide +kernel)) rfl
theorem q113 : Cond.selects y_Cw_ofWorld.cls y_Cw_ofWorld y_Cw_ofWorld ∈ lw_ok := lw_okmem (List.mem_of_getElem? (i := 113) (by decide +kernel)) rfl
theorem w9_Cw_ofWorld : CWv y_Cw_ofWorld b_Cw_ofWorld 3 (some .int) 2 ∧ Cond.instanceMethod y_Cw_ofWorld ∈ lw_ok ∧ Cond.selects y_Cw_ofWorld.cls y_Cw_ofWorld y_Cw_ofWorld ∈ lw_ok := ⟨⟨q2096, q329, by decide +kernel, by decide +kernel, by decide +kernel⟩, q2095, q113⟩
def y_Cw_run : MethodName := ⟨"ClassWorks", "run", "(III)I"⟩
abbrev b_Cw_run : ByteArray := prog_1_method_24_code
theorem d_Cw_run_0 : decode b_Cw_run 0 = .ok (.aload_n 0, 1) := by decide +kernel
theorem d_Cw_run_1 : decode b_Cw_run 1 = .ok (.iload_n 1, 1) := by decide +kernel
theorem d_Cw_run_2 : decode b_Cw_run 2 = .ok (.invokevirtual 129, 3) := by decide +kernel
theorem d_Cw_run_5 : decode b_Cw_run 5 = .ok (.astore 4, 2) := by decide +kernel
theorem d_Cw_run_7 : decode b_Cw_run 7 = .ok (.aload 4, 2) := by decide +kernel
theorem d_Cw_run_9 : decode b_Cw_run 9 = .ok (.ifnull 22, 3) := by decide +kernel
theorem d_Cw_run_12 : decode b_Cw_run 12 = .ok (.iload_n 2, 1) := by decide +kernel
theorem d_Cw_run_13 : decode b_Cw_run 13 = .ok (.ifCond .lt 18, 3) := by decide +kernel
theorem d_Cw_run_16 : decode b_Cw_run 16 = .ok (.iload_n 2, 1) := by decide +kernel
theorem d_Cw_run_17 : decode b_Cw_run 17 = .ok (.iconst 3, 1) := by decide +kernel
theorem d_Cw_run_18 : decode b_Cw_run 18 = .ok (.if_icmp .ge 13, 3) := by decide +kernel
theorem d_Cw_run_21 : decode b_Cw_run 21 = .ok (.iload_n 3, 1) := by decide +kernel
theorem d_Cw_run_22 : decode b_Cw_run 22 = .ok (.ifCond .lt 9, 3) := by decide +kernel
theorem d_Cw_run_25 : decode b_Cw_run 25 = .ok (.iload_n 3, 1) := by decide +kernel
theorem d_Cw_run_26 : decode b_Cw_run 26 = .ok (.bipush 13, 2) := by decide +kernel
theorem d_Cw_run_28 : decode b_Cw_run 28 = .ok (.if_icmp .le 5, 3) := by decide +kernel
theorem d_Cw_run_31 : decode b_Cw_run 31 = .ok (.iconst (-1), 1) := by decide +kernel
theorem d_Cw_run_32 : decode b_Cw_run 32 = .ok (.ireturn, 1) := by decide +kernel
theorem d_Cw_run_33 : decode b_Cw_run 33 = .ok (.iload_n 3, 1) := by decide +kernel
theorem d_Cw_run_34 : decode b_Cw_run 34 = .ok (.bipush 10, 2) := by decide +kernel
theorem d_Cw_run_36 : decode b_Cw_run 36 = .ok (.if_icmp .lt 11, 3) := by decide +kernel
theorem d_Cw_run_39 : decode b_Cw_run 39 = .ok (.aload_n 0, 1) := by decide +kernel
theorem d_Cw_run_40 : decode b_Cw_run 40 = .ok (.aload 4, 2) := by decide +kernel
theorem d_Cw_run_42 : decode b_Cw_run 42 = .ok (.iload_n 3, 1) := by decide +kernel
theorem d_Cw_run_43 : decode b_Cw_run 43 = .ok (.invokevirtual 245, 3) := by decide +kernel
theorem d_Cw_run_46 : decode b_Cw_run 46 = .ok (.ireturn, 1) := by decide +kernel
theorem d_Cw_run_47 : decode b_Cw_run 47 = .ok (.iload_n 3, 1) := by decide +kernel
theorem d_Cw_run_48 : decode b_Cw_run 48 = .ok (.ifCond .ne 12, 3) := by decide +kernel
theorem d_Cw_run_51 : decode b_Cw_run 51 = .ok (.aload 4, 2) := by decide +kernel
theorem d_Cw_run_53 : decode b_Cw_run 53 = .ok (.iload_n 2, 1) := by decide +kernel
theorem d_Cw_run_54 : decode b_Cw_run 54 = .ok (.invokevirtual 249, 3) := by decide +kernel
theorem d_Cw_run_57 : decode b_Cw_run 57 = .ok (.goto 15, 3) := by decide +kernel
theorem d_Cw_run_60 : decode b_Cw_run 60 = .ok (.aload_n 0, 1) := by decide +kernel
theorem d_Cw_run_61 : decode b_Cw_run 61 = .ok (.aload 4, 2) := by decide +kernel
theorem d_Cw_run_63 : decode b_Cw_run 63 = .ok (.getfield 202, 3) := by decide +kernel
theorem d_Cw_run_66 : decode b_Cw_run 66 = .ok (.iload_n 2, 1) := by decide +kernel
theorem d_Cw_run_67 : decode b_Cw_run 67 = .ok (.aaload, 1) := by decide +kernel
theorem d_Cw_run_68 : decode b_Cw_run 68 = .ok (.iload_n 3, 1) := by decide +kernel
theorem d_Cw_run_69 : decode b_Cw_run 69 = .ok (.invokevirtual 252, 3) := by decide +kernel
theorem d_Cw_run_72 : decode b_Cw_run 72 = .ok (.ireturn, 1) := by decide +kernel
abbrev ru_Cw_run : Room := { frames := 6, cells := 0, slots := 0, locals := 156 }
def wj_Cw_run_31 (y : Ly) (Post : St → Int32 → Prop) (a0 : Nat) (s_j31 : St) : Prop := Post s_j31 (-1)
def wj_Cw_run_72 (y : Ly) (Post : St → Int32 → Prop) (a0 : Nat) (s_j72 : St) (z0j72 : Int32) : Prop := Post s_j72 z0j72
def wu_Cw_run (y : Ly) (Post : St → Int32 → Prop) (σ : St) (a0 : Nat) (v1 : Int32) (v2 : Int32) (v3 : Int32) : Prop := wu_Cw_machine y (fun (s_2 : St) (r_1 : Option Nat) => ((r_1 = none → wj_Cw_run_31 y Post a0 s_2) ∧ (∀ r_1b : Nat, r_1 = some r_1b → (cl r_1b = 4 ∧ ((v2 < 0 → wj_Cw_run_31 y Post a0 s_2) ∧ (¬ (v2 < 0) → ((3 ≤ v2 → wj_Cw_run_31 y Post a0 s_2) ∧ (¬ (3 ≤ v2) → ((v3 < 0 → wj_Cw_run_31 y Post a0 s_2) ∧ (¬ (v3 < 0) → ((v3 ≤ 13 → ((v3 < 10 → ((¬ v3 = 0 → xQ y r_1b 2 v2 (fun b_3 : Nat => wu_Cw_ofThread y (fun (s_6 : St) (r_5 : Int32) => wj_Cw_run_72 y Post a0 s_6 r_5) s_2 a0 b_3 v3)) ∧ (v3 = 0 → wu_Ma_stateOf y (fun (s_8 : St) (r_7 : Int32) => wj_Cw_run_72 y Post a0 s_8 r_7) s_2 r_1b v2))) ∧ (¬ (v3 < 10) → wu_Cw_ofWorld y (fun (s_10 : St) (r_9 : Int32) => Post s_10 r_9) s_2 a0 r_1b v3))) ∧ (¬ (v3 ≤ 13) → wj_Cw_run_31 y Post a0 s_2)))))))))))) σ a0 v1
set_option maxHeartbeats 4000000 in
set_option maxRecDepth 100000 in
theorem cu_Cw_run (l : Launch) (D : va_G) (g : Nat → ClassId) (ad : Nat → Nat) (y : Ly) (Post : St → Int32 → Prop) (σ : St) (a0 : Nat) (v1 : Int32) (v2 : Int32) (v3 : Int32) (sz : Nat) (h_a0 : cl a0 = 11) (h : wu_Cw_run y Post σ a0 v1 v2 v3) : Met l y_Cw_run (mw y_Cw_run b_Cw_run 5 (some .int)) ru_Cw_run (PC g D [] [.ref (ad a0), .int v1, .int v2, .int v3] sz (ws g ad y σ)) (va_Qi (fun (r : Int32) (u : St) => Post u r) (QW D (va_A (ws g ad y σ) sz) (fun u => ws g ad y u)) (va_A (ws g ad y σ) sz)) 0 0 (va_A (ws g ad y σ) sz) := by
  refine ofI (by decide +kernel) (Nat.le_of_ble_eq_true rfl) ?_
  intro p e s m args below meth c A Q ls H locs G hsz hP hD hS hl hret
  subst hsz
  have hl : lv_has ls 5 [(0, .ref (ad a0)), (1, .int v1), (2, .int v2), (3, .int v3)] := hl
  unfold wu_Cw_run at h
  refine lv_aload_n G.1 G.2.1 d_Cw_run_0 rfl (lv_at hl 0 rfl) ?_
  refine lv_iload_n G.1 G.2.1 d_Cw_run_1 rfl (lv_at hl 1 rfl) ?_
  refine ucVq (As := [.int v1]) (rest := []) G hP hD hS (cu_Cw_machine l D g ad y _ σ a0 v1 H.size h_a0 h) w9_Cw_machine q1248 ⟨Nat.le_of_ble_eq_true rfl, Nat.le_of_ble_eq_true rfl⟩ rfl rfl h_a0 (q := (RCw, TCw, 20)) rfl rfl hl.1 rfl (Nat.le_of_ble_eq_true rfl) rfl ⟨Nat.le_refl _, Nat.le_refl _⟩ d_Cw_run_2 (fun r_1 s_2 H locs h hP hD hS => ?_)
  rcases r_1 with _ | r_1b
  · skip
    have h := h.1 rfl
    show W p l e ru_Cw_run s m args below meth c H locs 0 0 Q (F0 m 5 ls [.null])
    refine lv_astoreN (lv' := [(4, .null), (0, .ref (ad a0)), (1, .int v1), (2, .int v2), (3, .int v3)]) G.1 G.2.1 d_Cw_run_5 hl (by decide) rfl (fun ls hl => ?_)
    refine lv_aloadN G.1 G.2.1 d_Cw_run_7 (lv_at hl 0 rfl) ?_
    have J_31 : ∀ (s_j31 : St) (H : Heap) (locs : List Loc), wj_Cw_run_31 y Post a0 s_j31 → va_P D CL (ws g ad y s_j31) H → va_D A (ws g ad y s_j31) → va_S A s.heap H locs → ∀ ls, lv_has ls 5 [] → W p l e ru_Cw_run s m args below meth c H locs 0 0 Q (F0 m 31 ls []) := by
      intro s_j31 H locs h hP hD hS ls hl
      unfold wj_Cw_run_31 at h
      refine lv_iconst (v := (-1)) G.1 G.2.1 d_Cw_run_31 (by decide) ?_
      exact hret _ _ _ _ _ _ _ ls h hP hD hS (Nat.le_refl _) (Nat.le_refl _) d_Cw_run_32
    refine lv_ifnullN (tgt := 31) G.1 G.2.1 d_Cw_run_9 (by decide) ?_
    exact J_31 s_2 H locs h hP hD hS ls (lv_sub hl [] rfl)
  · skip
    obtain ⟨c_r_1b, h⟩ := h.2 _ rfl
    show W p l e ru_Cw_run s m args below meth c H locs 0 0 Q (F0 m 5 ls [.ref (ad r_1b)])
    refine lv_astore (lv' := [(4, .ref (ad r_1b)), (0, .ref (ad a0)), (1, .int v1), (2, .int v2), (3, .int v3)]) G.1 G.2.1 d_Cw_run_5 hl (by decide) rfl (fun ls hl => ?_)
    refine lv_aload G.1 G.2.1 d_Cw_run_7 (lv_at hl 0 rfl) ?_
    have J_31 : ∀ (s_j31 : St) (H : Heap) (locs : List Loc), wj_Cw_run_31 y Post a0 s_j31 → va_P D CL (ws g ad y s_j31) H → va_D A (ws g ad y s_j31) → va_S A s.heap H locs → ∀ ls, lv_has ls 5 [] → W p l e ru_Cw_run s m args below meth c H locs 0 0 Q (F0 m 31 ls []) := by
      intro s_j31 H locs h hP hD hS ls hl
      unfold wj_Cw_run_31 at h
      refine lv_iconst (v := (-1)) G.1 G.2.1 d_Cw_run_31 (by decide) ?_
      exact hret _ _ _ _ _ _ _ ls h hP hD hS (Nat.le_refl _) (Nat.le_refl _) d_Cw_run_32
    refine lv_ifnull G.1 G.2.1 d_Cw_run_9 ?_
    refine lv_iload_n G.1 G.2.1 d_Cw_run_12 rfl (lv_at hl 3 rfl) ?_
    refine lv_if_lt (tgt := 31) G.1 G.2.1 d_Cw_run_13 (by decide) (fun c13 => ?_) (fun c13 => ?_)
    · skip
      have h := h.1 c13
      exact J_31 s_2 H locs h hP hD hS ls (lv_sub hl [] rfl)
    · skip
      have h := h.2 c13
      refine lv_iload_n G.1 G.2.1 d_Cw_run_16 rfl (lv_at hl 3 rfl) ?_
      refine lv_iconst (v := 3) G.1 G.2.1 d_Cw_run_17 (by decide) ?_
      refine lv_icmp_ge (tgt := 31) G.1 G.2.1 d_Cw_run_18 (by decide) (fun c18 => ?_) (fun c18 => ?_)
      · skip
        have h := h.1 c18
        exact J_31 s_2 H locs h hP hD hS ls (lv_sub hl [] rfl)
      · skip
        have h := h.2 c18
        refine W.eq (g2 := F0 m 21 ls []) rfl ?_
        refine lv_iload_n G.1 G.2.1 d_Cw_run_21 rfl (lv_at hl 4 rfl) ?_
        refine lv_if_lt (tgt := 31) G.1 G.2.1 d_Cw_run_22 (by decide) (fun c22 => ?_) (fun c22 => ?_)
        · skip
          have h := h.1 c22
          exact J_31 s_2 H locs h hP hD hS ls (lv_sub hl [] rfl)
        · skip
          have h := h.2 c22
          refine lv_iload_n G.1 G.2.1 d_Cw_run_25 rfl (lv_at hl 4 rfl) ?_
          refine lv_bipush (v := 13) G.1 G.2.1 d_Cw_run_26 (by decide) ?_
          refine lv_icmp_le (tgt := 33) G.1 G.2.1 d_Cw_run_28 (by decide) (fun c28 => ?_) (fun c28 => ?_)
          · skip
            have h := h.1 c28
            refine lv_iload_n G.1 G.2.1 d_Cw_run_33 rfl (lv_at hl 4 rfl) ?_
            refine lv_bipush (v := 10) G.1 G.2.1 d_Cw_run_34 (by decide) ?_
            refine lv_icmp_lt (tgt := 47) G.1 G.2.1 d_Cw_run_36 (by decide) (fun c36 => ?_) (fun c36 => ?_)
            · skip
              have h := h.1 c36
              refine lv_iload_n G.1 G.2.1 d_Cw_run_47 rfl (lv_at hl 4 rfl) ?_
              have J_72 : ∀ (s_j72 : St) (z0j72 : Int32) (H : Heap) (locs : List Loc), wj_Cw_run_72 y Post a0 s_j72 z0j72 → va_P D CL (ws g ad y s_j72) H → va_D A (ws g ad y s_j72) → va_S A s.heap H locs → ∀ ls, lv_has ls 5 [] → W p l e ru_Cw_run s m args below meth c H locs 0 0 Q (F0 m 72 ls [.int z0j72]) := by
                intro s_j72 z0j72 H locs h hP hD hS ls hl
                unfold wj_Cw_run_72 at h
                exact hret _ _ _ _ _ _ _ ls h hP hD hS (Nat.le_refl _) (Nat.le_refl _) d_Cw_run_72
              refine lv_if_ne (tgt := 60) G.1 G.2.1 d_Cw_run_48 (by decide) (fun c48 => ?_) (fun c48 => ?_)
              · skip
                have h := h.1 c48
                refine lv_aload_n G.1 G.2.1 d_Cw_run_60 rfl (lv_at hl 1 rfl) ?_
                refine lv_aload G.1 G.2.1 d_Cw_run_61 (lv_at hl 0 rfl) ?_
                refine W.eq (g2 := F0 m 63 ls [.ref (ad r_1b), .ref (ad a0)]) rfl ?_
                refine ugf (v := .ref (yP y r_1b 2)) G hP c_r_1b iMa rfl 2 (by decide) rfl q1070 rfl rfl d_Cw_run_63 ?_
                refine lv_iload_n G.1 G.2.1 d_Cw_run_66 rfl (lv_at hl 3 rfl) ?_
                refine uqald G hP (kdp c_r_1b rfl) (typ c_r_1b rfl) rfl h d_Cw_run_67 (fun b_3 n_4 h => ?_)
                refine lv_iload_n G.1 G.2.1 d_Cw_run_68 rfl (lv_at hl 4 rfl) ?_
                refine ucVi (As := [.ref (ad b_3), .int v3]) (rest := []) G hP hD hS (cu_Cw_ofThread l D g ad y _ s_2 a0 b_3 v3 H.size h_a0 (oa_4 c_r_1b n_4) h) w9_Cw_ofThread q2101 ⟨Nat.le_of_ble_eq_true rfl, Nat.le_of_ble_eq_true rfl⟩ rfl rfl h_a0 (q := (RCw, TCw, 20)) rfl rfl hl.1 rfl (Nat.le_of_ble_eq_true rfl) rfl ⟨Nat.le_refl _, Nat.le_refl _⟩ d_Cw_run_69 (fun r_5 s_6 H locs h hP hD hS => ?_)
                exact J_72 s_6 r_5 H locs h hP hD hS ls (lv_sub hl [] rfl)
              · skip
                have h := h.2 c48
                refine lv_aload G.1 G.2.1 d_Cw_run_51 (lv_at hl 0 rfl) ?_
                refine lv_iload_n G.1 G.2.1 d_Cw_run_53 rfl (lv_at hl 3 rfl) ?_
                refine W.eq (g2 := F0 m 54 ls [.int v2, .ref (ad r_1b)]) rfl ?_
                refine ucVi (As := [.int v2]) (rest := []) G hP hD hS (cu_Ma_stateOf l D g ad y _ s_2 r_1b v2 H.size c_r_1b h) w9_Ma_stateOf q2097 ⟨Nat.le_of_ble_eq_true rfl, Nat.le_of_ble_eq_true rfl⟩ rfl rfl c_r_1b (q := (RMa, TMa, 19)) rfl rfl hl.1 rfl (Nat.le_of_ble_eq_true rfl) rfl ⟨Nat.le_refl _, Nat.le_refl _⟩ d_Cw_run_54 (fun r_7 s_8 H locs h hP hD hS => ?_)
                refine lv_goto (tgt := 72) G.1 G.2.1 d_Cw_run_57 (by decide) ?_
                exact J_72 s_8 r_7 H locs h hP hD hS ls (lv_sub hl [] rfl)
            · skip
              have h := h.2 c36
              refine lv_aload_n G.1 G.2.1 d_Cw_run_39 rfl (lv_at hl 1 rfl) ?_
              refine lv_aload G.1 G.2.1 d_Cw_run_40 (lv_at hl 0 rfl) ?_
              refine lv_iload_n G.1 G.2.1 d_Cw_run_42 rfl (lv_at hl 4 rfl) ?_
              refine ucVi (As := [.ref (ad r_1b), .int v3]) (rest := []) G hP hD hS (cu_Cw_ofWorld l D g ad y _ s_2 a0 r_1b v3 H.size h_a0 c_r_1b h) w9_Cw_ofWorld q2093 ⟨Nat.le_of_ble_eq_true rfl, Nat.le_of_ble_eq_true rfl⟩ rfl rfl h_a0 (q := (RCw, TCw, 20)) rfl rfl hl.1 rfl (Nat.le_of_ble_eq_true rfl) rfl ⟨Nat.le_refl _, Nat.le_refl _⟩ d_Cw_run_43 (fun r_9 s_10 H locs h hP hD hS => ?_)
              refine W.eq (g2 := F0 m 46 ls [.int r_9]) rfl ?_
              exact hret _ _ _ _ _ _ _ ls h hP hD hS (Nat.le_refl _) (Nat.le_refl _) d_Cw_run_46
          · skip
            have h := h.2 c28
            exact J_31 s_2 H locs h hP hD hS ls (lv_sub hl [] rfl)
def y_Cw_started : MethodName := ⟨"ClassWorks", "started", "(II)I"⟩
abbrev b_Cw_started : ByteArray := prog_1_method_27_code
theorem q1078 : Cond.fieldLink "ClassWorks" 301 "ClassWorks$Machine" "startedList" "[I" ∈ lw_ok := lw_okmem (List.mem_of_getElem? (i := 1078) (by decide +kernel)) rfl
theorem d_Cw_started_0 : decode b_Cw_started 0 = .ok (.aload_n 0, 1) := by decide +kernel
theorem d_Cw_started_1 : decode b_Cw_started 1 = .ok (.iload_n 1, 1) := by decide +kernel
theorem d_Cw_started_2 : decode b_Cw_started 2 = .ok (.invokevirtual 129, 3) := by decide +kernel
theorem d_Cw_started_5 : decode b_Cw_started 5 = .ok (.astore_n 3, 1) := by decide +kernel
theorem d_Cw_started_6 : decode b_Cw_started 6 = .ok (.aload_n 3, 1) := by decide +kernel
theorem d_Cw_started_7 : decode b_Cw_started 7 = .ok (.ifnull 15, 3) := by decide +kernel
theorem d_Cw_started_10 : decode b_Cw_started 10 = .ok (.iload_n 2, 1) := by decide +kernel
theorem d_Cw_started_11 : decode b_Cw_started 11 = .ok (.ifCond .lt 11, 3) := by decide +kernel
theorem d_Cw_started_14 : decode b_Cw_started 14 = .ok (.iload_n 2, 1) := by decide +kernel
theorem d_Cw_started_15 : decode b_Cw_started 15 = .ok (.aload_n 3, 1) := by decide +kernel
theorem d_Cw_started_16 : decode b_Cw_started 16 = .ok (.getfield 268, 3) := by decide +kernel
theorem d_Cw_started_19 : decode b_Cw_started 19 = .ok (.if_icmp .lt 7, 3) := by decide +kernel
theorem d_Cw_started_22 : decode b_Cw_started 22 = .ok (.iconst (-1), 1) := by decide +kernel
theorem d_Cw_started_23 : decode b_Cw_started 23 = .ok (.goto 9, 3) := by decide +kernel
theorem d_Cw_started_26 : decode b_Cw_started 26 = .ok (.aload_n 3, 1) := by decide +kernel
theorem d_Cw_started_27 : decode b_Cw_started 27 = .ok (.getfield 301, 3) := by decide +kernel
theorem d_Cw_started_30 : decode b_Cw_started 30 = .ok (.iload_n 2, 1) := by decide +kernel
theorem d_Cw_started_31 : decode b_Cw_started 31 = .ok (.iaload, 1) := by decide +kernel
theorem d_Cw_started_32 : decode b_Cw_started 32 = .ok (.ireturn, 1) := by decide +kernel
abbrev ru_Cw_started : Room := { frames := 1, cells := 0, slots := 0, locals := 21 }
def wj_Cw_started_32 (y : Ly) (Post : St → Int32 → Prop) (a0 : Nat) (s_j32 : St) (z0j32 : Int32) : Prop := Post s_j32 z0j32
def wj_Cw_started_22 (y : Ly) (Post : St → Int32 → Prop) (a0 : Nat) (s_j22 : St) : Prop := wj_Cw_started_32 y Post a0 s_j22 (-1)
def wu_Cw_started (y : Ly) (Post : St → Int32 → Prop) (σ : St) (a0 : Nat) (v1 : Int32) (v2 : Int32) : Prop := wu_Cw_machine y (fun (s_2 : St) (r_1 : Option Nat) => ((r_1 = none → wj_Cw_started_22 y Post a0 s_2) ∧ (∀ r_1b : Nat, r_1 = some r_1b → (cl r_1b = 4 ∧ ((v2 < 0 → wj_Cw_started_22 y Post a0 s_2) ∧ (¬ (v2 < 0) → ((v2 < (sV s_2 r_1b 7) → xA y s_2 r_1b 6 v2 (fun x_3 : Int32 => wj_Cw_started_32 y Post a0 s_2 x_3)) ∧ (¬ (v2 < (sV s_2 r_1b 7)) → wj_Cw_started_22 y Post a0 s_2)))))))) σ a0 v1
set_option maxHeartbeats 4000000 in
set_option maxRecDepth 100000 in
theorem cu_Cw_started (l : Launch) (D : va_G) (g : Nat → ClassId) (ad : Nat → Nat) (y : Ly) (Post : St → Int32 → Prop) (σ : St) (a0 : Nat) (v1 : Int32) (v2 : Int32) (sz : Nat) (h_a0 : cl a0 = 11) (h : wu_Cw_started y Post σ a0 v1 v2) : Met l y_Cw_started (mw y_Cw_started b_Cw_started 4 (some .int)) ru_Cw_started (PC g D [] [.ref (ad a0), .int v1, .int v2] sz (ws g ad y σ)) (va_Qi (fun (r : Int32) (u : St) => Post u r) (QW D (va_A (ws g ad y σ) sz) (fun u => ws g ad y u)) (va_A (ws g ad y σ) sz)) 0 0 (va_A (ws g ad y σ) sz) := by
  refine ofI (by decide +kernel) (Nat.le_of_ble_eq_true rfl) ?_
  intro p e s m args below meth c A Q ls H locs G hsz hP hD hS hl hret
  subst hsz
  have hl : lv_has ls 4 [(0, .ref (ad a0)), (1, .int v1), (2, .int v2)] := hl
  unfold wu_Cw_started at h
  refine lv_aload_n G.1 G.2.1 d_Cw_started_0 rfl (lv_at hl 0 rfl) ?_
  refine lv_iload_n G.1 G.2.1 d_Cw_started_1 rfl (lv_at hl 1 rfl) ?_
  refine ucVq (As := [.int v1]) (rest := []) G hP hD hS (cu_Cw_machine l D g ad y _ σ a0 v1 H.size h_a0 h) w9_Cw_machine q1248 ⟨Nat.le_of_ble_eq_true rfl, Nat.le_of_ble_eq_true rfl⟩ rfl rfl h_a0 (q := (RCw, TCw, 20)) rfl rfl hl.1 rfl (Nat.le_of_ble_eq_true rfl) rfl ⟨Nat.le_refl _, Nat.le_refl _⟩ d_Cw_started_2 (fun r_1 s_2 H locs h hP hD hS => ?_)
  rcases r_1 with _ | r_1b
  · skip
    have h := h.1 rfl
    show W p l e ru_Cw_started s m args below meth c H locs 0 0 Q (F0 m 5 ls [.null])
    refine lv_astore_nN (lv' := [(3, .null), (0, .ref (ad a0)), (1, .int v1), (2, .int v2)]) G.1 G.2.1 d_Cw_started_5 rfl hl (by decide) rfl (fun ls hl => ?_)
    refine lv_aload_nN G.1 G.2.1 d_Cw_started_6 rfl (lv_at hl 0 rfl) ?_
    have J_32 : ∀ (s_j32 : St) (z0j32 : Int32) (H : Heap) (locs : List Loc), wj_Cw_started_32 y Post a0 s_j32 z0j32 → va_P D CL (ws g ad y s_j32) H → va_D A (ws g ad y s_j32) → va_S A s.heap H locs → ∀ ls, lv_has ls 4 [] → W p l e ru_Cw_started s m args below meth c H locs 0 0 Q (F0 m 32 ls [.int z0j32]) := by
      intro s_j32 z0j32 H locs h hP hD hS ls hl
      unfold wj_Cw_started_32 at h
      exact hret _ _ _ _ _ _ _ ls h hP hD hS (Nat.le_refl _) (Nat.le_refl _) d_Cw_started_32
    have J_22 : ∀ (s_j22 : St) (H : Heap) (locs : List Loc), wj_Cw_started_22 y Post a0 s_j22 → va_P D CL (ws g ad y s_j22) H → va_D A (ws g ad y s_j22) → va_S A s.heap H locs → ∀ ls, lv_has ls 4 [] → W p l e ru_Cw_started s m args below meth c H locs 0 0 Q (F0 m 22 ls []) := by
      intro s_j22 H locs h hP hD hS ls hl
      unfold wj_Cw_started_22 at h
      refine lv_iconst (v := (-1)) G.1 G.2.1 d_Cw_started_22 (by decide) ?_
      refine lv_goto (tgt := 32) G.1 G.2.1 d_Cw_started_23 (by decide) ?_
      exact J_32 s_j22 (-1) H locs h hP hD hS ls (lv_sub hl [] rfl)
    refine lv_ifnullN (tgt := 22) G.1 G.2.1 d_Cw_started_7 (by decide) ?_
    exact J_22 s_2 H locs h hP hD hS ls (lv_sub hl [] rfl)
  · skip
    obtain ⟨c_r_1b, h⟩ := h.2 _ rfl
    show W p l e ru_Cw_started s m args below meth c H locs 0 0 Q (F0 m 5 ls [.ref (ad r_1b)])
    refine lv_astore_n (lv' := [(3, .ref (ad r_1b)), (0, .ref (ad a0)), (1, .int v1), (2, .int v2)]) G.1 G.2.1 d_Cw_started_5 rfl hl (by decide) rfl (fun ls hl => ?_)
    refine lv_aload_n G.1 G.2.1 d_Cw_started_6 rfl (lv_at hl 0 rfl) ?_
    have J_32 : ∀ (s_j32 : St) (z0j32 : Int32) (H : Heap) (locs : List Loc), wj_Cw_started_32 y Post a0 s_j32 z0j32 → va_P D CL (ws g ad y s_j32) H → va_D A (ws g ad y s_j32) → va_S A s.heap H locs → ∀ ls, lv_has ls 4 [] → W p l e ru_Cw_started s m args below meth c H locs 0 0 Q (F0 m 32 ls [.int z0j32]) := by
      intro s_j32 z0j32 H locs h hP hD hS ls hl
      unfold wj_Cw_started_32 at h
      exact hret _ _ _ _ _ _ _ ls h hP hD hS (Nat.le_refl _) (Nat.le_refl _) d_Cw_started_32
    have J_22 : ∀ (s_j22 : St) (H : Heap) (locs : List Loc), wj_Cw_started_22 y Post a0 s_j22 → va_P D CL (ws g ad y s_j22) H → va_D A (ws g ad y s_j22) → va_S A s.heap H locs → ∀ ls, lv_has ls 4 [] → W p l e ru_Cw_started s m args below meth c H locs 0 0 Q (F0 m 22 ls []) := by
      intro s_j22 H locs h hP hD hS ls hl
      unfold wj_Cw_started_22 at h
      refine lv_iconst (v := (-1)) G.1 G.2.1 d_Cw_started_22 (by decide) ?_
      refine lv_goto (tgt := 32) G.1 G.2.1 d_Cw_started_23 (by decide) ?_
      exact J_32 s_j22 (-1) H locs h hP hD hS ls (lv_sub hl [] rfl)
    refine lv_ifnull G.1 G.2.1 d_Cw_started_7 ?_
    refine lv_iload_n G.1 G.2.1 d_Cw_started_10 rfl (lv_at hl 3 rfl) ?_
    refine lv_if_lt (tgt := 22) G.1 G.2.1 d_Cw_started_11 (by decide) (fun c11 => ?_) (fun c11 => ?_)
    · skip
      have h := h.1 c11
      exact J_22 s_2 H locs h hP hD hS ls (lv_sub hl [] rfl)
    · skip
      have h := h.2 c11
      refine lv_iload_n G.1 G.2.1 d_Cw_started_14 rfl (lv_at hl 3 rfl) ?_
      refine lv_aload_n G.1 G.2.1 d_Cw_started_15 rfl (lv_at hl 0 rfl) ?_
      refine ugf (v := .int (sV s_2 r_1b 7)) G hP c_r_1b iMa rfl 7 (by decide) rfl q1080 rfl rfl d_Cw_started_16 ?_
      refine W.eq (g2 := F0 m 19 ls [.int (sV s_2 r_1b 7), .int v2]) rfl ?_
      refine lv_icmp_lt (tgt := 26) G.1 G.2.1 d_Cw_started_19 (by decide) (fun c19 => ?_) (fun c19 => ?_)
      · skip
        have h := h.1 c19
        refine lv_aload_n G.1 G.2.1 d_Cw_started_26 rfl (lv_at hl 0 rfl) ?_
        refine ugf (v := .ref (yP y r_1b 6)) G hP c_r_1b iMa rfl 6 (by decide) rfl q1078 rfl rfl d_Cw_started_27 ?_
        refine lv_iload_n G.1 G.2.1 d_Cw_started_30 rfl (lv_at hl 3 rfl) ?_
        refine uiald G hP (kdp c_r_1b rfl) (typ c_r_1b rfl) h d_Cw_started_31 (fun x_3 h => ?_)
        exact J_32 s_2 x_3 H locs h hP hD hS ls (lv_sub hl [] rfl)
      · skip
        have h := h.2 c19
        exact J_22 s_2 H locs h hP hD hS ls (lv_sub hl [] rfl)
def y_Cw_tellReference : MethodName := ⟨"ClassWorks", "tellReference", "(I)I"⟩
abbrev b_Cw_tellReference : ByteArray := prog_1_method_30_code
theorem d_Cw_tellReference_0 : decode b_Cw_tellReference 0 = .ok (.iload_n 1, 1) := by decide +kernel
theorem d_Cw_tellReference_1 : decode b_Cw_tellReference 1 = .ok (.sipush 1000, 3) := by decide +kernel
theorem d_Cw_tellReference_4 : decode b_Cw_tellReference 4 = .ok (.if_icmp .le 7, 3) := by decide +kernel
theorem d_Cw_tellReference_7 : decode b_Cw_tellReference 7 = .ok (.iconst 0, 1) := by decide +kernel
theorem d_Cw_tellReference_8 : decode b_Cw_tellReference 8 = .ok (.goto 4, 3) := by decide +kernel
theorem d_Cw_tellReference_11 : decode b_Cw_tellReference 11 = .ok (.iload_n 1, 1) := by decide +kernel
theorem d_Cw_tellReference_12 : decode b_Cw_tellReference 12 = .ok (.ireturn, 1) := by decide +kernel
abbrev ru_Cw_tellReference : Room := { frames := 0, cells := 0, slots := 0, locals := 0 }
def wj_Cw_tellReference_12 (y : Ly) (Post : St → Int32 → Prop) (a0 : Nat) (s_j12 : St) (z0j12 : Int32) : Prop := Post s_j12 z0j12
def wu_Cw_tellReference (y : Ly) (Post : St → Int32 → Prop) (σ : St) (a0 : Nat) (v1 : Int32) : Prop := ((v1 ≤ 1000 → wj_Cw_tellReference_12 y Post a0 σ v1) ∧ (¬ (v1 ≤ 1000) → wj_Cw_tellReference_12 y Post a0 σ 0))
set_option maxHeartbeats 4000000 in
set_option maxRecDepth 100000 in
theorem cu_Cw_tellReference (l : Launch) (D : va_G) (g : Nat → ClassId) (ad : Nat → Nat) (y : Ly) (Post : St → Int32 → Prop) (σ : St) (a0 : Nat) (v1 : Int32) (sz : Nat) (h_a0 : cl a0 = 11) (h : wu_Cw_tellReference y Post σ a0 v1) : Met l y_Cw_tellReference (mw y_Cw_tellReference b_Cw_tellReference 2 (some .int)) ru_Cw_tellReference (PC g D [] [.ref (ad a0), .int v1] sz (ws g ad y σ)) (va_Qi (fun (r : Int32) (u : St) => Post u r) (QW D (va_A (ws g ad y σ) sz) (fun u => ws g ad y u)) (va_A (ws g ad y σ) sz)) 0 0 (va_A (ws g ad y σ) sz) := by
  refine ofI (by decide +kernel) (Nat.le_of_ble_eq_true rfl) ?_
  intro p e s m args below meth c A Q ls H locs G hsz hP hD hS hl hret
  subst hsz
  have hl : lv_has ls 2 [(0, .ref (ad a0)), (1, .int v1)] := hl
  unfold wu_Cw_tellReference at h
  refine lv_iload_n G.1 G.2.1 d_Cw_tellReference_0 rfl (lv_at hl 1 rfl) ?_
  refine lv_sipush (v := 1000) G.1 G.2.1 d_Cw_tellReference_1 (by decide) ?_
  have J_12 : ∀ (s_j12 : St) (z0j12 : Int32) (H : Heap) (locs : List Loc), wj_Cw_tellReference_12 y Post a0 s_j12 z0j12 → va_P D CL (ws g ad y s_j12) H → va_D A (ws g ad y s_j12) → va_S A s.heap H locs → ∀ ls, lv_has ls 2 [] → W p l e ru_Cw_tellReference s m args below meth c H locs 0 0 Q (F0 m 12 ls [.int z0j12]) := by
    intro s_j12 z0j12 H locs h hP hD hS ls hl
    unfold wj_Cw_tellReference_12 at h
    exact hret _ _ _ _ _ _ _ ls h hP hD hS (Nat.le_refl _) (Nat.le_refl _) d_Cw_tellReference_12
  refine lv_icmp_le (tgt := 11) G.1 G.2.1 d_Cw_tellReference_4 (by decide) (fun c4 => ?_) (fun c4 => ?_)
  · skip
    have h := h.1 c4
    refine lv_iload_n G.1 G.2.1 d_Cw_tellReference_11 rfl (lv_at hl 1 rfl) ?_
    exact J_12 σ v1 H locs h hP hD hS ls (lv_sub hl [] rfl)
  · skip
    have h := h.2 c4
    refine lv_iconst (v := 0) G.1 G.2.1 d_Cw_tellReference_7 (by decide) ?_
    refine lv_goto (tgt := 12) G.1 G.2.1 d_Cw_tellReference_8 (by decide) ?_
    exact J_12 σ 0 H locs h hP hD hS ls (lv_sub hl [] rfl)
theorem q2118 : Cond.constantLong "ClassWorks" 318 (4294967296) ∈ lw_ok := lw_okmem (List.mem_of_getElem? (i := 2118) (by decide +kernel)) rfl
theorem q2119 : Cond.methodLink "ClassWorks" 320 y_Cw_tellReference ∈ lw_ok := lw_okmem (List.mem_of_getElem? (i := 2119) (by decide +kernel)) rfl
theorem q2122 : Cond.code y_Cw_tellReference b_Cw_tellReference 2 (some .int) ∈ lw_ok := lw_okmem (List.mem_of_getElem? (i := 2122) (by decide +kernel)) rfl
theorem q2121 : Cond.instanceMethod y_Cw_tellReference ∈ lw_ok := lw_okmem (List.mem_of_getElem? (i := 2121) (by decide +kernel)) rfl
theorem q116 : Cond.selects y_Cw_tellReference.cls y_Cw_tellReference y_Cw_tellReference ∈ lw_ok := lw_okmem (List.mem_of_getElem? (i := 116) (by decide +kernel)) rfl
theorem w9_Cw_tellReference : CWv y_Cw_tellReference b_Cw_tellReference 2 (some .int) 1 ∧ Cond.instanceMethod y_Cw_tellReference ∈ lw_ok ∧ Cond.selects y_Cw_tellReference.cls y_Cw_tellReference y_Cw_tellReference ∈ lw_ok := ⟨⟨q2122, q329, by decide +kernel, by decide +kernel, by decide +kernel⟩, q2121, q116⟩
def y_Cw_tell : MethodName := ⟨"ClassWorks", "tell", "(J)I"⟩
abbrev b_Cw_tell : ByteArray := prog_1_method_29_code
theorem d_Cw_tell_0 : decode b_Cw_tell 0 = .ok (.lload_n 1, 1) := by decide +kernel
theorem d_Cw_tell_1 : decode b_Cw_tell 1 = .ok (.l2i, 1) := by decide +kernel
theorem d_Cw_tell_2 : decode b_Cw_tell 2 = .ok (.istore_n 3, 1) := by decide +kernel
theorem d_Cw_tell_3 : decode b_Cw_tell 3 = .ok (.lload_n 1, 1) := by decide +kernel
theorem d_Cw_tell_4 : decode b_Cw_tell 4 = .ok (.ldc2_w 318, 3) := by decide +kernel
theorem d_Cw_tell_7 : decode b_Cw_tell 7 = .ok (.land, 1) := by decide +kernel
theorem d_Cw_tell_8 : decode b_Cw_tell 8 = .ok (.lconst 0, 1) := by decide +kernel
theorem d_Cw_tell_9 : decode b_Cw_tell 9 = .ok (.lcmp, 1) := by decide +kernel
theorem d_Cw_tell_10 : decode b_Cw_tell 10 = .ok (.ifCond .eq 11, 3) := by decide +kernel
theorem d_Cw_tell_13 : decode b_Cw_tell 13 = .ok (.aload_n 0, 1) := by decide +kernel
theorem d_Cw_tell_14 : decode b_Cw_tell 14 = .ok (.iload_n 3, 1) := by decide +kernel
theorem d_Cw_tell_15 : decode b_Cw_tell 15 = .ok (.invokevirtual 320, 3) := by decide +kernel
theorem d_Cw_tell_18 : decode b_Cw_tell 18 = .ok (.goto 4, 3) := by decide +kernel
theorem d_Cw_tell_21 : decode b_Cw_tell 21 = .ok (.iload_n 3, 1) := by decide +kernel
theorem d_Cw_tell_22 : decode b_Cw_tell 22 = .ok (.ireturn, 1) := by decide +kernel
abbrev ru_Cw_tell : Room := { frames := 1, cells := 0, slots := 0, locals := 21 }
def wj_Cw_tell_22 (y : Ly) (Post : St → Int32 → Prop) (a0 : Nat) (s_j22 : St) (z0j22 : Int32) : Prop := Post s_j22 z0j22
def wu_Cw_tell (y : Ly) (Post : St → Int32 → Prop) (σ : St) (a0 : Nat) (v1 : Int64) : Prop := (((lg_cmp (v1 &&& (4294967296)) 0) = 0 → wj_Cw_tell_22 y Post a0 σ v1.toInt32) ∧ (¬ ((lg_cmp (v1 &&& (4294967296)) 0) = 0) → wu_Cw_tellReference y (fun (s_2 : St) (r_1 : Int32) => wj_Cw_tell_22 y Post a0 s_2 r_1) σ a0 v1.toInt32))
set_option maxHeartbeats 4000000 in
set_option maxRecDepth 100000 in
theorem cu_Cw_tell (l : Launch) (D : va_G) (g : Nat → ClassId) (ad : Nat → Nat) (y : Ly) (Post : St → Int32 → Prop) (σ : St) (a0 : Nat) (v1 : Int64) (sz : Nat) (h_a0 : cl a0 = 11) (h : wu_Cw_tell y Post σ a0 v1) : Met l y_Cw_tell (mw y_Cw_tell b_Cw_tell 4 (some .int)) ru_Cw_tell (PC g D [] [.ref (ad a0), .long v1] sz (ws g ad y σ)) (va_Qi (fun (r : Int32) (u : St) => Post u r) (QW D (va_A (ws g ad y σ) sz) (fun u => ws g ad y u)) (va_A (ws g ad y σ) sz)) 0 0 (va_A (ws g ad y σ) sz) := by
  refine ofI (by decide +kernel) (Nat.le_of_ble_eq_true rfl) ?_
  intro p e s m args below meth c A Q ls H locs G hsz hP hD hS hl hret
  subst hsz
  have hl : lv_has ls 4 [(0, .ref (ad a0)), (1, .long v1)] := hl
  unfold wu_Cw_tell at h
  refine lv_lload_n G.1 G.2.1 d_Cw_tell_0 rfl (lv_at hl 1 rfl) ?_
  refine lv_l2i G.1 G.2.1 d_Cw_tell_1 rfl ?_
  refine lv_istore_n (lv' := [(3, .int v1.toInt32), (0, .ref (ad a0)), (1, .long v1)]) G.1 G.2.1 d_Cw_tell_2 rfl hl (by decide) rfl (fun ls hl => ?_)
  refine lv_lload_n G.1 G.2.1 d_Cw_tell_3 rfl (lv_at hl 2 rfl) ?_
  refine lv_ldc2 (v := (4294967296)) G.1 G.2.1 G.2.2.2.2.2.2.1 (G.2.2.2.2.2.1 _ q2118) d_Cw_tell_4 ?_
  refine lv_land G.1 G.2.1 d_Cw_tell_7 ?_
  refine lv_lconst (v := 0) G.1 G.2.1 d_Cw_tell_8 (by decide) ?_
  refine W.lcmp G.1 G.2.1 d_Cw_tell_9 ?_
  have J_22 : ∀ (s_j22 : St) (z0j22 : Int32) (H : Heap) (locs : List Loc), wj_Cw_tell_22 y Post a0 s_j22 z0j22 → va_P D CL (ws g ad y s_j22) H → va_D A (ws g ad y s_j22) → va_S A s.heap H locs → ∀ ls, lv_has ls 4 [] → W p l e ru_Cw_tell s m args below meth c H locs 0 0 Q (F0 m 22 ls [.int z0j22]) := by
    intro s_j22 z0j22 H locs h hP hD hS ls hl
    unfold wj_Cw_tell_22 at h
    exact hret _ _ _ _ _ _ _ ls h hP hD hS (Nat.le_refl _) (Nat.le_refl _) d_Cw_tell_22
  refine lv_if_eq (tgt := 21) G.1 G.2.1 d_Cw_tell_10 (by decide) (fun c10 => ?_) (fun c10 => ?_)
  · skip
    have h := h.1 c10
    refine lv_iload_n G.1 G.2.1 d_Cw_tell_21 rfl (lv_at hl 0 rfl) ?_
    exact J_22 σ v1.toInt32 H locs h hP hD hS ls (lv_sub hl [] rfl)
  · skip
    have h := h.2 c10
    refine lv_aload_n G.1 G.2.1 d_Cw_tell_13 rfl (lv_at hl 1 rfl) ?_
    refine lv_iload_n G.1 G.2.1 d_Cw_tell_14 rfl (lv_at hl 0 rfl) ?_
    refine W.eq (g2 := F0 m 15 ls [.int v1.toInt32, .ref (ad a0)]) rfl ?_
    refine ucVi (As := [.int v1.toInt32]) (rest := []) G hP hD hS (cu_Cw_tellReference l D g ad y _ σ a0 v1.toInt32 H.size h_a0 h) w9_Cw_tellReference q2119 ⟨Nat.le_of_ble_eq_true rfl, Nat.le_of_ble_eq_true rfl⟩ rfl rfl h_a0 (q := (RCw, TCw, 20)) rfl rfl hl.1 rfl (Nat.le_of_ble_eq_true rfl) rfl ⟨Nat.le_refl _, Nat.le_refl _⟩ d_Cw_tell_15 (fun r_1 s_2 H locs h hP hD hS => ?_)
    refine lv_goto (tgt := 22) G.1 G.2.1 d_Cw_tell_18 (by decide) ?_
    exact J_22 s_2 r_1 H locs h hP hD hS ls (lv_sub hl [] rfl)
theorem q2123 : Cond.methodLink "ClassWorks" 315 y_Ru_local ∈ lw_ok := lw_okmem (List.mem_of_getElem? (i := 2123) (by decide +kernel)) rfl
theorem q2114 : Cond.methodLink "ClassWorks" 311 y_Cw_tell ∈ lw_ok := lw_okmem (List.mem_of_getElem? (i := 2114) (by decide +kernel)) rfl
theorem q2117 : Cond.code y_Cw_tell b_Cw_tell 4 (some .int) ∈ lw_ok := lw_okmem (List.mem_of_getElem? (i := 2117) (by decide +kernel)) rfl
theorem q2116 : Cond.instanceMethod y_Cw_tell ∈ lw_ok := lw_okmem (List.mem_of_getElem? (i := 2116) (by decide +kernel)) rfl
theorem q115 : Cond.selects y_Cw_tell.cls y_Cw_tell y_Cw_tell ∈ lw_ok := lw_okmem (List.mem_of_getElem? (i := 115) (by decide +kernel)) rfl
theorem w9_Cw_tell : CWv y_Cw_tell b_Cw_tell 4 (some .int) 1 ∧ Cond.instanceMethod y_Cw_tell ∈ lw_ok ∧ Cond.selects y_Cw_tell.cls y_Cw_tell y_Cw_tell ∈ lw_ok := ⟨⟨q2117, q329, by decide +kernel, by decide +kernel, by decide +kernel⟩, q2116, q115⟩
def y_Cw_value : MethodName := ⟨"ClassWorks", "value", "(IIZI)I"⟩
abbrev b_Cw_value : ByteArray := prog_1_method_28_code
theorem q1019 : Cond.fieldLink "ClassWorks" 304 "ClassWorks$Runner" "depth" "[I" ∈ lw_ok := lw_okmem (List.mem_of_getElem? (i := 1019) (by decide +kernel)) rfl
theorem q2113 : Cond.methodLink "ClassWorks" 307 y_Ru_fromTop ∈ lw_ok := lw_okmem (List.mem_of_getElem? (i := 2113) (by decide +kernel)) rfl
theorem d_Cw_value_0 : decode b_Cw_value 0 = .ok (.aload_n 0, 1) := by decide +kernel
theorem d_Cw_value_1 : decode b_Cw_value 1 = .ok (.iload_n 1, 1) := by decide +kernel
theorem d_Cw_value_2 : decode b_Cw_value 2 = .ok (.invokevirtual 129, 3) := by decide +kernel
theorem d_Cw_value_5 : decode b_Cw_value 5 = .ok (.astore 5, 2) := by decide +kernel
theorem d_Cw_value_7 : decode b_Cw_value 7 = .ok (.aload 5, 2) := by decide +kernel
theorem d_Cw_value_9 : decode b_Cw_value 9 = .ok (.ifnull 30, 3) := by decide +kernel
theorem d_Cw_value_12 : decode b_Cw_value 12 = .ok (.iload_n 2, 1) := by decide +kernel
theorem d_Cw_value_13 : decode b_Cw_value 13 = .ok (.ifCond .lt 26, 3) := by decide +kernel
theorem d_Cw_value_16 : decode b_Cw_value 16 = .ok (.iload_n 2, 1) := by decide +kernel
theorem d_Cw_value_17 : decode b_Cw_value 17 = .ok (.iconst 3, 1) := by decide +kernel
theorem d_Cw_value_18 : decode b_Cw_value 18 = .ok (.if_icmp .ge 21, 3) := by decide +kernel
theorem d_Cw_value_21 : decode b_Cw_value 21 = .ok (.aload 5, 2) := by decide +kernel
theorem d_Cw_value_23 : decode b_Cw_value 23 = .ok (.getfield 202, 3) := by decide +kernel
theorem d_Cw_value_26 : decode b_Cw_value 26 = .ok (.iload_n 2, 1) := by decide +kernel
theorem d_Cw_value_27 : decode b_Cw_value 27 = .ok (.aaload, 1) := by decide +kernel
theorem d_Cw_value_28 : decode b_Cw_value 28 = .ok (.getfield 274, 3) := by decide +kernel
theorem d_Cw_value_31 : decode b_Cw_value 31 = .ok (.ifCond .eq 8, 3) := by decide +kernel
theorem d_Cw_value_34 : decode b_Cw_value 34 = .ok (.iload 4, 2) := by decide +kernel
theorem d_Cw_value_36 : decode b_Cw_value 36 = .ok (.ifCond .ge 5, 3) := by decide +kernel
theorem d_Cw_value_39 : decode b_Cw_value 39 = .ok (.iconst (-1), 1) := by decide +kernel
theorem d_Cw_value_40 : decode b_Cw_value 40 = .ok (.ireturn, 1) := by decide +kernel
theorem d_Cw_value_41 : decode b_Cw_value 41 = .ok (.aload 5, 2) := by decide +kernel
theorem d_Cw_value_43 : decode b_Cw_value 43 = .ok (.getfield 202, 3) := by decide +kernel
theorem d_Cw_value_46 : decode b_Cw_value 46 = .ok (.iload_n 2, 1) := by decide +kernel
theorem d_Cw_value_47 : decode b_Cw_value 47 = .ok (.aaload, 1) := by decide +kernel
theorem d_Cw_value_48 : decode b_Cw_value 48 = .ok (.astore 6, 2) := by decide +kernel
theorem d_Cw_value_50 : decode b_Cw_value 50 = .ok (.aload 6, 2) := by decide +kernel
theorem d_Cw_value_52 : decode b_Cw_value 52 = .ok (.getfield 274, 3) := by decide +kernel
theorem d_Cw_value_55 : decode b_Cw_value 55 = .ok (.iconst 1, 1) := by decide +kernel
theorem d_Cw_value_56 : decode b_Cw_value 56 = .ok (.isub, 1) := by decide +kernel
theorem d_Cw_value_57 : decode b_Cw_value 57 = .ok (.istore 7, 2) := by decide +kernel
theorem d_Cw_value_59 : decode b_Cw_value 59 = .ok (.iload_n 3, 1) := by decide +kernel
theorem d_Cw_value_60 : decode b_Cw_value 60 = .ok (.ifCond .eq 32, 3) := by decide +kernel
theorem d_Cw_value_63 : decode b_Cw_value 63 = .ok (.iload 4, 2) := by decide +kernel
theorem d_Cw_value_65 : decode b_Cw_value 65 = .ok (.aload 6, 2) := by decide +kernel
theorem d_Cw_value_67 : decode b_Cw_value 67 = .ok (.getfield 304, 3) := by decide +kernel
theorem d_Cw_value_70 : decode b_Cw_value 70 = .ok (.iload 7, 2) := by decide +kernel
theorem d_Cw_value_72 : decode b_Cw_value 72 = .ok (.iaload, 1) := by decide +kernel
theorem d_Cw_value_73 : decode b_Cw_value 73 = .ok (.if_icmp .lt 7, 3) := by decide +kernel
theorem d_Cw_value_76 : decode b_Cw_value 76 = .ok (.iconst (-1), 1) := by decide +kernel
theorem d_Cw_value_77 : decode b_Cw_value 77 = .ok (.goto 14, 3) := by decide +kernel
theorem d_Cw_value_80 : decode b_Cw_value 80 = .ok (.aload_n 0, 1) := by decide +kernel
theorem d_Cw_value_81 : decode b_Cw_value 81 = .ok (.aload 6, 2) := by decide +kernel
theorem d_Cw_value_83 : decode b_Cw_value 83 = .ok (.iload 4, 2) := by decide +kernel
theorem d_Cw_value_85 : decode b_Cw_value 85 = .ok (.invokevirtual 307, 3) := by decide +kernel
theorem d_Cw_value_88 : decode b_Cw_value 88 = .ok (.invokevirtual 311, 3) := by decide +kernel
theorem d_Cw_value_91 : decode b_Cw_value 91 = .ok (.ireturn, 1) := by decide +kernel
theorem d_Cw_value_92 : decode b_Cw_value 92 = .ok (.aload 5, 2) := by decide +kernel
theorem d_Cw_value_94 : decode b_Cw_value 94 = .ok (.getfield 118, 3) := by decide +kernel
theorem d_Cw_value_97 : decode b_Cw_value 97 = .ok (.aload 6, 2) := by decide +kernel
theorem d_Cw_value_99 : decode b_Cw_value 99 = .ok (.getfield 292, 3) := by decide +kernel
theorem d_Cw_value_102 : decode b_Cw_value 102 = .ok (.iload 7, 2) := by decide +kernel
theorem d_Cw_value_104 : decode b_Cw_value 104 = .ok (.iaload, 1) := by decide +kernel
theorem d_Cw_value_105 : decode b_Cw_value 105 = .ok (.aload 6, 2) := by decide +kernel
theorem d_Cw_value_107 : decode b_Cw_value 107 = .ok (.getfield 295, 3) := by decide +kernel
theorem d_Cw_value_110 : decode b_Cw_value 110 = .ok (.iload 7, 2) := by decide +kernel
theorem d_Cw_value_112 : decode b_Cw_value 112 = .ok (.iaload, 1) := by decide +kernel
theorem d_Cw_value_113 : decode b_Cw_value 113 = .ok (.iconst 3, 1) := by decide +kernel
theorem d_Cw_value_114 : decode b_Cw_value 114 = .ok (.invokevirtual 176, 3) := by decide +kernel
theorem d_Cw_value_117 : decode b_Cw_value 117 = .ok (.istore 8, 2) := by decide +kernel
theorem d_Cw_value_119 : decode b_Cw_value 119 = .ok (.iload 4, 2) := by decide +kernel
theorem d_Cw_value_121 : decode b_Cw_value 121 = .ok (.iload 8, 2) := by decide +kernel
theorem d_Cw_value_123 : decode b_Cw_value 123 = .ok (.if_icmp .lt 7, 3) := by decide +kernel
theorem d_Cw_value_126 : decode b_Cw_value 126 = .ok (.iconst (-1), 1) := by decide +kernel
theorem d_Cw_value_127 : decode b_Cw_value 127 = .ok (.goto 14, 3) := by decide +kernel
theorem d_Cw_value_130 : decode b_Cw_value 130 = .ok (.aload_n 0, 1) := by decide +kernel
theorem d_Cw_value_131 : decode b_Cw_value 131 = .ok (.aload 6, 2) := by decide +kernel
theorem d_Cw_value_133 : decode b_Cw_value 133 = .ok (.iload 4, 2) := by decide +kernel
theorem d_Cw_value_135 : decode b_Cw_value 135 = .ok (.invokevirtual 315, 3) := by decide +kernel
theorem d_Cw_value_138 : decode b_Cw_value 138 = .ok (.invokevirtual 311, 3) := by decide +kernel
theorem d_Cw_value_141 : decode b_Cw_value 141 = .ok (.ireturn, 1) := by decide +kernel
abbrev ru_Cw_value : Room := { frames := 2, cells := 0, slots := 0, locals := 44 }
def wj_Cw_value_39 (y : Ly) (Post : St → Int32 → Prop) (a0 : Nat) (s_j39 : St) : Prop := Post s_j39 (-1)
def wj_Cw_value_141 (y : Ly) (Post : St → Int32 → Prop) (a0 : Nat) (s_j141 : St) (z0j141 : Int32) : Prop := Post s_j141 z0j141
def wj_Cw_value_91 (y : Ly) (Post : St → Int32 → Prop) (a0 : Nat) (s_j91 : St) (z0j91 : Int32) : Prop := Post s_j91 z0j91
def wu_Cw_value (y : Ly) (Post : St → Int32 → Prop) (σ : St) (a0 : Nat) (v1 : Int32) (v2 : Int32) (v3 : Int32) (v4 : Int32) : Prop := wu_Cw_machine y (fun (s_2 : St) (r_1 : Option Nat) => ((r_1 = none → wj_Cw_value_39 y Post a0 s_2) ∧ (∀ r_1b : Nat, r_1 = some r_1b → (cl r_1b = 4 ∧ ((v2 < 0 → wj_Cw_value_39 y Post a0 s_2) ∧ (¬ (v2 < 0) → ((3 ≤ v2 → wj_Cw_value_39 y Post a0 s_2) ∧ (¬ (3 ≤ v2) → xQ y r_1b 2 v2 (fun b_3 : Nat => (((sV s_2 b_3 10) = 0 → wj_Cw_value_39 y Post a0 s_2) ∧ (¬ ((sV s_2 b_3 10) = 0) → ((0 ≤ v4 → xQ y r_1b 2 v2 (fun b_5 : Nat => ((v3 = 0 → xA y s_2 b_5 11 ((sV s_2 b_5 10) - 1) (fun x_7 : Int32 => xA y s_2 b_5 12 ((sV s_2 b_5 10) - 1) (fun x_8 : Int32 => wu_Wd_method y (fun (s_10 : St) (r_9 : Int32) => ((v4 < r_9 → wu_Ru_local y (fun (s_12 : St) (r_11 : Int64) => wu_Cw_tell y (fun (s_14 : St) (r_13 : Int32) => wj_Cw_value_141 y Post a0 s_14 r_13) s_12 a0 r_11) s_10 b_5 v4) ∧ (¬ (v4 < r_9) → wj_Cw_value_141 y Post a0 s_10 (-1)))) s_2 (lk r_1b 0) x_7 x_8 3))) ∧ (¬ (v3 = 0) → xA y s_2 b_5 14 ((sV s_2 b_5 10) - 1) (fun x_15 : Int32 => ((v4 < x_15 → wu_Ru_fromTop y (fun (s_17 : St) (r_16 : Int64) => wu_Cw_tell y (fun (s_19 : St) (r_18 : Int32) => wj_Cw_value_91 y Post a0 s_19 r_18) s_17 a0 r_16) s_2 b_5 v4) ∧ (¬ (v4 < x_15) → wj_Cw_value_91 y Post a0 s_2 (-1)))))))) ∧ (¬ (0 ≤ v4) → wj_Cw_value_39 y Post a0 s_2))))))))))))) σ a0 v1
set_option maxHeartbeats 4000000 in
set_option maxRecDepth 100000 in
theorem cu_Cw_value (l : Launch) (D : va_G) (g : Nat → ClassId) (ad : Nat → Nat) (y : Ly) (Post : St → Int32 → Prop) (σ : St) (a0 : Nat) (v1 : Int32) (v2 : Int32) (v3 : Int32) (v4 : Int32) (sz : Nat) (h_a0 : cl a0 = 11) (h : wu_Cw_value y Post σ a0 v1 v2 v3 v4) : Met l y_Cw_value (mw y_Cw_value b_Cw_value 9 (some .int)) ru_Cw_value (PC g D [] [.ref (ad a0), .int v1, .int v2, .int v3, .int v4] sz (ws g ad y σ)) (va_Qi (fun (r : Int32) (u : St) => Post u r) (QW D (va_A (ws g ad y σ) sz) (fun u => ws g ad y u)) (va_A (ws g ad y σ) sz)) 0 0 (va_A (ws g ad y σ) sz) := by
  refine ofI (by decide +kernel) (Nat.le_of_ble_eq_true rfl) ?_
  intro p e s m args below meth c A Q ls H locs G hsz hP hD hS hl hret
  subst hsz
  have hl : lv_has ls 9 [(0, .ref (ad a0)), (1, .int v1), (2, .int v2), (3, .int v3), (4, .int v4)] := hl
  unfold wu_Cw_value at h
  refine lv_aload_n G.1 G.2.1 d_Cw_value_0 rfl (lv_at hl 0 rfl) ?_
  refine lv_iload_n G.1 G.2.1 d_Cw_value_1 rfl (lv_at hl 1 rfl) ?_
  refine ucVq (As := [.int v1]) (rest := []) G hP hD hS (cu_Cw_machine l D g ad y _ σ a0 v1 H.size h_a0 h) w9_Cw_machine q1248 ⟨Nat.le_of_ble_eq_true rfl, Nat.le_of_ble_eq_true rfl⟩ rfl rfl h_a0 (q := (RCw, TCw, 20)) rfl rfl hl.1 rfl (Nat.le_of_ble_eq_true rfl) rfl ⟨Nat.le_refl _, Nat.le_refl _⟩ d_Cw_value_2 (fun r_1 s_2 H locs h hP hD hS => ?_)
  rcases r_1 with _ | r_1b
  · skip
    have h := h.1 rfl
    show W p l e ru_Cw_value s m args below meth c H locs 0 0 Q (F0 m 5 ls [.null])
    refine lv_astoreN (lv' := [(5, .null), (0, .ref (ad a0)), (1, .int v1), (2, .int v2), (3, .int v3), (4, .int v4)]) G.1 G.2.1 d_Cw_value_5 hl (by decide) rfl (fun ls hl => ?_)
    refine lv_aloadN G.1 G.2.1 d_Cw_value_7 (lv_at hl 0 rfl) ?_
    have J_39 : ∀ (s_j39 : St) (H : Heap) (locs : List Loc), wj_Cw_value_39 y Post a0 s_j39 → va_P D CL (ws g ad y s_j39) H → va_D A (ws g ad y s_j39) → va_S A s.heap H locs → ∀ ls, lv_has ls 9 [] → W p l e ru_Cw_value s m args below meth c H locs 0 0 Q (F0 m 39 ls []) := by
      intro s_j39 H locs h hP hD hS ls hl
      unfold wj_Cw_value_39 at h
      refine lv_iconst (v := (-1)) G.1 G.2.1 d_Cw_value_39 (by decide) ?_
      exact hret _ _ _ _ _ _ _ ls h hP hD hS (Nat.le_refl _) (Nat.le_refl _) d_Cw_value_40
    refine lv_ifnullN (tgt := 39) G.1 G.2.1 d_Cw_value_9 (by decide) ?_
    exact J_39 s_2 H locs h hP hD hS ls (lv_sub hl [] rfl)
  · skip
    obtain ⟨c_r_1b, h⟩ := h.2 _ rfl
    show W p l e ru_Cw_value s m args below meth c H locs 0 0 Q (F0 m 5 ls [.ref (ad r_1b)])
    refine lv_astore (lv' := [(5, .ref (ad r_1b)), (0, .ref (ad a0)), (1, .int v1), (2, .int v2), (3, .int v3), (4, .int v4)]) G.1 G.2.1 d_Cw_value_5 hl (by decide) rfl (fun ls hl => ?_)
    refine lv_aload G.1 G.2.1 d_Cw_value_7 (lv_at hl 0 rfl) ?_
    have J_39 : ∀ (s_j39 : St) (H : Heap) (locs : List Loc), wj_Cw_value_39 y Post a0 s_j39 → va_P D CL (ws g ad y s_j39) H → va_D A (ws g ad y s_j39) → va_S A s.heap H locs → ∀ ls, lv_has ls 9 [] → W p l e ru_Cw_value s m args below meth c H locs 0 0 Q (F0 m 39 ls []) := by
      intro s_j39 H locs h hP hD hS ls hl
      unfold wj_Cw_value_39 at h
      refine lv_iconst (v := (-1)) G.1 G.2.1 d_Cw_value_39 (by decide) ?_
      exact hret _ _ _ _ _ _ _ ls h hP hD hS (Nat.le_refl _) (Nat.le_refl _) d_Cw_value_40
    refine lv_ifnull G.1 G.2.1 d_Cw_value_9 ?_
    refine lv_iload_n G.1 G.2.1 d_Cw_value_12 rfl (lv_at hl 3 rfl) ?_
    refine lv_if_lt (tgt := 39) G.1 G.2.1 d_Cw_value_13 (by decide) (fun c13 => ?_) (fun c13 => ?_)
    · skip
      have h := h.1 c13
      exact J_39 s_2 H locs h hP hD hS ls (lv_sub hl [] rfl)
    · skip
      have h := h.2 c13
      refine lv_iload_n G.1 G.2.1 d_Cw_value_16 rfl (lv_at hl 3 rfl) ?_
      refine lv_iconst (v := 3) G.1 G.2.1 d_Cw_value_17 (by decide) ?_
      refine lv_icmp_ge (tgt := 39) G.1 G.2.1 d_Cw_value_18 (by decide) (fun c18 => ?_) (fun c18 => ?_)
      · skip
        have h := h.1 c18
        exact J_39 s_2 H locs h hP hD hS ls (lv_sub hl [] rfl)
      · skip
        have h := h.2 c18
        refine W.eq (g2 := F0 m 21 ls []) rfl ?_
        refine lv_aload G.1 G.2.1 d_Cw_value_21 (lv_at hl 0 rfl) ?_
        refine ugf (v := .ref (yP y r_1b 2)) G hP c_r_1b iMa rfl 2 (by decide) rfl q1070 rfl rfl d_Cw_value_23 ?_
        refine lv_iload_n G.1 G.2.1 d_Cw_value_26 rfl (lv_at hl 3 rfl) ?_
        refine uqald G hP (kdp c_r_1b rfl) (typ c_r_1b rfl) rfl h d_Cw_value_27 (fun b_3 n_4 h => ?_)
        refine ugf (v := .int (sV s_2 b_3 10)) G hP (oa_4 c_r_1b n_4) iRu rfl 10 (by decide) rfl q1007 rfl rfl d_Cw_value_28 ?_
        refine lv_if_eq (tgt := 39) G.1 G.2.1 d_Cw_value_31 (by decide) (fun c31 => ?_) (fun c31 => ?_)
        · skip
          have h := h.1 c31
          exact J_39 s_2 H locs h hP hD hS ls (lv_sub hl [] rfl)
        · skip
          have h := h.2 c31
          refine lv_iload G.1 G.2.1 d_Cw_value_34 (lv_at hl 5 rfl) ?_
          refine lv_if_ge (tgt := 41) G.1 G.2.1 d_Cw_value_36 (by decide) (fun c36 => ?_) (fun c36 => ?_)
          · skip
            have h := h.1 c36
            refine lv_aload G.1 G.2.1 d_Cw_value_41 (lv_at hl 0 rfl) ?_
            refine ugf (v := .ref (yP y r_1b 2)) G hP c_r_1b iMa rfl 2 (by decide) rfl q1070 rfl rfl d_Cw_value_43 ?_
            refine lv_iload_n G.1 G.2.1 d_Cw_value_46 rfl (lv_at hl 3 rfl) ?_
            refine uqald G hP (kdp c_r_1b rfl) (typ c_r_1b rfl) rfl h d_Cw_value_47 (fun b_5 n_6 h => ?_)
            refine W.eq (g2 := F0 m 48 ls [.ref (ad b_5)]) rfl ?_
            refine lv_astore (lv' := [(6, .ref (ad b_5)), (5, .ref (ad r_1b)), (0, .ref (ad a0)), (1, .int v1), (2, .int v2), (3, .int v3), (4, .int v4)]) G.1 G.2.1 d_Cw_value_48 hl (by decide) rfl (fun ls hl => ?_)
            refine lv_aload G.1 G.2.1 d_Cw_value_50 (lv_at hl 0 rfl) ?_
            refine ugf (v := .int (sV s_2 b_5 10)) G hP (oa_4 c_r_1b n_6) iRu rfl 10 (by decide) rfl q1007 rfl rfl d_Cw_value_52 ?_
            refine lv_iconst (v := 1) G.1 G.2.1 d_Cw_value_55 (by decide) ?_
            refine lv_isub G.1 G.2.1 d_Cw_value_56 ?_
            refine lv_istore (lv' := [(7, .int ((sV s_2 b_5 10) - 1)), (6, .ref (ad b_5)), (5, .ref (ad r_1b)), (0, .ref (ad a0)), (1, .int v1), (2, .int v2), (3, .int v3), (4, .int v4)]) G.1 G.2.1 d_Cw_value_57 hl (by decide) rfl (fun ls hl => ?_)
            refine lv_iload_n G.1 G.2.1 d_Cw_value_59 rfl (lv_at hl 6 rfl) ?_
            refine lv_if_eq (tgt := 92) G.1 G.2.1 d_Cw_value_60 (by decide) (fun c60 => ?_) (fun c60 => ?_)
            · skip
              have h := h.1 c60
              refine lv_aload G.1 G.2.1 d_Cw_value_92 (lv_at hl 2 rfl) ?_
              refine ugf (v := .ref (ad (lk r_1b 0))) G hP c_r_1b iMa rfl 0 (by decide) rfl q1066 rfl rfl d_Cw_value_94 ?_
              refine lv_aload G.1 G.2.1 d_Cw_value_97 (lv_at hl 1 rfl) ?_
              refine ugf (v := .ref (yP y b_5 11)) G hP (oa_4 c_r_1b n_6) iRu rfl 11 (by decide) rfl q1010 rfl rfl d_Cw_value_99 ?_
              refine W.eq (g2 := F0 m 102 ls [.ref (yP y b_5 11), .ref (ad (lk r_1b 0))]) rfl ?_
              refine lv_iload G.1 G.2.1 d_Cw_value_102 (lv_at hl 0 rfl) ?_
              refine uiald G hP (kdp (oa_4 c_r_1b n_6) rfl) (typ (oa_4 c_r_1b n_6) rfl) h d_Cw_value_104 (fun x_7 h => ?_)
              refine lv_aload G.1 G.2.1 d_Cw_value_105 (lv_at hl 1 rfl) ?_
              refine ugf (v := .ref (yP y b_5 12)) G hP (oa_4 c_r_1b n_6) iRu rfl 12 (by decide) rfl q1013 rfl rfl d_Cw_value_107 ?_
              refine lv_iload G.1 G.2.1 d_Cw_value_110 (lv_at hl 0 rfl) ?_
              refine uiald G hP (kdp (oa_4 c_r_1b n_6) rfl) (typ (oa_4 c_r_1b n_6) rfl) h d_Cw_value_112 (fun x_8 h => ?_)
              refine lv_iconst (v := 3) G.1 G.2.1 d_Cw_value_113 (by decide) ?_
              refine ucVi (As := [.int x_7, .int x_8, .int 3]) (rest := []) G hP hD hS (cu_Wd_method l D g ad y _ s_2 (lk r_1b 0) x_7 x_8 3 H.size (lk_4_0 c_r_1b) h) w9_Wd_method q1510 ⟨Nat.le_of_ble_eq_true rfl, Nat.le_of_ble_eq_true rfl⟩ rfl rfl (lk_4_0 c_r_1b) (q := (RWd, TWd, 17)) rfl rfl hl.1 rfl (Nat.le_of_ble_eq_true rfl) rfl ⟨Nat.le_refl _, Nat.le_refl _⟩ d_Cw_value_114 (fun r_9 s_10 H locs h hP hD hS => ?_)
              refine lv_istore (lv' := [(8, .int r_9), (7, .int ((sV s_2 b_5 10) - 1)), (6, .ref (ad b_5)), (5, .ref (ad r_1b)), (0, .ref (ad a0)), (1, .int v1), (2, .int v2), (3, .int v3), (4, .int v4)]) G.1 G.2.1 d_Cw_value_117 hl (by decide) rfl (fun ls hl => ?_)
              refine lv_iload G.1 G.2.1 d_Cw_value_119 (lv_at hl 8 rfl) ?_
              refine lv_iload G.1 G.2.1 d_Cw_value_121 (lv_at hl 0 rfl) ?_
              have J_141 : ∀ (s_j141 : St) (z0j141 : Int32) (H : Heap) (locs : List Loc), wj_Cw_value_141 y Post a0 s_j141 z0j141 → va_P D CL (ws g ad y s_j141) H → va_D A (ws g ad y s_j141) → va_S A s.heap H locs → ∀ ls, lv_has ls 9 [] → W p l e ru_Cw_value s m args below meth c H locs 0 0 Q (F0 m 141 ls [.int z0j141]) := by
                intro s_j141 z0j141 H locs h hP hD hS ls hl
                unfold wj_Cw_value_141 at h
                exact hret _ _ _ _ _ _ _ ls h hP hD hS (Nat.le_refl _) (Nat.le_refl _) d_Cw_value_141
              refine lv_icmp_lt (tgt := 130) G.1 G.2.1 d_Cw_value_123 (by decide) (fun c123 => ?_) (fun c123 => ?_)
              · skip
                have h := h.1 c123
                refine W.eq (g2 := F0 m 130 ls []) rfl ?_
                refine lv_aload_n G.1 G.2.1 d_Cw_value_130 rfl (lv_at hl 4 rfl) ?_
                refine lv_aload G.1 G.2.1 d_Cw_value_131 (lv_at hl 2 rfl) ?_
                refine lv_iload G.1 G.2.1 d_Cw_value_133 (lv_at hl 8 rfl) ?_
                refine ucVl (As := [.int v4]) (rest := [.ref (ad a0)]) G hP hD hS (cu_Ru_local l D g ad y _ s_10 b_5 v4 H.size (oa_4 c_r_1b n_6) h) w9_Ru_local q2123 ⟨Nat.le_of_ble_eq_true rfl, Nat.le_of_ble_eq_true rfl⟩ rfl rfl (oa_4 c_r_1b n_6) (q := (RRu, TRu, 19)) rfl rfl hl.1 rfl (Nat.le_of_ble_eq_true rfl) rfl ⟨Nat.le_refl _, Nat.le_refl _⟩ d_Cw_value_135 (fun r_11 s_12 H locs h hP hD hS => ?_)
                refine ucVi (As := [.long r_11]) (rest := []) G hP hD hS (cu_Cw_tell l D g ad y _ s_12 a0 r_11 H.size h_a0 h) w9_Cw_tell q2114 ⟨Nat.le_of_ble_eq_true rfl, Nat.le_of_ble_eq_true rfl⟩ rfl rfl h_a0 (q := (RCw, TCw, 20)) rfl rfl hl.1 rfl (Nat.le_of_ble_eq_true rfl) rfl ⟨Nat.le_refl _, Nat.le_refl _⟩ d_Cw_value_138 (fun r_13 s_14 H locs h hP hD hS => ?_)
                exact J_141 s_14 r_13 H locs h hP hD hS ls (lv_sub hl [] rfl)
              · skip
                have h := h.2 c123
                refine W.eq (g2 := F0 m 126 ls []) rfl ?_
                refine lv_iconst (v := (-1)) G.1 G.2.1 d_Cw_value_126 (by decide) ?_
                refine lv_goto (tgt := 141) G.1 G.2.1 d_Cw_value_127 (by decide) ?_
                exact J_141 s_10 (-1) H locs h hP hD hS ls (lv_sub hl [] rfl)
            · skip
              have h := h.2 c60
              refine lv_iload G.1 G.2.1 d_Cw_value_63 (lv_at hl 7 rfl) ?_
              refine lv_aload G.1 G.2.1 d_Cw_value_65 (lv_at hl 1 rfl) ?_
              refine ugf (v := .ref (yP y b_5 14)) G hP (oa_4 c_r_1b n_6) iRu rfl 14 (by decide) rfl q1019 rfl rfl d_Cw_value_67 ?_
              refine lv_iload G.1 G.2.1 d_Cw_value_70 (lv_at hl 0 rfl) ?_
              refine W.eq (g2 := F0 m 72 ls [.int ((sV s_2 b_5 10) - 1), .ref (yP y b_5 14), .int v4]) rfl ?_
              refine uiald G hP (kdp (oa_4 c_r_1b n_6) rfl) (typ (oa_4 c_r_1b n_6) rfl) h d_Cw_value_72 (fun x_15 h => ?_)
              have J_91 : ∀ (s_j91 : St) (z0j91 : Int32) (H : Heap) (locs : List Loc), wj_Cw_value_91 y Post a0 s_j91 z0j91 → va_P D CL (ws g ad y s_j91) H → va_D A (ws g ad y s_j91) → va_S A s.heap H locs → ∀ ls, lv_has ls 9 [] → W p l e ru_Cw_value s m args below meth c H locs 0 0 Q (F0 m 91 ls [.int z0j91]) := by
                intro s_j91 z0j91 H locs h hP hD hS ls hl
                unfold wj_Cw_value_91 at h
                exact hret _ _ _ _ _ _ _ ls h hP hD hS (Nat.le_refl _) (Nat.le_refl _) d_Cw_value_91
              refine lv_icmp_lt (tgt := 80) G.1 G.2.1 d_Cw_value_73 (by decide) (fun c73 => ?_) (fun c73 => ?_)
              · skip
                have h := h.1 c73
                refine lv_aload_n G.1 G.2.1 d_Cw_value_80 rfl (lv_at hl 3 rfl) ?_
                refine lv_aload G.1 G.2.1 d_Cw_value_81 (lv_at hl 1 rfl) ?_
                refine lv_iload G.1 G.2.1 d_Cw_value_83 (lv_at hl 7 rfl) ?_
                refine ucVl (As := [.int v4]) (rest := [.ref (ad a0)]) G hP hD hS (cu_Ru_fromTop l D g ad y _ s_2 b_5 v4 H.size (oa_4 c_r_1b n_6) h) w9_Ru_fromTop q2113 ⟨Nat.le_of_ble_eq_true rfl, Nat.le_of_ble_eq_true rfl⟩ rfl rfl (oa_4 c_r_1b n_6) (q := (RRu, TRu, 19)) rfl rfl hl.1 rfl (Nat.le_of_ble_eq_true rfl) rfl ⟨Nat.le_refl _, Nat.le_refl _⟩ d_Cw_value_85 (fun r_16 s_17 H locs h hP hD hS => ?_)
                refine ucVi (As := [.long r_16]) (rest := []) G hP hD hS (cu_Cw_tell l D g ad y _ s_17 a0 r_16 H.size h_a0 h) w9_Cw_tell q2114 ⟨Nat.le_of_ble_eq_true rfl, Nat.le_of_ble_eq_true rfl⟩ rfl rfl h_a0 (q := (RCw, TCw, 20)) rfl rfl hl.1 rfl (Nat.le_of_ble_eq_true rfl) rfl ⟨Nat.le_refl _, Nat.le_refl _⟩ d_Cw_value_88 (fun r_18 s_19 H locs h hP hD hS => ?_)
                exact J_91 s_19 r_18 H locs h hP hD hS ls (lv_sub hl [] rfl)
              · skip
                have h := h.2 c73
                refine lv_iconst (v := (-1)) G.1 G.2.1 d_Cw_value_76 (by decide) ?_
                refine lv_goto (tgt := 91) G.1 G.2.1 d_Cw_value_77 (by decide) ?_
                exact J_91 s_2 (-1) H locs h hP hD hS ls (lv_sub hl [] rfl)
          · skip
            have h := h.2 c36
            exact J_39 s_2 H locs h hP hD hS ls (lv_sub hl [] rfl)
def y_Cw_fixed : MethodName := ⟨"ClassWorks", "fixed", "(III)I"⟩
abbrev b_Cw_fixed : ByteArray := prog_1_method_31_code
theorem d_Cw_fixed_0 : decode b_Cw_fixed 0 = .ok (.aload_n 0, 1) := by decide +kernel
theorem d_Cw_fixed_1 : decode b_Cw_fixed 1 = .ok (.iload_n 1, 1) := by decide +kernel
theorem d_Cw_fixed_2 : decode b_Cw_fixed 2 = .ok (.iload_n 2, 1) := by decide +kernel
theorem d_Cw_fixed_3 : decode b_Cw_fixed 3 = .ok (.invokevirtual 150, 3) := by decide +kernel
theorem d_Cw_fixed_6 : decode b_Cw_fixed 6 = .ok (.astore 4, 2) := by decide +kernel
theorem d_Cw_fixed_8 : decode b_Cw_fixed 8 = .ok (.aload 4, 2) := by decide +kernel
theorem d_Cw_fixed_10 : decode b_Cw_fixed 10 = .ok (.ifnull 32, 3) := by decide +kernel
theorem d_Cw_fixed_13 : decode b_Cw_fixed 13 = .ok (.iload_n 3, 1) := by decide +kernel
theorem d_Cw_fixed_14 : decode b_Cw_fixed 14 = .ok (.ifCond .lt 28, 3) := by decide +kernel
theorem d_Cw_fixed_17 : decode b_Cw_fixed 17 = .ok (.iload_n 3, 1) := by decide +kernel
theorem d_Cw_fixed_18 : decode b_Cw_fixed 18 = .ok (.aload 4, 2) := by decide +kernel
theorem d_Cw_fixed_20 : decode b_Cw_fixed 20 = .ok (.iload_n 2, 1) := by decide +kernel
theorem d_Cw_fixed_21 : decode b_Cw_fixed 21 = .ok (.bipush 9, 2) := by decide +kernel
theorem d_Cw_fixed_23 : decode b_Cw_fixed 23 = .ok (.invokevirtual 158, 3) := by decide +kernel
theorem d_Cw_fixed_26 : decode b_Cw_fixed 26 = .ok (.if_icmp .ge 16, 3) := by decide +kernel
theorem d_Cw_fixed_29 : decode b_Cw_fixed 29 = .ok (.aload 4, 2) := by decide +kernel
theorem d_Cw_fixed_31 : decode b_Cw_fixed 31 = .ok (.iload_n 2, 1) := by decide +kernel
theorem d_Cw_fixed_32 : decode b_Cw_fixed 32 = .ok (.iload_n 3, 1) := by decide +kernel
theorem d_Cw_fixed_33 : decode b_Cw_fixed 33 = .ok (.iconst 2, 1) := by decide +kernel
theorem d_Cw_fixed_34 : decode b_Cw_fixed 34 = .ok (.invokevirtual 172, 3) := by decide +kernel
theorem d_Cw_fixed_37 : decode b_Cw_fixed 37 = .ok (.iconst 1, 1) := by decide +kernel
theorem d_Cw_fixed_38 : decode b_Cw_fixed 38 = .ok (.iand, 1) := by decide +kernel
theorem d_Cw_fixed_39 : decode b_Cw_fixed 39 = .ok (.ifCond .ne 5, 3) := by decide +kernel
theorem d_Cw_fixed_42 : decode b_Cw_fixed 42 = .ok (.iconst (-1), 1) := by decide +kernel
theorem d_Cw_fixed_43 : decode b_Cw_fixed 43 = .ok (.ireturn, 1) := by decide +kernel
theorem d_Cw_fixed_44 : decode b_Cw_fixed 44 = .ok (.aload 4, 2) := by decide +kernel
theorem d_Cw_fixed_46 : decode b_Cw_fixed 46 = .ok (.iload_n 2, 1) := by decide +kernel
theorem d_Cw_fixed_47 : decode b_Cw_fixed 47 = .ok (.iload_n 3, 1) := by decide +kernel
theorem d_Cw_fixed_48 : decode b_Cw_fixed 48 = .ok (.bipush 6, 2) := by decide +kernel
theorem d_Cw_fixed_50 : decode b_Cw_fixed 50 = .ok (.invokevirtual 172, 3) := by decide +kernel
theorem d_Cw_fixed_53 : decode b_Cw_fixed 53 = .ok (.istore 5, 2) := by decide +kernel
theorem d_Cw_fixed_55 : decode b_Cw_fixed 55 = .ok (.aload 4, 2) := by decide +kernel
theorem d_Cw_fixed_57 : decode b_Cw_fixed 57 = .ok (.iload_n 2, 1) := by decide +kernel
theorem d_Cw_fixed_58 : decode b_Cw_fixed 58 = .ok (.iload_n 3, 1) := by decide +kernel
theorem d_Cw_fixed_59 : decode b_Cw_fixed 59 = .ok (.iconst 1, 1) := by decide +kernel
theorem d_Cw_fixed_60 : decode b_Cw_fixed 60 = .ok (.invokevirtual 172, 3) := by decide +kernel
theorem d_Cw_fixed_63 : decode b_Cw_fixed 63 = .ok (.ifCond .ne 8, 3) := by decide +kernel
theorem d_Cw_fixed_66 : decode b_Cw_fixed 66 = .ok (.iload 5, 2) := by decide +kernel
theorem d_Cw_fixed_68 : decode b_Cw_fixed 68 = .ok (.goto 9, 3) := by decide +kernel
theorem d_Cw_fixed_71 : decode b_Cw_fixed 71 = .ok (.aload_n 0, 1) := by decide +kernel
theorem d_Cw_fixed_72 : decode b_Cw_fixed 72 = .ok (.iload 5, 2) := by decide +kernel
theorem d_Cw_fixed_74 : decode b_Cw_fixed 74 = .ok (.invokevirtual 320, 3) := by decide +kernel
theorem d_Cw_fixed_77 : decode b_Cw_fixed 77 = .ok (.ireturn, 1) := by decide +kernel
abbrev ru_Cw_fixed : Room := { frames := 3, cells := 0, slots := 0, locals := 66 }
def wj_Cw_fixed_42 (y : Ly) (Post : St → Int32 → Prop) (a0 : Nat) (s_j42 : St) : Prop := Post s_j42 (-1)
def wj_Cw_fixed_77 (y : Ly) (Post : St → Int32 → Prop) (a0 : Nat) (s_j77 : St) (z0j77 : Int32) : Prop := Post s_j77 z0j77
def wu_Cw_fixed (y : Ly) (Post : St → Int32 → Prop) (σ : St) (a0 : Nat) (v1 : Int32) (v2 : Int32) (v3 : Int32) : Prop := wu_Cw_worldWith y (fun (s_2 : St) (r_1 : Option Nat) => ((r_1 = none → wj_Cw_fixed_42 y Post a0 s_2) ∧ (∀ r_1b : Nat, r_1 = some r_1b → (cl r_1b = 9 ∧ ((v3 < 0 → wj_Cw_fixed_42 y Post a0 s_2) ∧ (¬ (v3 < 0) → wu_Wd_of y (fun (s_4 : St) (r_3 : Int32) => ((r_3 ≤ v3 → wj_Cw_fixed_42 y Post a0 s_4) ∧ (¬ (r_3 ≤ v3) → wu_Wd_field y (fun (s_6 : St) (r_5 : Int32) => ((¬ (r_5 &&& 1) = 0 → wu_Wd_field y (fun (s_8 : St) (r_7 : Int32) => wu_Wd_field y (fun (s_10 : St) (r_9 : Int32) => ((¬ r_9 = 0 → wu_Cw_tellReference y (fun (s_12 : St) (r_11 : Int32) => wj_Cw_fixed_77 y Post a0 s_12 r_11) s_10 a0 r_7) ∧ (r_9 = 0 → wj_Cw_fixed_77 y Post a0 s_10 r_7))) s_8 r_1b v2 v3 1) s_6 r_1b v2 v3 6) ∧ ((r_5 &&& 1) = 0 → wj_Cw_fixed_42 y Post a0 s_6))) s_4 r_1b v2 v3 2))) s_2 r_1b v2 9)))))) σ a0 v1 v2
set_option maxHeartbeats 4000000 in
set_option maxRecDepth 100000 in
theorem cu_Cw_fixed (l : Launch) (D : va_G) (g : Nat → ClassId) (ad : Nat → Nat) (y : Ly) (Post : St → Int32 → Prop) (σ : St) (a0 : Nat) (v1 : Int32) (v2 : Int32) (v3 : Int32) (sz : Nat) (h_a0 : cl a0 = 11) (h : wu_Cw_fixed y Post σ a0 v1 v2 v3) : Met l y_Cw_fixed (mw y_Cw_fixed b_Cw_fixed 6 (some .int)) ru_Cw_fixed (PC g D [] [.ref (ad a0), .int v1, .int v2, .int v3] sz (ws g ad y σ)) (va_Qi (fun (r : Int32) (u : St) => Post u r) (QW D (va_A (ws g ad y σ) sz) (fun u => ws g ad y u)) (va_A (ws g ad y σ) sz)) 0 0 (va_A (ws g ad y σ) sz) := by
  refine ofI (by decide +kernel) (Nat.le_of_ble_eq_true rfl) ?_
  intro p e s m args below meth c A Q ls H locs G hsz hP hD hS hl hret
  subst hsz
  have hl : lv_has ls 6 [(0, .ref (ad a0)), (1, .int v1), (2, .int v2), (3, .int v3)] := hl
  unfold wu_Cw_fixed at h
  refine lv_aload_n G.1 G.2.1 d_Cw_fixed_0 rfl (lv_at hl 0 rfl) ?_
  refine lv_iload_n G.1 G.2.1 d_Cw_fixed_1 rfl (lv_at hl 1 rfl) ?_
  refine lv_iload_n G.1 G.2.1 d_Cw_fixed_2 rfl (lv_at hl 2 rfl) ?_
  refine ucVq (As := [.int v1, .int v2]) (rest := []) G hP hD hS (cu_Cw_worldWith l D g ad y _ σ a0 v1 v2 H.size h_a0 h) w9_Cw_worldWith q1481 ⟨Nat.le_of_ble_eq_true rfl, Nat.le_of_ble_eq_true rfl⟩ rfl rfl h_a0 (q := (RCw, TCw, 20)) rfl rfl hl.1 rfl (Nat.le_of_ble_eq_true rfl) rfl ⟨Nat.le_refl _, Nat.le_refl _⟩ d_Cw_fixed_3 (fun r_1 s_2 H locs h hP hD hS => ?_)
  rcases r_1 with _ | r_1b
  · skip
    have h := h.1 rfl
    show W p l e ru_Cw_fixed s m args below meth c H locs 0 0 Q (F0 m 6 ls [.null])
    refine lv_astoreN (lv' := [(4, .null), (0, .ref (ad a0)), (1, .int v1), (2, .int v2), (3, .int v3)]) G.1 G.2.1 d_Cw_fixed_6 hl (by decide) rfl (fun ls hl => ?_)
    refine lv_aloadN G.1 G.2.1 d_Cw_fixed_8 (lv_at hl 0 rfl) ?_
    have J_42 : ∀ (s_j42 : St) (H : Heap) (locs : List Loc), wj_Cw_fixed_42 y Post a0 s_j42 → va_P D CL (ws g ad y s_j42) H → va_D A (ws g ad y s_j42) → va_S A s.heap H locs → ∀ ls, lv_has ls 6 [] → W p l e ru_Cw_fixed s m args below meth c H locs 0 0 Q (F0 m 42 ls []) := by
      intro s_j42 H locs h hP hD hS ls hl
      unfold wj_Cw_fixed_42 at h
      refine lv_iconst (v := (-1)) G.1 G.2.1 d_Cw_fixed_42 (by decide) ?_
      exact hret _ _ _ _ _ _ _ ls h hP hD hS (Nat.le_refl _) (Nat.le_refl _) d_Cw_fixed_43
    refine lv_ifnullN (tgt := 42) G.1 G.2.1 d_Cw_fixed_10 (by decide) ?_
    exact J_42 s_2 H locs h hP hD hS ls (lv_sub hl [] rfl)
  · skip
    obtain ⟨c_r_1b, h⟩ := h.2 _ rfl
    show W p l e ru_Cw_fixed s m args below meth c H locs 0 0 Q (F0 m 6 ls [.ref (ad r_1b)])
    refine lv_astore (lv' := [(4, .ref (ad r_1b)), (0, .ref (ad a0)), (1, .int v1), (2, .int v2), (3, .int v3)]) G.1 G.2.1 d_Cw_fixed_6 hl (by decide) rfl (fun ls hl => ?_)
    refine lv_aload G.1 G.2.1 d_Cw_fixed_8 (lv_at hl 0 rfl) ?_
    have J_42 : ∀ (s_j42 : St) (H : Heap) (locs : List Loc), wj_Cw_fixed_42 y Post a0 s_j42 → va_P D CL (ws g ad y s_j42) H → va_D A (ws g ad y s_j42) → va_S A s.heap H locs → ∀ ls, lv_has ls 6 [] → W p l e ru_Cw_fixed s m args below meth c H locs 0 0 Q (F0 m 42 ls []) := by
      intro s_j42 H locs h hP hD hS ls hl
      unfold wj_Cw_fixed_42 at h
      refine lv_iconst (v := (-1)) G.1 G.2.1 d_Cw_fixed_42 (by decide) ?_
      exact hret _ _ _ _ _ _ _ ls h hP hD hS (Nat.le_refl _) (Nat.le_refl _) d_Cw_fixed_43
    refine lv_ifnull G.1 G.2.1 d_Cw_fixed_10 ?_
    refine lv_iload_n G.1 G.2.1 d_Cw_fixed_13 rfl (lv_at hl 4 rfl) ?_
    refine lv_if_lt (tgt := 42) G.1 G.2.1 d_Cw_fixed_14 (by decide) (fun c14 => ?_) (fun c14 => ?_)
    · skip
      have h := h.1 c14
      exact J_42 s_2 H locs h hP hD hS ls (lv_sub hl [] rfl)
    · skip
      have h := h.2 c14
      refine lv_iload_n G.1 G.2.1 d_Cw_fixed_17 rfl (lv_at hl 4 rfl) ?_
      refine lv_aload G.1 G.2.1 d_Cw_fixed_18 (lv_at hl 0 rfl) ?_
      refine W.eq (g2 := F0 m 20 ls [.ref (ad r_1b), .int v3]) rfl ?_
      refine lv_iload_n G.1 G.2.1 d_Cw_fixed_20 rfl (lv_at hl 3 rfl) ?_
      refine lv_bipush (v := 9) G.1 G.2.1 d_Cw_fixed_21 (by decide) ?_
      refine ucVi (As := [.int v2, .int 9]) (rest := [.int v3]) G hP hD hS (cu_Wd_of l D g ad y _ s_2 r_1b v2 9 H.size c_r_1b h) w9_Wd_of q1493 ⟨Nat.le_of_ble_eq_true rfl, Nat.le_of_ble_eq_true rfl⟩ rfl rfl c_r_1b (q := (RWd, TWd, 17)) rfl rfl hl.1 rfl (Nat.le_of_ble_eq_true rfl) rfl ⟨Nat.le_refl _, Nat.le_refl _⟩ d_Cw_fixed_23 (fun r_3 s_4 H locs h hP hD hS => ?_)
      refine lv_icmp_ge (tgt := 42) G.1 G.2.1 d_Cw_fixed_26 (by decide) (fun c26 => ?_) (fun c26 => ?_)
      · skip
        have h := h.1 c26
        exact J_42 s_4 H locs h hP hD hS ls (lv_sub hl [] rfl)
      · skip
        have h := h.2 c26
        refine lv_aload G.1 G.2.1 d_Cw_fixed_29 (lv_at hl 0 rfl) ?_
        refine lv_iload_n G.1 G.2.1 d_Cw_fixed_31 rfl (lv_at hl 3 rfl) ?_
        refine lv_iload_n G.1 G.2.1 d_Cw_fixed_32 rfl (lv_at hl 4 rfl) ?_
        refine lv_iconst (v := 2) G.1 G.2.1 d_Cw_fixed_33 (by decide) ?_
        refine ucVi (As := [.int v2, .int v3, .int 2]) (rest := []) G hP hD hS (cu_Wd_field l D g ad y _ s_4 r_1b v2 v3 2 H.size c_r_1b h) w9_Wd_field q1506 ⟨Nat.le_of_ble_eq_true rfl, Nat.le_of_ble_eq_true rfl⟩ rfl rfl c_r_1b (q := (RWd, TWd, 17)) rfl rfl hl.1 rfl (Nat.le_of_ble_eq_true rfl) rfl ⟨Nat.le_refl _, Nat.le_refl _⟩ d_Cw_fixed_34 (fun r_5 s_6 H locs h hP hD hS => ?_)
        refine lv_iconst (v := 1) G.1 G.2.1 d_Cw_fixed_37 (by decide) ?_
        refine lv_iand G.1 G.2.1 d_Cw_fixed_38 ?_
        refine lv_if_ne (tgt := 44) G.1 G.2.1 d_Cw_fixed_39 (by decide) (fun c39 => ?_) (fun c39 => ?_)
        · skip
          have h := h.1 c39
          refine W.eq (g2 := F0 m 44 ls []) rfl ?_
          refine lv_aload G.1 G.2.1 d_Cw_fixed_44 (lv_at hl 0 rfl) ?_
          refine lv_iload_n G.1 G.2.1 d_Cw_fixed_46 rfl (lv_at hl 3 rfl) ?_
          refine lv_iload_n G.1 G.2.1 d_Cw_fixed_47 rfl (lv_at hl 4 rfl) ?_
          refine lv_bipush (v := 6) G.1 G.2.1 d_Cw_fixed_48 (by decide) ?_
          refine ucVi (As := [.int v2, .int v3, .int 6]) (rest := []) G hP hD hS (cu_Wd_field l D g ad y _ s_6 r_1b v2 v3 6 H.size c_r_1b h) w9_Wd_field q1506 ⟨Nat.le_of_ble_eq_true rfl, Nat.le_of_ble_eq_true rfl⟩ rfl rfl c_r_1b (q := (RWd, TWd, 17)) rfl rfl hl.1 rfl (Nat.le_of_ble_eq_true rfl) rfl ⟨Nat.le_refl _, Nat.le_refl _⟩ d_Cw_fixed_50 (fun r_7 s_8 H locs h hP hD hS => ?_)
          refine lv_istore (lv' := [(5, .int r_7), (4, .ref (ad r_1b)), (0, .ref (ad a0)), (1, .int v1), (2, .int v2), (3, .int v3)]) G.1 G.2.1 d_Cw_fixed_53 hl (by decide) rfl (fun ls hl => ?_)
          refine lv_aload G.1 G.2.1 d_Cw_fixed_55 (lv_at hl 1 rfl) ?_
          refine lv_iload_n G.1 G.2.1 d_Cw_fixed_57 rfl (lv_at hl 4 rfl) ?_
          refine lv_iload_n G.1 G.2.1 d_Cw_fixed_58 rfl (lv_at hl 5 rfl) ?_
          refine lv_iconst (v := 1) G.1 G.2.1 d_Cw_fixed_59 (by decide) ?_
          refine ucVi (As := [.int v2, .int v3, .int 1]) (rest := []) G hP hD hS (cu_Wd_field l D g ad y _ s_8 r_1b v2 v3 1 H.size c_r_1b h) w9_Wd_field q1506 ⟨Nat.le_of_ble_eq_true rfl, Nat.le_of_ble_eq_true rfl⟩ rfl rfl c_r_1b (q := (RWd, TWd, 17)) rfl rfl hl.1 rfl (Nat.le_of_ble_eq_true rfl) rfl ⟨Nat.le_refl _, Nat.le_refl _⟩ d_Cw_fixed_60 (fun r_9 s_10 H locs h hP hD hS => ?_)
          have J_77 : ∀ (s_j77 : St) (z0j77 : Int32) (H : Heap) (locs : List Loc), wj_Cw_fixed_77 y Post a0 s_j77 z0j77 → va_P D CL (ws g ad y s_j77) H → va_D A (ws g ad y s_j77) → va_S A s.heap H locs → ∀ ls, lv_has ls 6 [] → W p l e ru_Cw_fixed s m args below meth c H locs 0 0 Q (F0 m 77 ls [.int z0j77]) := by
            intro s_j77 z0j77 H locs h hP hD hS ls hl
            unfold wj_Cw_fixed_77 at h
            exact hret _ _ _ _ _ _ _ ls h hP hD hS (Nat.le_refl _) (Nat.le_refl _) d_Cw_fixed_77
          refine lv_if_ne (tgt := 71) G.1 G.2.1 d_Cw_fixed_63 (by decide) (fun c63 => ?_) (fun c63 => ?_)
          · skip
            have h := h.1 c63
            refine W.eq (g2 := F0 m 71 ls []) rfl ?_
            refine lv_aload_n G.1 G.2.1 d_Cw_fixed_71 rfl (lv_at hl 2 rfl) ?_
            refine lv_iload G.1 G.2.1 d_Cw_fixed_72 (lv_at hl 0 rfl) ?_
            refine ucVi (As := [.int r_7]) (rest := []) G hP hD hS (cu_Cw_tellReference l D g ad y _ s_10 a0 r_7 H.size h_a0 h) w9_Cw_tellReference q2119 ⟨Nat.le_of_ble_eq_true rfl, Nat.le_of_ble_eq_true rfl⟩ rfl rfl h_a0 (q := (RCw, TCw, 20)) rfl rfl hl.1 rfl (Nat.le_of_ble_eq_true rfl) rfl ⟨Nat.le_refl _, Nat.le_refl _⟩ d_Cw_fixed_74 (fun r_11 s_12 H locs h hP hD hS => ?_)
            exact J_77 s_12 r_11 H locs h hP hD hS ls (lv_sub hl [] rfl)
          · skip
            have h := h.2 c63
            refine W.eq (g2 := F0 m 66 ls []) rfl ?_
            refine lv_iload G.1 G.2.1 d_Cw_fixed_66 (lv_at hl 0 rfl) ?_
            refine lv_goto (tgt := 77) G.1 G.2.1 d_Cw_fixed_68 (by decide) ?_
            exact J_77 s_10 r_7 H locs h hP hD hS ls (lv_sub hl [] rfl)
        · skip
          have h := h.2 c39
          exact J_42 s_6 H locs h hP hD hS ls (lv_sub hl [] rfl)
def y_Ma_isOfObject : MethodName := ⟨"ClassWorks$Machine", "isOfObject", "(II)Z"⟩
abbrev b_Ma_isOfObject : ByteArray := prog_6_method_45_code
theorem d_Ma_isOfObject_0 : decode b_Ma_isOfObject 0 = .ok (.aload_n 0, 1) := by decide +kernel
theorem d_Ma_isOfObject_1 : decode b_Ma_isOfObject 1 = .ok (.getfield 69, 3) := by decide +kernel
theorem d_Ma_isOfObject_4 : decode b_Ma_isOfObject 4 = .ok (.iload_n 1, 1) := by decide +kernel
theorem d_Ma_isOfObject_5 : decode b_Ma_isOfObject 5 = .ok (.iload_n 2, 1) := by decide +kernel
theorem d_Ma_isOfObject_6 : decode b_Ma_isOfObject 6 = .ok (.iconst 2, 1) := by decide +kernel
theorem d_Ma_isOfObject_7 : decode b_Ma_isOfObject 7 = .ok (.invokevirtual 280, 3) := by decide +kernel
theorem d_Ma_isOfObject_10 : decode b_Ma_isOfObject 10 = .ok (.iconst 1, 1) := by decide +kernel
theorem d_Ma_isOfObject_11 : decode b_Ma_isOfObject 11 = .ok (.iand, 1) := by decide +kernel
theorem d_Ma_isOfObject_12 : decode b_Ma_isOfObject 12 = .ok (.ifCond .ne 7, 3) := by decide +kernel
theorem d_Ma_isOfObject_15 : decode b_Ma_isOfObject 15 = .ok (.iconst 1, 1) := by decide +kernel
theorem d_Ma_isOfObject_16 : decode b_Ma_isOfObject 16 = .ok (.goto 4, 3) := by decide +kernel
theorem d_Ma_isOfObject_19 : decode b_Ma_isOfObject 19 = .ok (.iconst 0, 1) := by decide +kernel
theorem d_Ma_isOfObject_20 : decode b_Ma_isOfObject 20 = .ok (.ireturn, 1) := by decide +kernel
abbrev ru_Ma_isOfObject : Room := { frames := 1, cells := 0, slots := 0, locals := 23 }
def wj_Ma_isOfObject_20 (y : Ly) (Post : St → Int32 → Prop) (a0 : Nat) (s_j20 : St) (z0j20 : Int32) : Prop := (nb z0j20 ∧ Post s_j20 z0j20)
def wu_Ma_isOfObject (y : Ly) (Post : St → Int32 → Prop) (σ : St) (a0 : Nat) (v1 : Int32) (v2 : Int32) : Prop := wu_Wd_field y (fun (s_2 : St) (r_1 : Int32) => ((¬ (r_1 &&& 1) = 0 → wj_Ma_isOfObject_20 y Post a0 s_2 0) ∧ ((r_1 &&& 1) = 0 → wj_Ma_isOfObject_20 y Post a0 s_2 1))) σ (lk a0 0) v1 v2 2
set_option maxHeartbeats 4000000 in
set_option maxRecDepth 100000 in
theorem cu_Ma_isOfObject (l : Launch) (D : va_G) (g : Nat → ClassId) (ad : Nat → Nat) (y : Ly) (Post : St → Int32 → Prop) (σ : St) (a0 : Nat) (v1 : Int32) (v2 : Int32) (sz : Nat) (h_a0 : cl a0 = 4) (h : wu_Ma_isOfObject y Post σ a0 v1 v2) : Met l y_Ma_isOfObject (mw y_Ma_isOfObject b_Ma_isOfObject 3 (some (.boolean))) ru_Ma_isOfObject (PC g D [] [.ref (ad a0), .int v1, .int v2] sz (ws g ad y σ)) (va_Qi (fun (r : Int32) (u : St) => Post u r) (QW D (va_A (ws g ad y σ) sz) (fun u => ws g ad y u)) (va_A (ws g ad y σ) sz)) 0 0 (va_A (ws g ad y σ) sz) := by
  refine ofZ (by decide +kernel) (Nat.le_of_ble_eq_true rfl) ?_
  intro p e s m args below meth c A Q ls H locs G hsz hP hD hS hl hret
  subst hsz
  have hl : lv_has ls 3 [(0, .ref (ad a0)), (1, .int v1), (2, .int v2)] := hl
  unfold wu_Ma_isOfObject at h
  refine lv_aload_n G.1 G.2.1 d_Ma_isOfObject_0 rfl (lv_at hl 0 rfl) ?_
  refine ugf (v := .ref (ad (lk a0 0))) G hP h_a0 iMa rfl 0 (by decide) rfl q1065 rfl rfl d_Ma_isOfObject_1 ?_
  refine lv_iload_n G.1 G.2.1 d_Ma_isOfObject_4 rfl (lv_at hl 1 rfl) ?_
  refine lv_iload_n G.1 G.2.1 d_Ma_isOfObject_5 rfl (lv_at hl 2 rfl) ?_
  refine lv_iconst (v := 2) G.1 G.2.1 d_Ma_isOfObject_6 (by decide) ?_
  refine ucVi (As := [.int v1, .int v2, .int 2]) (rest := []) G hP hD hS (cu_Wd_field l D g ad y _ σ (lk a0 0) v1 v2 2 H.size (lk_4_0 h_a0) h) w9_Wd_field q1988 ⟨Nat.le_of_ble_eq_true rfl, Nat.le_of_ble_eq_true rfl⟩ rfl rfl (lk_4_0 h_a0) (q := (RWd, TWd, 17)) rfl rfl hl.1 rfl (Nat.le_of_ble_eq_true rfl) rfl ⟨Nat.le_refl _, Nat.le_refl _⟩ d_Ma_isOfObject_7 (fun r_1 s_2 H locs h hP hD hS => ?_)
  refine lv_iconst (v := 1) G.1 G.2.1 d_Ma_isOfObject_10 (by decide) ?_
  refine lv_iand G.1 G.2.1 d_Ma_isOfObject_11 ?_
  have J_20 : ∀ (s_j20 : St) (z0j20 : Int32) (H : Heap) (locs : List Loc), wj_Ma_isOfObject_20 y Post a0 s_j20 z0j20 → va_P D CL (ws g ad y s_j20) H → va_D A (ws g ad y s_j20) → va_S A s.heap H locs → ∀ ls, lv_has ls 3 [] → W p l e ru_Ma_isOfObject s m args below meth c H locs 0 0 Q (F0 m 20 ls [.int z0j20]) := by
    intro s_j20 z0j20 H locs h hP hD hS ls hl
    unfold wj_Ma_isOfObject_20 at h
    exact hret _ _ _ _ _ _ _ ls (nb_n h.1) h.2 hP hD hS (Nat.le_refl _) (Nat.le_refl _) d_Ma_isOfObject_20
  refine lv_if_ne (tgt := 19) G.1 G.2.1 d_Ma_isOfObject_12 (by decide) (fun c12 => ?_) (fun c12 => ?_)
  · skip
    have h := h.1 c12
    refine lv_iconst (v := 0) G.1 G.2.1 d_Ma_isOfObject_19 (by decide) ?_
    exact J_20 s_2 0 H locs h hP hD hS ls (lv_sub hl [] rfl)
  · skip
    have h := h.2 c12
    refine lv_iconst (v := 1) G.1 G.2.1 d_Ma_isOfObject_15 (by decide) ?_
    refine lv_goto (tgt := 20) G.1 G.2.1 d_Ma_isOfObject_16 (by decide) ?_
    exact J_20 s_2 1 H locs h hP hD hS ls (lv_sub hl [] rfl)
theorem q915 : Cond.fieldLink "ClassWorks$Machine" 464 "ClassWorks$Heap" "kind" "[I" ∈ lw_ok := lw_okmem (List.mem_of_getElem? (i := 915) (by decide +kernel)) rfl
theorem q2138 : Cond.methodLink "ClassWorks$Machine" 467 y_Ma_isOfObject ∈ lw_ok := lw_okmem (List.mem_of_getElem? (i := 2138) (by decide +kernel)) rfl
theorem q2141 : Cond.code y_Ma_isOfObject b_Ma_isOfObject 3 (some (.boolean)) ∈ lw_ok := lw_okmem (List.mem_of_getElem? (i := 2141) (by decide +kernel)) rfl
theorem q2140 : Cond.instanceMethod y_Ma_isOfObject ∈ lw_ok := lw_okmem (List.mem_of_getElem? (i := 2140) (by decide +kernel)) rfl
theorem q117 : Cond.selects y_Ma_isOfObject.cls y_Ma_isOfObject y_Ma_isOfObject ∈ lw_ok := lw_okmem (List.mem_of_getElem? (i := 117) (by decide +kernel)) rfl
theorem w9_Ma_isOfObject : CWv y_Ma_isOfObject b_Ma_isOfObject 3 (some (.boolean)) 2 ∧ Cond.instanceMethod y_Ma_isOfObject ∈ lw_ok ∧ Cond.selects y_Ma_isOfObject.cls y_Ma_isOfObject y_Ma_isOfObject ∈ lw_ok := ⟨⟨q2141, q344, by decide +kernel, by decide +kernel, by decide +kernel⟩, q2140, q117⟩
def y_Ma_slotIsNumber : MethodName := ⟨"ClassWorks$Machine", "slotIsNumber", "(II)Z"⟩
abbrev b_Ma_slotIsNumber : ByteArray := prog_6_method_44_code
theorem d_Ma_slotIsNumber_0 : decode b_Ma_slotIsNumber 0 = .ok (.aload_n 0, 1) := by decide +kernel
theorem d_Ma_slotIsNumber_1 : decode b_Ma_slotIsNumber 1 = .ok (.getfield 12, 3) := by decide +kernel
theorem d_Ma_slotIsNumber_4 : decode b_Ma_slotIsNumber 4 = .ok (.getfield 464, 3) := by decide +kernel
theorem d_Ma_slotIsNumber_7 : decode b_Ma_slotIsNumber 7 = .ok (.iload_n 1, 1) := by decide +kernel
theorem d_Ma_slotIsNumber_8 : decode b_Ma_slotIsNumber 8 = .ok (.iaload, 1) := by decide +kernel
theorem d_Ma_slotIsNumber_9 : decode b_Ma_slotIsNumber 9 = .ok (.istore_n 3, 1) := by decide +kernel
theorem d_Ma_slotIsNumber_10 : decode b_Ma_slotIsNumber 10 = .ok (.iconst 0, 1) := by decide +kernel
theorem d_Ma_slotIsNumber_11 : decode b_Ma_slotIsNumber 11 = .ok (.istore 4, 2) := by decide +kernel
theorem d_Ma_slotIsNumber_13 : decode b_Ma_slotIsNumber 13 = .ok (.iload 4, 2) := by decide +kernel
theorem d_Ma_slotIsNumber_15 : decode b_Ma_slotIsNumber 15 = .ok (.bipush 51, 2) := by decide +kernel
theorem d_Ma_slotIsNumber_17 : decode b_Ma_slotIsNumber 17 = .ok (.if_icmp .ge 103, 3) := by decide +kernel
theorem d_Ma_slotIsNumber_20 : decode b_Ma_slotIsNumber 20 = .ok (.iload_n 3, 1) := by decide +kernel
theorem d_Ma_slotIsNumber_21 : decode b_Ma_slotIsNumber 21 = .ok (.ifCond .lt 99, 3) := by decide +kernel
theorem d_Ma_slotIsNumber_24 : decode b_Ma_slotIsNumber 24 = .ok (.iconst 0, 1) := by decide +kernel
theorem d_Ma_slotIsNumber_25 : decode b_Ma_slotIsNumber 25 = .ok (.istore 5, 2) := by decide +kernel
theorem d_Ma_slotIsNumber_27 : decode b_Ma_slotIsNumber 27 = .ok (.iload 5, 2) := by decide +kernel
theorem d_Ma_slotIsNumber_29 : decode b_Ma_slotIsNumber 29 = .ok (.aload_n 0, 1) := by decide +kernel
theorem d_Ma_slotIsNumber_30 : decode b_Ma_slotIsNumber 30 = .ok (.getfield 69, 3) := by decide +kernel
theorem d_Ma_slotIsNumber_33 : decode b_Ma_slotIsNumber 33 = .ok (.iload_n 3, 1) := by decide +kernel
theorem d_Ma_slotIsNumber_34 : decode b_Ma_slotIsNumber 34 = .ok (.bipush 9, 2) := by decide +kernel
theorem d_Ma_slotIsNumber_36 : decode b_Ma_slotIsNumber 36 = .ok (.invokevirtual 192, 3) := by decide +kernel
theorem d_Ma_slotIsNumber_39 : decode b_Ma_slotIsNumber 39 = .ok (.if_icmp .ge 66, 3) := by decide +kernel
theorem d_Ma_slotIsNumber_42 : decode b_Ma_slotIsNumber 42 = .ok (.aload_n 0, 1) := by decide +kernel
theorem d_Ma_slotIsNumber_43 : decode b_Ma_slotIsNumber 43 = .ok (.getfield 69, 3) := by decide +kernel
theorem d_Ma_slotIsNumber_46 : decode b_Ma_slotIsNumber 46 = .ok (.iload_n 3, 1) := by decide +kernel
theorem d_Ma_slotIsNumber_47 : decode b_Ma_slotIsNumber 47 = .ok (.iload 5, 2) := by decide +kernel
theorem d_Ma_slotIsNumber_49 : decode b_Ma_slotIsNumber 49 = .ok (.iconst 5, 1) := by decide +kernel
theorem d_Ma_slotIsNumber_50 : decode b_Ma_slotIsNumber 50 = .ok (.invokevirtual 280, 3) := by decide +kernel
theorem d_Ma_slotIsNumber_53 : decode b_Ma_slotIsNumber 53 = .ok (.iload_n 2, 1) := by decide +kernel
theorem d_Ma_slotIsNumber_54 : decode b_Ma_slotIsNumber 54 = .ok (.if_icmp .ne 17, 3) := by decide +kernel
theorem d_Ma_slotIsNumber_57 : decode b_Ma_slotIsNumber 57 = .ok (.aload_n 0, 1) := by decide +kernel
theorem d_Ma_slotIsNumber_58 : decode b_Ma_slotIsNumber 58 = .ok (.iload_n 3, 1) := by decide +kernel
theorem d_Ma_slotIsNumber_59 : decode b_Ma_slotIsNumber 59 = .ok (.iload 5, 2) := by decide +kernel
theorem d_Ma_slotIsNumber_61 : decode b_Ma_slotIsNumber 61 = .ok (.invokevirtual 467, 3) := by decide +kernel
theorem d_Ma_slotIsNumber_64 : decode b_Ma_slotIsNumber 64 = .ok (.ifCond .eq 7, 3) := by decide +kernel
theorem d_Ma_slotIsNumber_67 : decode b_Ma_slotIsNumber 67 = .ok (.iconst 1, 1) := by decide +kernel
theorem d_Ma_slotIsNumber_68 : decode b_Ma_slotIsNumber 68 = .ok (.goto 4, 3) := by decide +kernel
theorem d_Ma_slotIsNumber_71 : decode b_Ma_slotIsNumber 71 = .ok (.iconst 0, 1) := by decide +kernel
theorem d_Ma_slotIsNumber_72 : decode b_Ma_slotIsNumber 72 = .ok (.istore 6, 2) := by decide +kernel
theorem d_Ma_slotIsNumber_74 : decode b_Ma_slotIsNumber 74 = .ok (.iload 6, 2) := by decide +kernel
theorem d_Ma_slotIsNumber_76 : decode b_Ma_slotIsNumber 76 = .ok (.ifCond .eq 23, 3) := by decide +kernel
theorem d_Ma_slotIsNumber_79 : decode b_Ma_slotIsNumber 79 = .ok (.aload_n 0, 1) := by decide +kernel
theorem d_Ma_slotIsNumber_80 : decode b_Ma_slotIsNumber 80 = .ok (.getfield 69, 3) := by decide +kernel
theorem d_Ma_slotIsNumber_83 : decode b_Ma_slotIsNumber 83 = .ok (.iload_n 3, 1) := by decide +kernel
theorem d_Ma_slotIsNumber_84 : decode b_Ma_slotIsNumber 84 = .ok (.iload 5, 2) := by decide +kernel
theorem d_Ma_slotIsNumber_86 : decode b_Ma_slotIsNumber 86 = .ok (.iconst 1, 1) := by decide +kernel
theorem d_Ma_slotIsNumber_87 : decode b_Ma_slotIsNumber 87 = .ok (.invokevirtual 280, 3) := by decide +kernel
theorem d_Ma_slotIsNumber_90 : decode b_Ma_slotIsNumber 90 = .ok (.ifCond .ne 7, 3) := by decide +kernel
theorem d_Ma_slotIsNumber_93 : decode b_Ma_slotIsNumber 93 = .ok (.iconst 1, 1) := by decide +kernel
theorem d_Ma_slotIsNumber_94 : decode b_Ma_slotIsNumber 94 = .ok (.goto 4, 3) := by decide +kernel
theorem d_Ma_slotIsNumber_97 : decode b_Ma_slotIsNumber 97 = .ok (.iconst 0, 1) := by decide +kernel
theorem d_Ma_slotIsNumber_98 : decode b_Ma_slotIsNumber 98 = .ok (.ireturn, 1) := by decide +kernel
theorem d_Ma_slotIsNumber_99 : decode b_Ma_slotIsNumber 99 = .ok (.iinc 5 1, 3) := by decide +kernel
theorem d_Ma_slotIsNumber_102 : decode b_Ma_slotIsNumber 102 = .ok (.goto (-75), 3) := by decide +kernel
theorem d_Ma_slotIsNumber_105 : decode b_Ma_slotIsNumber 105 = .ok (.aload_n 0, 1) := by decide +kernel
theorem d_Ma_slotIsNumber_106 : decode b_Ma_slotIsNumber 106 = .ok (.getfield 69, 3) := by decide +kernel
theorem d_Ma_slotIsNumber_109 : decode b_Ma_slotIsNumber 109 = .ok (.iload_n 3, 1) := by decide +kernel
theorem d_Ma_slotIsNumber_110 : decode b_Ma_slotIsNumber 110 = .ok (.invokevirtual 171, 3) := by decide +kernel
theorem d_Ma_slotIsNumber_113 : decode b_Ma_slotIsNumber 113 = .ok (.istore_n 3, 1) := by decide +kernel
theorem d_Ma_slotIsNumber_114 : decode b_Ma_slotIsNumber 114 = .ok (.iinc 4 1, 3) := by decide +kernel
theorem d_Ma_slotIsNumber_117 : decode b_Ma_slotIsNumber 117 = .ok (.goto (-104), 3) := by decide +kernel
theorem d_Ma_slotIsNumber_120 : decode b_Ma_slotIsNumber 120 = .ok (.iconst 1, 1) := by decide +kernel
theorem d_Ma_slotIsNumber_121 : decode b_Ma_slotIsNumber 121 = .ok (.ireturn, 1) := by decide +kernel
abbrev ru_Ma_slotIsNumber : Room := { frames := 2, cells := 0, slots := 0, locals := 45 }
def wj_Ma_slotIsNumber_120 (y : Ly) (Post : St → Int32 → Prop) (a0 : Nat) (s_j120 : St) : Prop := (nb 1 ∧ Post s_j120 1)
def wj_Ma_slotIsNumber_98 (y : Ly) (Post : St → Int32 → Prop) (a0 : Nat) (s_j98 : St) (z0j98 : Int32) : Prop := (nb z0j98 ∧ Post s_j98 z0j98)
def wj_Ma_slotIsNumber_72 (y : Ly) (Post : St → Int32 → Prop) (K_13 : St → Int32 → Int32 → Int32 → Prop) (K_27 : St → Int32 → Int32 → Int32 → Int32 → Prop) (a0 : Nat) (s_j72 : St) (x2j72 : Int32) (x3j72 : Int32) (x4j72 : Int32) (x5j72 : Int32) (z0j72 : Int32) : Prop := ((z0j72 = 0 → K_27 s_j72 x2j72 x3j72 x4j72 (x5j72 + 1)) ∧ (¬ (z0j72 = 0) → wu_Wd_field y (fun (s_9 : St) (r_8 : Int32) => ((¬ r_8 = 0 → wj_Ma_slotIsNumber_98 y Post a0 s_9 0) ∧ (r_8 = 0 → wj_Ma_slotIsNumber_98 y Post a0 s_9 1))) s_j72 (lk a0 0) x3j72 x5j72 1))
def wj_Ma_slotIsNumber_71 (y : Ly) (Post : St → Int32 → Prop) (K_13 : St → Int32 → Int32 → Int32 → Prop) (K_27 : St → Int32 → Int32 → Int32 → Int32 → Prop) (a0 : Nat) (s_j71 : St) (x2j71 : Int32) (x3j71 : Int32) (x4j71 : Int32) (x5j71 : Int32) : Prop := wj_Ma_slotIsNumber_72 y Post K_13 K_27 a0 s_j71 x2j71 x3j71 x4j71 x5j71 0
def wb_Ma_slotIsNumber_27 (y : Ly) (Post : St → Int32 → Prop) (K_13 : St → Int32 → Int32 → Int32 → Prop) (K_27 : St → Int32 → Int32 → Int32 → Int32 → Prop) (a0 : Nat) (s_h27 : St) (x2h27 : Int32) (x3h27 : Int32) (x4h27 : Int32) (x5h27 : Int32) : Prop := wu_Wd_of y (fun (s_3 : St) (r_2 : Int32) => ((r_2 ≤ x5h27 → wu_Wd_up y (fun (s_5 : St) (r_4 : Int32) => K_13 s_5 x2h27 r_4 (x4h27 + 1)) s_3 (lk a0 0) x3h27) ∧ (¬ (r_2 ≤ x5h27) → wu_Wd_field y (fun (s_7 : St) (r_6 : Int32) => ((¬ r_6 = x2h27 → wj_Ma_slotIsNumber_71 y Post K_13 K_27 a0 s_7 x2h27 x3h27 x4h27 x5h27) ∧ (r_6 = x2h27 → wu_Ma_isOfObject y (fun (s_11 : St) (r_10 : Int32) => ((r_10 = 0 → wj_Ma_slotIsNumber_71 y Post K_13 K_27 a0 s_11 x2h27 x3h27 x4h27 x5h27) ∧ (¬ (r_10 = 0) → wj_Ma_slotIsNumber_72 y Post K_13 K_27 a0 s_11 x2h27 x3h27 x4h27 x5h27 1))) s_7 a0 x3h27 x5h27))) s_3 (lk a0 0) x3h27 x5h27 5))) s_h27 (lk a0 0) x3h27 9
def wl_Ma_slotIsNumber_27 (y : Ly) (Post : St → Int32 → Prop) (K_13 : St → Int32 → Int32 → Int32 → Prop) (a0 : Nat) (s_h27 : St) (x2h27 : Int32) (x3h27 : Int32) (x4h27 : Int32) (x5h27 : Int32) : Prop := ∃ (I : St → Int32 → Int32 → Int32 → Int32 → Prop) (μ : St → Int32 → Int32 → Int32 → Int32 → Nat), I s_h27 x2h27 x3h27 x4h27 x5h27 ∧ ∀ (u : St) (t0 : Int32) (t1 : Int32) (t2 : Int32) (t3 : Int32), I u t0 t1 t2 t3 → wb_Ma_slotIsNumber_27 y Post K_13 (fun z t0q t1q t2q t3q => I z t0q t1q t2q t3q ∧ μ z t0q t1q t2q t3q < μ u t0 t1 t2 t3) a0 u t0 t1 t2 t3
def wb_Ma_slotIsNumber_13 (y : Ly) (Post : St → Int32 → Prop) (K_13 : St → Int32 → Int32 → Int32 → Prop) (a0 : Nat) (s_h13 : St) (x2h13 : Int32) (x3h13 : Int32) (x4h13 : Int32) : Prop := ((51 ≤ x4h13 → wj_Ma_slotIsNumber_120 y Post a0 s_h13) ∧ (¬ (51 ≤ x4h13) → ((x3h13 < 0 → wj_Ma_slotIsNumber_120 y Post a0 s_h13) ∧ (¬ (x3h13 < 0) → wl_Ma_slotIsNumber_27 y Post K_13 a0 s_h13 x2h13 x3h13 x4h13 0))))
def wl_Ma_slotIsNumber_13 (y : Ly) (Post : St → Int32 → Prop) (a0 : Nat) (s_h13 : St) (x2h13 : Int32) (x3h13 : Int32) (x4h13 : Int32) : Prop := ∃ (I : St → Int32 → Int32 → Int32 → Prop) (μ : St → Int32 → Int32 → Int32 → Nat), I s_h13 x2h13 x3h13 x4h13 ∧ ∀ (u : St) (t0 : Int32) (t1 : Int32) (t2 : Int32), I u t0 t1 t2 → wb_Ma_slotIsNumber_13 y Post (fun z t0q t1q t2q => I z t0q t1q t2q ∧ μ z t0q t1q t2q < μ u t0 t1 t2) a0 u t0 t1 t2
def wu_Ma_slotIsNumber (y : Ly) (Post : St → Int32 → Prop) (σ : St) (a0 : Nat) (v1 : Int32) (v2 : Int32) : Prop := xA y σ (lk a0 1) 0 v1 (fun x_1 : Int32 => wl_Ma_slotIsNumber_13 y Post a0 σ v2 x_1 0)
set_option maxHeartbeats 4000000 in
set_option maxRecDepth 100000 in
theorem cu_Ma_slotIsNumber (l : Launch) (D : va_G) (g : Nat → ClassId) (ad : Nat → Nat) (y : Ly) (Post : St → Int32 → Prop) (σ : St) (a0 : Nat) (v1 : Int32) (v2 : Int32) (sz : Nat) (h_a0 : cl a0 = 4) (h : wu_Ma_slotIsNumber y Post σ a0 v1 v2) : Met l y_Ma_slotIsNumber (mw y_Ma_slotIsNumber b_Ma_slotIsNumber 7 (some (.boolean))) ru_Ma_slotIsNumber (PC g D [] [.ref (ad a0), .int v1, .int v2] sz (ws g ad y σ)) (va_Qi (fun (r : Int32) (u : St) => Post u r) (QW D (va_A (ws g ad y σ) sz) (fun u => ws g ad y u)) (va_A (ws g ad y σ) sz)) 0 0 (va_A (ws g ad y σ) sz) := by
  refine ofZ (by decide +kernel) (Nat.le_of_ble_eq_true rfl) ?_
  intro p e s m args below meth c A Q ls H locs G hsz hP hD hS hl hret
  subst hsz
  have hl : lv_has ls 7 [(0, .ref (ad a0)), (1, .int v1), (2, .int v2)] := hl
  unfold wu_Ma_slotIsNumber at h
  refine lv_aload_n G.1 G.2.1 d_Ma_slotIsNumber_0 rfl (lv_at hl 0 rfl) ?_
  refine ugf (v := .ref (ad (lk a0 1))) G hP h_a0 iMa rfl 1 (by decide) rfl q1067 rfl rfl d_Ma_slotIsNumber_1 ?_
  refine ugf (v := .ref (yP y (lk a0 1) 0)) G hP (lk_4_1 h_a0) iHp rfl 0 (by decide) rfl q915 rfl rfl d_Ma_slotIsNumber_4 ?_
  refine lv_iload_n G.1 G.2.1 d_Ma_slotIsNumber_7 rfl (lv_at hl 1 rfl) ?_
  refine uiald G hP (kdp (lk_4_1 h_a0) rfl) (typ (lk_4_1 h_a0) rfl) h d_Ma_slotIsNumber_8 (fun x_1 h => ?_)
  refine lv_istore_n (lv' := [(3, .int x_1), (0, .ref (ad a0)), (1, .int v1), (2, .int v2)]) G.1 G.2.1 d_Ma_slotIsNumber_9 rfl hl (by decide) rfl (fun ls hl => ?_)
  refine lv_iconst (v := 0) G.1 G.2.1 d_Ma_slotIsNumber_10 (by decide) ?_
  refine lv_istore (lv' := [(4, .int 0), (3, .int x_1), (0, .ref (ad a0)), (1, .int v1), (2, .int v2)]) G.1 G.2.1 d_Ma_slotIsNumber_11 hl (by decide) rfl (fun ls hl => ?_)
  unfold wl_Ma_slotIsNumber_13 at h
  obtain ⟨I_13, μ_13, hI_13, hB_13⟩ := h
  have L_13 : ∀ (n_13 : Nat) (s_h13 : St) (x2h13 : Int32) (x3h13 : Int32) (x4h13 : Int32), μ_13 s_h13 x2h13 x3h13 x4h13 < n_13 → I_13 s_h13 x2h13 x3h13 x4h13 → ∀ (H : Heap) (locs : List Loc), va_P D CL (ws g ad y s_h13) H → va_D A (ws g ad y s_h13) → va_S A s.heap H locs → ∀ ls, lv_has ls 7 [(0, .ref (ad a0)), (2, .int x2h13), (3, .int x3h13), (4, .int x4h13)] → W p l e ru_Ma_slotIsNumber s m args below meth c H locs 0 0 Q (F0 m 13 ls []) := by
    intro n_13
    induction n_13 with
    | zero => intro s_h13 x2h13 x3h13 x4h13 hμ; exact absurd hμ (Nat.not_lt_zero _)
    | succ n_13 ih_13 =>
      intro s_h13 x2h13 x3h13 x4h13 hμ_13 hJ H locs hP hD hS ls hl
      obtain ⟨K_13, hK_13, h⟩ : ∃ K : St → Int32 → Int32 → Int32 → Prop, (∀ z (t0 : Int32) (t1 : Int32) (t2 : Int32), K z t0 t1 t2 → I_13 z t0 t1 t2 ∧ μ_13 z t0 t1 t2 < μ_13 s_h13 x2h13 x3h13 x4h13) ∧ wb_Ma_slotIsNumber_13 y Post K a0 s_h13 x2h13 x3h13 x4h13 := ⟨_, fun _ _ _ _ h => h, hB_13 s_h13 x2h13 x3h13 x4h13 hJ⟩
      unfold wb_Ma_slotIsNumber_13 at h
      refine lv_iload G.1 G.2.1 d_Ma_slotIsNumber_13 (lv_at hl 3 rfl) ?_
      refine lv_bipush (v := 51) G.1 G.2.1 d_Ma_slotIsNumber_15 (by decide) ?_
      have J_120 : ∀ (s_j120 : St) (H : Heap) (locs : List Loc), wj_Ma_slotIsNumber_120 y Post a0 s_j120 → va_P D CL (ws g ad y s_j120) H → va_D A (ws g ad y s_j120) → va_S A s.heap H locs → ∀ ls, lv_has ls 7 [] → W p l e ru_Ma_slotIsNumber s m args below meth c H locs 0 0 Q (F0 m 120 ls []) := by
        intro s_j120 H locs h hP hD hS ls hl
        unfold wj_Ma_slotIsNumber_120 at h
        refine lv_iconst (v := 1) G.1 G.2.1 d_Ma_slotIsNumber_120 (by decide) ?_
        exact hret _ _ _ _ _ _ _ ls (nb_n h.1) h.2 hP hD hS (Nat.le_refl _) (Nat.le_refl _) d_Ma_slotIsNumber_121
      refine lv_icmp_ge (tgt := 120) G.1 G.2.1 d_Ma_slotIsNumber_17 (by decide) (fun c17 => ?_) (fun c17 => ?_)
      · skip
        have h := h.1 c17
        exact J_120 s_h13 H locs h hP hD hS ls (lv_sub hl [] rfl)
      · skip
        have h := h.2 c17
        refine lv_iload_n G.1 G.2.1 d_Ma_slotIsNumber_20 rfl (lv_at hl 2 rfl) ?_
        refine lv_if_lt (tgt := 120) G.1 G.2.1 d_Ma_slotIsNumber_21 (by decide) (fun c21 => ?_) (fun c21 => ?_)
        · skip
          have h := h.1 c21
          exact J_120 s_h13 H locs h hP hD hS ls (lv_sub hl [] rfl)
        · skip
          have h := h.2 c21
          refine lv_iconst (v := 0) G.1 G.2.1 d_Ma_slotIsNumber_24 (by decide) ?_
          refine lv_istore (lv' := [(5, .int 0), (0, .ref (ad a0)), (2, .int x2h13), (3, .int x3h13), (4, .int x4h13)]) G.1 G.2.1 d_Ma_slotIsNumber_25 hl (by decide) rfl (fun ls hl => ?_)
          unfold wl_Ma_slotIsNumber_27 at h
          obtain ⟨I_27, μ_27, hI_27, hB_27⟩ := h
          have L_27 : ∀ (n_27 : Nat) (s_h27 : St) (x2h27 : Int32) (x3h27 : Int32) (x4h27 : Int32) (x5h27 : Int32), μ_27 s_h27 x2h27 x3h27 x4h27 x5h27 < n_27 → I_27 s_h27 x2h27 x3h27 x4h27 x5h27 → ∀ (H : Heap) (locs : List Loc), va_P D CL (ws g ad y s_h27) H → va_D A (ws g ad y s_h27) → va_S A s.heap H locs → ∀ ls, lv_has ls 7 [(0, .ref (ad a0)), (2, .int x2h27), (3, .int x3h27), (4, .int x4h27), (5, .int x5h27)] → W p l e ru_Ma_slotIsNumber s m args below meth c H locs 0 0 Q (F0 m 27 ls []) := by
            intro n_27
            induction n_27 with
            | zero => intro s_h27 x2h27 x3h27 x4h27 x5h27 hμ; exact absurd hμ (Nat.not_lt_zero _)
            | succ n_27 ih_27 =>
              intro s_h27 x2h27 x3h27 x4h27 x5h27 hμ_27 hJ H locs hP hD hS ls hl
              obtain ⟨K_27, hK_27, h⟩ : ∃ K : St → Int32 → Int32 → Int32 → Int32 → Prop, (∀ z (t0 : Int32) (t1 : Int32) (t2 : Int32) (t3 : Int32), K z t0 t1 t2 t3 → I_27 z t0 t1 t2 t3 ∧ μ_27 z t0 t1 t2 t3 < μ_27 s_h27 x2h27 x3h27 x4h27 x5h27) ∧ wb_Ma_slotIsNumber_27 y Post K_13 K a0 s_h27 x2h27 x3h27 x4h27 x5h27 := ⟨_, fun _ _ _ _ _ h => h, hB_27 s_h27 x2h27 x3h27 x4h27 x5h27 hJ⟩
              unfold wb_Ma_slotIsNumber_27 at h
              refine lv_iload G.1 G.2.1 d_Ma_slotIsNumber_27 (lv_at hl 4 rfl) ?_
              refine lv_aload_n G.1 G.2.1 d_Ma_slotIsNumber_29 rfl (lv_at hl 0 rfl) ?_
              refine ugf (v := .ref (ad (lk a0 0))) G hP h_a0 iMa rfl 0 (by decide) rfl q1065 rfl rfl d_Ma_slotIsNumber_30 ?_
              refine lv_iload_n G.1 G.2.1 d_Ma_slotIsNumber_33 rfl (lv_at hl 2 rfl) ?_
              refine lv_bipush (v := 9) G.1 G.2.1 d_Ma_slotIsNumber_34 (by decide) ?_
              refine ucVi (As := [.int x3h27, .int 9]) (rest := [.int x5h27]) G hP hD hS (cu_Wd_of l D g ad y _ s_h27 (lk a0 0) x3h27 9 H.size (lk_4_0 h_a0) h) w9_Wd_of q1810 ⟨Nat.le_of_ble_eq_true rfl, Nat.le_of_ble_eq_true rfl⟩ rfl rfl (lk_4_0 h_a0) (q := (RWd, TWd, 17)) rfl rfl hl.1 rfl (Nat.le_of_ble_eq_true rfl) rfl ⟨Nat.le_refl _, Nat.le_refl _⟩ d_Ma_slotIsNumber_36 (fun r_2 s_3 H locs h hP hD hS => ?_)
              refine lv_icmp_ge (tgt := 105) G.1 G.2.1 d_Ma_slotIsNumber_39 (by decide) (fun c39 => ?_) (fun c39 => ?_)
              · skip
                have h := h.1 c39
                refine lv_aload_n G.1 G.2.1 d_Ma_slotIsNumber_105 rfl (lv_at hl 0 rfl) ?_
                refine ugf (v := .ref (ad (lk a0 0))) G hP h_a0 iMa rfl 0 (by decide) rfl q1065 rfl rfl d_Ma_slotIsNumber_106 ?_
                refine lv_iload_n G.1 G.2.1 d_Ma_slotIsNumber_109 rfl (lv_at hl 2 rfl) ?_
                refine ucVi (As := [.int x3h27]) (rest := []) G hP hD hS (cu_Wd_up l D g ad y _ s_3 (lk a0 0) x3h27 H.size (lk_4_0 h_a0) h) w9_Wd_up q1802 ⟨Nat.le_of_ble_eq_true rfl, Nat.le_of_ble_eq_true rfl⟩ rfl rfl (lk_4_0 h_a0) (q := (RWd, TWd, 17)) rfl rfl hl.1 rfl (Nat.le_of_ble_eq_true rfl) rfl ⟨Nat.le_refl _, Nat.le_refl _⟩ d_Ma_slotIsNumber_110 (fun r_4 s_5 H locs h hP hD hS => ?_)
                refine W.eq (g2 := F0 m 113 ls [.int r_4]) rfl ?_
                refine lv_istore_n (lv' := [(3, .int r_4), (0, .ref (ad a0)), (2, .int x2h27), (4, .int x4h27), (5, .int x5h27)]) G.1 G.2.1 d_Ma_slotIsNumber_113 rfl hl (by decide) rfl (fun ls hl => ?_)
                refine lv_iinc (v := x4h27 + 1) (lv' := [(4, .int (x4h27 + 1)), (3, .int r_4), (0, .ref (ad a0)), (2, .int x2h27), (5, .int x5h27)]) G.1 G.2.1 d_Ma_slotIsNumber_114 hl (k := 3) rfl rfl (by decide) rfl (fun ls hl => ?_)
                refine lv_goto (tgt := 13) G.1 G.2.1 d_Ma_slotIsNumber_117 (by decide) ?_
                have h := hK_13 s_5 x2h27 r_4 (x4h27 + 1) h
                exact ih_13 s_5 x2h27 r_4 (x4h27 + 1) (Nat.lt_of_lt_of_le h.2 (Nat.le_of_lt_succ hμ_13)) h.1 H locs hP hD hS ls (lv_sub hl [2, 3, 1, 0] rfl)
              · skip
                have h := h.2 c39
                refine lv_aload_n G.1 G.2.1 d_Ma_slotIsNumber_42 rfl (lv_at hl 0 rfl) ?_
                refine ugf (v := .ref (ad (lk a0 0))) G hP h_a0 iMa rfl 0 (by decide) rfl q1065 rfl rfl d_Ma_slotIsNumber_43 ?_
                refine lv_iload_n G.1 G.2.1 d_Ma_slotIsNumber_46 rfl (lv_at hl 2 rfl) ?_
                refine lv_iload G.1 G.2.1 d_Ma_slotIsNumber_47 (lv_at hl 4 rfl) ?_
                refine W.eq (g2 := F0 m 49 ls [.int x5h27, .int x3h27, .ref (ad (lk a0 0))]) rfl ?_
                refine lv_iconst (v := 5) G.1 G.2.1 d_Ma_slotIsNumber_49 (by decide) ?_
                refine ucVi (As := [.int x3h27, .int x5h27, .int 5]) (rest := []) G hP hD hS (cu_Wd_field l D g ad y _ s_3 (lk a0 0) x3h27 x5h27 5 H.size (lk_4_0 h_a0) h) w9_Wd_field q1988 ⟨Nat.le_of_ble_eq_true rfl, Nat.le_of_ble_eq_true rfl⟩ rfl rfl (lk_4_0 h_a0) (q := (RWd, TWd, 17)) rfl rfl hl.1 rfl (Nat.le_of_ble_eq_true rfl) rfl ⟨Nat.le_refl _, Nat.le_refl _⟩ d_Ma_slotIsNumber_50 (fun r_6 s_7 H locs h hP hD hS => ?_)
                refine lv_iload_n G.1 G.2.1 d_Ma_slotIsNumber_53 rfl (lv_at hl 1 rfl) ?_
                have J_72 : ∀ (s_j72 : St) (x2j72 : Int32) (x3j72 : Int32) (x4j72 : Int32) (x5j72 : Int32) (z0j72 : Int32) (H : Heap) (locs : List Loc), wj_Ma_slotIsNumber_72 y Post K_13 K_27 a0 s_j72 x2j72 x3j72 x4j72 x5j72 z0j72 → va_P D CL (ws g ad y s_j72) H → va_D A (ws g ad y s_j72) → va_S A s.heap H locs → ∀ ls, lv_has ls 7 [(0, .ref (ad a0)), (2, .int x2j72), (3, .int x3j72), (4, .int x4j72), (5, .int x5j72)] → W p l e ru_Ma_slotIsNumber s m args below meth c H locs 0 0 Q (F0 m 72 ls [.int z0j72]) := by
                  intro s_j72 x2j72 x3j72 x4j72 x5j72 z0j72 H locs h hP hD hS ls hl
                  unfold wj_Ma_slotIsNumber_72 at h
                  refine lv_istore (lv' := [(6, .int z0j72), (0, .ref (ad a0)), (2, .int x2j72), (3, .int x3j72), (4, .int x4j72), (5, .int x5j72)]) G.1 G.2.1 d_Ma_slotIsNumber_72 hl (by decide) rfl (fun ls hl => ?_)
                  refine lv_iload G.1 G.2.1 d_Ma_slotIsNumber_74 (lv_at hl 0 rfl) ?_
                  refine lv_if_eq (tgt := 99) G.1 G.2.1 d_Ma_slotIsNumber_76 (by decide) (fun c76 => ?_) (fun c76 => ?_)
                  · skip
                    have h := h.1 c76
                    refine lv_iinc (v := x5j72 + 1) (lv' := [(5, .int (x5j72 + 1)), (6, .int z0j72), (0, .ref (ad a0)), (2, .int x2j72), (3, .int x3j72), (4, .int x4j72)]) G.1 G.2.1 d_Ma_slotIsNumber_99 hl (k := 5) rfl rfl (by decide) rfl (fun ls hl => ?_)
                    refine lv_goto (tgt := 27) G.1 G.2.1 d_Ma_slotIsNumber_102 (by decide) ?_
                    have h := hK_27 s_j72 x2j72 x3j72 x4j72 (x5j72 + 1) h
                    exact ih_27 s_j72 x2j72 x3j72 x4j72 (x5j72 + 1) (Nat.lt_of_lt_of_le h.2 (Nat.le_of_lt_succ hμ_27)) h.1 H locs hP hD hS ls (lv_sub hl [2, 3, 4, 5, 0] rfl)
                  · skip
                    have h := h.2 c76
                    refine lv_aload_n G.1 G.2.1 d_Ma_slotIsNumber_79 rfl (lv_at hl 1 rfl) ?_
                    refine ugf (v := .ref (ad (lk a0 0))) G hP h_a0 iMa rfl 0 (by decide) rfl q1065 rfl rfl d_Ma_slotIsNumber_80 ?_
                    refine lv_iload_n G.1 G.2.1 d_Ma_slotIsNumber_83 rfl (lv_at hl 3 rfl) ?_
                    refine lv_iload G.1 G.2.1 d_Ma_slotIsNumber_84 (lv_at hl 5 rfl) ?_
                    refine lv_iconst (v := 1) G.1 G.2.1 d_Ma_slotIsNumber_86 (by decide) ?_
                    refine ucVi (As := [.int x3j72, .int x5j72, .int 1]) (rest := []) G hP hD hS (cu_Wd_field l D g ad y _ s_j72 (lk a0 0) x3j72 x5j72 1 H.size (lk_4_0 h_a0) h) w9_Wd_field q1988 ⟨Nat.le_of_ble_eq_true rfl, Nat.le_of_ble_eq_true rfl⟩ rfl rfl (lk_4_0 h_a0) (q := (RWd, TWd, 17)) rfl rfl hl.1 rfl (Nat.le_of_ble_eq_true rfl) rfl ⟨Nat.le_refl _, Nat.le_refl _⟩ d_Ma_slotIsNumber_87 (fun r_8 s_9 H locs h hP hD hS => ?_)
                    have J_98 : ∀ (s_j98 : St) (z0j98 : Int32) (H : Heap) (locs : List Loc), wj_Ma_slotIsNumber_98 y Post a0 s_j98 z0j98 → va_P D CL (ws g ad y s_j98) H → va_D A (ws g ad y s_j98) → va_S A s.heap H locs → ∀ ls, lv_has ls 7 [] → W p l e ru_Ma_slotIsNumber s m args below meth c H locs 0 0 Q (F0 m 98 ls [.int z0j98]) := by
                      intro s_j98 z0j98 H locs h hP hD hS ls hl
                      unfold wj_Ma_slotIsNumber_98 at h
                      exact hret _ _ _ _ _ _ _ ls (nb_n h.1) h.2 hP hD hS (Nat.le_refl _) (Nat.le_refl _) d_Ma_slotIsNumber_98
                    refine lv_if_ne (tgt := 97) G.1 G.2.1 d_Ma_slotIsNumber_90 (by decide) (fun c90 => ?_) (fun c90 => ?_)
                    · skip
                      have h := h.1 c90
                      refine lv_iconst (v := 0) G.1 G.2.1 d_Ma_slotIsNumber_97 (by decide) ?_
                      exact J_98 s_9 0 H locs h hP hD hS ls (lv_sub hl [] rfl)
                    · skip
                      have h := h.2 c90
                      refine lv_iconst (v := 1) G.1 G.2.1 d_Ma_slotIsNumber_93 (by decide) ?_
                      refine W.eq (g2 := F0 m 94 ls [.int 1]) rfl ?_
                      refine lv_goto (tgt := 98) G.1 G.2.1 d_Ma_slotIsNumber_94 (by decide) ?_
                      exact J_98 s_9 1 H locs h hP hD hS ls (lv_sub hl [] rfl)
                have J_71 : ∀ (s_j71 : St) (x2j71 : Int32) (x3j71 : Int32) (x4j71 : Int32) (x5j71 : Int32) (H : Heap) (locs : List Loc), wj_Ma_slotIsNumber_71 y Post K_13 K_27 a0 s_j71 x2j71 x3j71 x4j71 x5j71 → va_P D CL (ws g ad y s_j71) H → va_D A (ws g ad y s_j71) → va_S A s.heap H locs → ∀ ls, lv_has ls 7 [(0, .ref (ad a0)), (2, .int x2j71), (3, .int x3j71), (4, .int x4j71), (5, .int x5j71)] → W p l e ru_Ma_slotIsNumber s m args below meth c H locs 0 0 Q (F0 m 71 ls []) := by
                  intro s_j71 x2j71 x3j71 x4j71 x5j71 H locs h hP hD hS ls hl
                  unfold wj_Ma_slotIsNumber_71 at h
                  refine lv_iconst (v := 0) G.1 G.2.1 d_Ma_slotIsNumber_71 (by decide) ?_
                  exact J_72 s_j71 x2j71 x3j71 x4j71 x5j71 0 H locs h hP hD hS ls (lv_sub hl [0, 1, 2, 3, 4] rfl)
                refine lv_icmp_ne (tgt := 71) G.1 G.2.1 d_Ma_slotIsNumber_54 (by decide) (fun c54 => ?_) (fun c54 => ?_)
                · skip
                  have h := h.1 c54
                  exact J_71 s_7 x2h27 x3h27 x4h27 x5h27 H locs h hP hD hS ls (lv_sub hl [0, 1, 2, 3, 4] rfl)
                · skip
                  have h := h.2 c54
                  refine lv_aload_n G.1 G.2.1 d_Ma_slotIsNumber_57 rfl (lv_at hl 0 rfl) ?_
                  refine lv_iload_n G.1 G.2.1 d_Ma_slotIsNumber_58 rfl (lv_at hl 2 rfl) ?_
                  refine lv_iload G.1 G.2.1 d_Ma_slotIsNumber_59 (lv_at hl 4 rfl) ?_
                  refine ucVi (As := [.int x3h27, .int x5h27]) (rest := []) G hP hD hS (cu_Ma_isOfObject l D g ad y _ s_7 a0 x3h27 x5h27 H.size h_a0 h) w9_Ma_isOfObject q2138 ⟨Nat.le_of_ble_eq_true rfl, Nat.le_of_ble_eq_true rfl⟩ rfl rfl h_a0 (q := (RMa, TMa, 19)) rfl rfl hl.1 rfl (Nat.le_of_ble_eq_true rfl) rfl ⟨Nat.le_refl _, Nat.le_refl _⟩ d_Ma_slotIsNumber_61 (fun r_10 s_11 H locs h hP hD hS => ?_)
                  refine lv_if_eq (tgt := 71) G.1 G.2.1 d_Ma_slotIsNumber_64 (by decide) (fun c64 => ?_) (fun c64 => ?_)
                  · skip
                    have h := h.1 c64
                    exact J_71 s_11 x2h27 x3h27 x4h27 x5h27 H locs h hP hD hS ls (lv_sub hl [0, 1, 2, 3, 4] rfl)
                  · skip
                    have h := h.2 c64
                    refine lv_iconst (v := 1) G.1 G.2.1 d_Ma_slotIsNumber_67 (by decide) ?_
                    refine lv_goto (tgt := 72) G.1 G.2.1 d_Ma_slotIsNumber_68 (by decide) ?_
                    exact J_72 s_11 x2h27 x3h27 x4h27 x5h27 1 H locs h hP hD hS ls (lv_sub hl [0, 1, 2, 3, 4] rfl)
          exact L_27 _ s_h13 x2h13 x3h13 x4h13 0 (Nat.lt_succ_self _) hI_27 H locs hP hD hS ls (lv_sub hl [1, 2, 3, 4, 0] rfl)
  exact L_13 _ σ v2 x_1 0 (Nat.lt_succ_self _) hI_13 H locs hP hD hS ls (lv_sub hl [2, 4, 1, 0] rfl)
theorem q2132 : Cond.methodLink "ClassWorks" 323 y_Hp_there ∈ lw_ok := lw_okmem (List.mem_of_getElem? (i := 2132) (by decide +kernel)) rfl
theorem q919 : Cond.fieldLink "ClassWorks" 327 "ClassWorks$Heap" "length" "[I" ∈ lw_ok := lw_okmem (List.mem_of_getElem? (i := 919) (by decide +kernel)) rfl
theorem q2133 : Cond.methodLink "ClassWorks" 333 y_Hp_locks ∈ lw_ok := lw_okmem (List.mem_of_getElem? (i := 2133) (by decide +kernel)) rfl
theorem q914 : Cond.fieldLink "ClassWorks" 330 "ClassWorks$Heap" "kind" "[I" ∈ lw_ok := lw_okmem (List.mem_of_getElem? (i := 914) (by decide +kernel)) rfl
theorem q922 : Cond.fieldLink "ClassWorks" 336 "ClassWorks$Heap" "data" "[I" ∈ lw_ok := lw_okmem (List.mem_of_getElem? (i := 922) (by decide +kernel)) rfl
theorem q917 : Cond.fieldLink "ClassWorks" 339 "ClassWorks$Heap" "base" "[I" ∈ lw_ok := lw_okmem (List.mem_of_getElem? (i := 917) (by decide +kernel)) rfl
theorem q2134 : Cond.methodLink "ClassWorks" 342 y_Ma_slotIsNumber ∈ lw_ok := lw_okmem (List.mem_of_getElem? (i := 2134) (by decide +kernel)) rfl
theorem q2137 : Cond.code y_Ma_slotIsNumber b_Ma_slotIsNumber 7 (some (.boolean)) ∈ lw_ok := lw_okmem (List.mem_of_getElem? (i := 2137) (by decide +kernel)) rfl
theorem q2135 : Cond.instanceMethod y_Ma_slotIsNumber ∈ lw_ok := lw_okmem (List.mem_of_getElem? (i := 2135) (by decide +kernel)) rfl
theorem q2136 : Cond.selects y_Ma_slotIsNumber.cls y_Ma_slotIsNumber y_Ma_slotIsNumber ∈ lw_ok := lw_okmem (List.mem_of_getElem? (i := 2136) (by decide +kernel)) rfl
theorem w9_Ma_slotIsNumber : CWv y_Ma_slotIsNumber b_Ma_slotIsNumber 7 (some (.boolean)) 2 ∧ Cond.instanceMethod y_Ma_slotIsNumber ∈ lw_ok ∧ Cond.selects y_Ma_slotIsNumber.cls y_Ma_slotIsNumber y_Ma_slotIsNumber ∈ lw_ok := ⟨⟨q2137, q344, by decide +kernel, by decide +kernel, by decide +kernel⟩, q2135, q2136⟩
def y_Cw_object : MethodName := ⟨"ClassWorks", "object", "(III)I"⟩
abbrev b_Cw_object : ByteArray := prog_1_method_32_code
theorem d_Cw_object_0 : decode b_Cw_object 0 = .ok (.aload_n 0, 1) := by decide +kernel
theorem d_Cw_object_1 : decode b_Cw_object 1 = .ok (.iload_n 1, 1) := by decide +kernel
theorem d_Cw_object_2 : decode b_Cw_object 2 = .ok (.invokevirtual 129, 3) := by decide +kernel
theorem d_Cw_object_5 : decode b_Cw_object 5 = .ok (.astore 4, 2) := by decide +kernel
theorem d_Cw_object_7 : decode b_Cw_object 7 = .ok (.aload 4, 2) := by decide +kernel
theorem d_Cw_object_9 : decode b_Cw_object 9 = .ok (.ifnull 35, 3) := by decide +kernel
theorem d_Cw_object_12 : decode b_Cw_object 12 = .ok (.aload 4, 2) := by decide +kernel
theorem d_Cw_object_14 : decode b_Cw_object 14 = .ok (.getfield 256, 3) := by decide +kernel
theorem d_Cw_object_17 : decode b_Cw_object 17 = .ok (.iload_n 2, 1) := by decide +kernel
theorem d_Cw_object_18 : decode b_Cw_object 18 = .ok (.invokevirtual 323, 3) := by decide +kernel
theorem d_Cw_object_21 : decode b_Cw_object 21 = .ok (.ifCond .eq 23, 3) := by decide +kernel
theorem d_Cw_object_24 : decode b_Cw_object 24 = .ok (.iload_n 3, 1) := by decide +kernel
theorem d_Cw_object_25 : decode b_Cw_object 25 = .ok (.bipush (-3), 2) := by decide +kernel
theorem d_Cw_object_27 : decode b_Cw_object 27 = .ok (.if_icmp .lt 17, 3) := by decide +kernel
theorem d_Cw_object_30 : decode b_Cw_object 30 = .ok (.iload_n 3, 1) := by decide +kernel
theorem d_Cw_object_31 : decode b_Cw_object 31 = .ok (.aload 4, 2) := by decide +kernel
theorem d_Cw_object_33 : decode b_Cw_object 33 = .ok (.getfield 256, 3) := by decide +kernel
theorem d_Cw_object_36 : decode b_Cw_object 36 = .ok (.getfield 327, 3) := by decide +kernel
theorem d_Cw_object_39 : decode b_Cw_object 39 = .ok (.iload_n 2, 1) := by decide +kernel
theorem d_Cw_object_40 : decode b_Cw_object 40 = .ok (.iaload, 1) := by decide +kernel
theorem d_Cw_object_41 : decode b_Cw_object 41 = .ok (.if_icmp .lt 5, 3) := by decide +kernel
theorem d_Cw_object_44 : decode b_Cw_object 44 = .ok (.iconst (-1), 1) := by decide +kernel
theorem d_Cw_object_45 : decode b_Cw_object 45 = .ok (.ireturn, 1) := by decide +kernel
theorem d_Cw_object_46 : decode b_Cw_object 46 = .ok (.aload 4, 2) := by decide +kernel
theorem d_Cw_object_48 : decode b_Cw_object 48 = .ok (.getfield 256, 3) := by decide +kernel
theorem d_Cw_object_51 : decode b_Cw_object 51 = .ok (.astore 5, 2) := by decide +kernel
theorem d_Cw_object_53 : decode b_Cw_object 53 = .ok (.iload_n 3, 1) := by decide +kernel
theorem d_Cw_object_54 : decode b_Cw_object 54 = .ok (.tableswitch 65 (-3) (-1) #[57, 50, 26], 26) := by decide +kernel
theorem d_Cw_object_80 : decode b_Cw_object 80 = .ok (.aload 5, 2) := by decide +kernel
theorem d_Cw_object_82 : decode b_Cw_object 82 = .ok (.getfield 330, 3) := by decide +kernel
theorem d_Cw_object_85 : decode b_Cw_object 85 = .ok (.iload_n 2, 1) := by decide +kernel
theorem d_Cw_object_86 : decode b_Cw_object 86 = .ok (.iaload, 1) := by decide +kernel
theorem d_Cw_object_87 : decode b_Cw_object 87 = .ok (.iconst (-1), 1) := by decide +kernel
theorem d_Cw_object_88 : decode b_Cw_object 88 = .ok (.if_icmp .ne 8, 3) := by decide +kernel
theorem d_Cw_object_91 : decode b_Cw_object 91 = .ok (.bipush (-2), 2) := by decide +kernel
theorem d_Cw_object_93 : decode b_Cw_object 93 = .ok (.goto 10, 3) := by decide +kernel
theorem d_Cw_object_96 : decode b_Cw_object 96 = .ok (.aload 5, 2) := by decide +kernel
theorem d_Cw_object_98 : decode b_Cw_object 98 = .ok (.getfield 330, 3) := by decide +kernel
theorem d_Cw_object_101 : decode b_Cw_object 101 = .ok (.iload_n 2, 1) := by decide +kernel
theorem d_Cw_object_102 : decode b_Cw_object 102 = .ok (.iaload, 1) := by decide +kernel
theorem d_Cw_object_103 : decode b_Cw_object 103 = .ok (.ireturn, 1) := by decide +kernel
theorem d_Cw_object_104 : decode b_Cw_object 104 = .ok (.aload 5, 2) := by decide +kernel
theorem d_Cw_object_106 : decode b_Cw_object 106 = .ok (.iload_n 2, 1) := by decide +kernel
theorem d_Cw_object_107 : decode b_Cw_object 107 = .ok (.invokevirtual 333, 3) := by decide +kernel
theorem d_Cw_object_110 : decode b_Cw_object 110 = .ok (.ireturn, 1) := by decide +kernel
theorem d_Cw_object_111 : decode b_Cw_object 111 = .ok (.aload 5, 2) := by decide +kernel
theorem d_Cw_object_113 : decode b_Cw_object 113 = .ok (.getfield 327, 3) := by decide +kernel
theorem d_Cw_object_116 : decode b_Cw_object 116 = .ok (.iload_n 2, 1) := by decide +kernel
theorem d_Cw_object_117 : decode b_Cw_object 117 = .ok (.iaload, 1) := by decide +kernel
theorem d_Cw_object_118 : decode b_Cw_object 118 = .ok (.ireturn, 1) := by decide +kernel
theorem d_Cw_object_119 : decode b_Cw_object 119 = .ok (.aload 5, 2) := by decide +kernel
theorem d_Cw_object_121 : decode b_Cw_object 121 = .ok (.getfield 336, 3) := by decide +kernel
theorem d_Cw_object_124 : decode b_Cw_object 124 = .ok (.aload 5, 2) := by decide +kernel
theorem d_Cw_object_126 : decode b_Cw_object 126 = .ok (.getfield 339, 3) := by decide +kernel
theorem d_Cw_object_129 : decode b_Cw_object 129 = .ok (.iload_n 2, 1) := by decide +kernel
theorem d_Cw_object_130 : decode b_Cw_object 130 = .ok (.iaload, 1) := by decide +kernel
theorem d_Cw_object_131 : decode b_Cw_object 131 = .ok (.iload_n 3, 1) := by decide +kernel
theorem d_Cw_object_132 : decode b_Cw_object 132 = .ok (.iadd, 1) := by decide +kernel
theorem d_Cw_object_133 : decode b_Cw_object 133 = .ok (.iaload, 1) := by decide +kernel
theorem d_Cw_object_134 : decode b_Cw_object 134 = .ok (.istore 6, 2) := by decide +kernel
theorem d_Cw_object_136 : decode b_Cw_object 136 = .ok (.aload 4, 2) := by decide +kernel
theorem d_Cw_object_138 : decode b_Cw_object 138 = .ok (.iload_n 2, 1) := by decide +kernel
theorem d_Cw_object_139 : decode b_Cw_object 139 = .ok (.iload_n 3, 1) := by decide +kernel
theorem d_Cw_object_140 : decode b_Cw_object 140 = .ok (.invokevirtual 342, 3) := by decide +kernel
theorem d_Cw_object_143 : decode b_Cw_object 143 = .ok (.ifCond .eq 8, 3) := by decide +kernel
theorem d_Cw_object_146 : decode b_Cw_object 146 = .ok (.iload 6, 2) := by decide +kernel
theorem d_Cw_object_148 : decode b_Cw_object 148 = .ok (.goto 9, 3) := by decide +kernel
theorem d_Cw_object_151 : decode b_Cw_object 151 = .ok (.aload_n 0, 1) := by decide +kernel
theorem d_Cw_object_152 : decode b_Cw_object 152 = .ok (.iload 6, 2) := by decide +kernel
theorem d_Cw_object_154 : decode b_Cw_object 154 = .ok (.invokevirtual 320, 3) := by decide +kernel
theorem d_Cw_object_157 : decode b_Cw_object 157 = .ok (.ireturn, 1) := by decide +kernel
abbrev ru_Cw_object : Room := { frames := 3, cells := 0, slots := 0, locals := 71 }
def wj_Cw_object_44 (y : Ly) (Post : St → Int32 → Prop) (a0 : Nat) (s_j44 : St) : Prop := Post s_j44 (-1)
def wj_Cw_object_103 (y : Ly) (Post : St → Int32 → Prop) (a0 : Nat) (s_j103 : St) (z0j103 : Int32) : Prop := Post s_j103 z0j103
def wj_Cw_object_157 (y : Ly) (Post : St → Int32 → Prop) (a0 : Nat) (s_j157 : St) (z0j157 : Int32) : Prop := Post s_j157 z0j157
def wu_Cw_object (y : Ly) (Post : St → Int32 → Prop) (σ : St) (a0 : Nat) (v1 : Int32) (v2 : Int32) (v3 : Int32) : Prop := wu_Cw_machine y (fun (s_2 : St) (r_1 : Option Nat) => ((r_1 = none → wj_Cw_object_44 y Post a0 s_2) ∧ (∀ r_1b : Nat, r_1 = some r_1b → (cl r_1b = 4 ∧ wu_Hp_there y (fun (s_4 : St) (r_3 : Int32) => ((r_3 = 0 → wj_Cw_object_44 y Post a0 s_4) ∧ (¬ (r_3 = 0) → ((v3 < (-3) → wj_Cw_object_44 y Post a0 s_4) ∧ (¬ (v3 < (-3)) → xA y s_4 (lk r_1b 1) 2 v2 (fun x_5 : Int32 => ((v3 < x_5 → ((v3 = (-3) → xA y s_4 (lk r_1b 1) 2 v2 (fun x_6 : Int32 => Post s_4 x_6)) ∧ (¬ (v3 = (-3)) → ((v3 = (-2) → wu_Hp_locks y (fun (s_8 : St) (r_7 : Int32) => Post s_8 r_7) s_4 (lk r_1b 1) v2) ∧ (¬ (v3 = (-2)) → ((v3 = (-1) → xA y s_4 (lk r_1b 1) 0 v2 (fun x_9 : Int32 => ((¬ x_9 = (-1) → xA y s_4 (lk r_1b 1) 0 v2 (fun x_10 : Int32 => wj_Cw_object_103 y Post a0 s_4 x_10)) ∧ (x_9 = (-1) → wj_Cw_object_103 y Post a0 s_4 (-2))))) ∧ (¬ (v3 = (-1)) → xA y s_4 (lk r_1b 1) 1 v2 (fun x_11 : Int32 => xA y s_4 (lk r_1b 1) 3 (x_11 + v3) (fun x_12 : Int32 => wu_Ma_slotIsNumber y (fun (s_14 : St) (r_13 : Int32) => ((r_13 = 0 → wu_Cw_tellReference y (fun (s_16 : St) (r_15 : Int32) => wj_Cw_object_157 y Post a0 s_16 r_15) s_14 a0 x_12) ∧ (¬ (r_13 = 0) → wj_Cw_object_157 y Post a0 s_14 x_12))) s_4 r_1b v2 v3))))))))) ∧ (¬ (v3 < x_5) → wj_Cw_object_44 y Post a0 s_4)))))))) s_2 (lk r_1b 1) v2)))) σ a0 v1
set_option maxHeartbeats 4000000 in
set_option maxRecDepth 100000 in
theorem cu_Cw_object (l : Launch) (D : va_G) (g : Nat → ClassId) (ad : Nat → Nat) (y : Ly) (Post : St → Int32 → Prop) (σ : St) (a0 : Nat) (v1 : Int32) (v2 : Int32) (v3 : Int32) (sz : Nat) (h_a0 : cl a0 = 11) (h : wu_Cw_object y Post σ a0 v1 v2 v3) : Met l y_Cw_object (mw y_Cw_object b_Cw_object 7 (some .int)) ru_Cw_object (PC g D [] [.ref (ad a0), .int v1, .int v2, .int v3] sz (ws g ad y σ)) (va_Qi (fun (r : Int32) (u : St) => Post u r) (QW D (va_A (ws g ad y σ) sz) (fun u => ws g ad y u)) (va_A (ws g ad y σ) sz)) 0 0 (va_A (ws g ad y σ) sz) := by
  refine ofI (by decide +kernel) (Nat.le_of_ble_eq_true rfl) ?_
  intro p e s m args below meth c A Q ls H locs G hsz hP hD hS hl hret
  subst hsz
  have hl : lv_has ls 7 [(0, .ref (ad a0)), (1, .int v1), (2, .int v2), (3, .int v3)] := hl
  unfold wu_Cw_object at h
  refine lv_aload_n G.1 G.2.1 d_Cw_object_0 rfl (lv_at hl 0 rfl) ?_
  refine lv_iload_n G.1 G.2.1 d_Cw_object_1 rfl (lv_at hl 1 rfl) ?_
  refine ucVq (As := [.int v1]) (rest := []) G hP hD hS (cu_Cw_machine l D g ad y _ σ a0 v1 H.size h_a0 h) w9_Cw_machine q1248 ⟨Nat.le_of_ble_eq_true rfl, Nat.le_of_ble_eq_true rfl⟩ rfl rfl h_a0 (q := (RCw, TCw, 20)) rfl rfl hl.1 rfl (Nat.le_of_ble_eq_true rfl) rfl ⟨Nat.le_refl _, Nat.le_refl _⟩ d_Cw_object_2 (fun r_1 s_2 H locs h hP hD hS => ?_)
  rcases r_1 with _ | r_1b
  · skip
    have h := h.1 rfl
    show W p l e ru_Cw_object s m args below meth c H locs 0 0 Q (F0 m 5 ls [.null])
    refine lv_astoreN (lv' := [(4, .null), (0, .ref (ad a0)), (1, .int v1), (2, .int v2), (3, .int v3)]) G.1 G.2.1 d_Cw_object_5 hl (by decide) rfl (fun ls hl => ?_)
    refine lv_aloadN G.1 G.2.1 d_Cw_object_7 (lv_at hl 0 rfl) ?_
    have J_44 : ∀ (s_j44 : St) (H : Heap) (locs : List Loc), wj_Cw_object_44 y Post a0 s_j44 → va_P D CL (ws g ad y s_j44) H → va_D A (ws g ad y s_j44) → va_S A s.heap H locs → ∀ ls, lv_has ls 7 [] → W p l e ru_Cw_object s m args below meth c H locs 0 0 Q (F0 m 44 ls []) := by
      intro s_j44 H locs h hP hD hS ls hl
      unfold wj_Cw_object_44 at h
      refine lv_iconst (v := (-1)) G.1 G.2.1 d_Cw_object_44 (by decide) ?_
      exact hret _ _ _ _ _ _ _ ls h hP hD hS (Nat.le_refl _) (Nat.le_refl _) d_Cw_object_45
    refine lv_ifnullN (tgt := 44) G.1 G.2.1 d_Cw_object_9 (by decide) ?_
    exact J_44 s_2 H locs h hP hD hS ls (lv_sub hl [] rfl)
  · skip
    obtain ⟨c_r_1b, h⟩ := h.2 _ rfl
    show W p l e ru_Cw_object s m args below meth c H locs 0 0 Q (F0 m 5 ls [.ref (ad r_1b)])
    refine lv_astore (lv' := [(4, .ref (ad r_1b)), (0, .ref (ad a0)), (1, .int v1), (2, .int v2), (3, .int v3)]) G.1 G.2.1 d_Cw_object_5 hl (by decide) rfl (fun ls hl => ?_)
    refine lv_aload G.1 G.2.1 d_Cw_object_7 (lv_at hl 0 rfl) ?_
    have J_44 : ∀ (s_j44 : St) (H : Heap) (locs : List Loc), wj_Cw_object_44 y Post a0 s_j44 → va_P D CL (ws g ad y s_j44) H → va_D A (ws g ad y s_j44) → va_S A s.heap H locs → ∀ ls, lv_has ls 7 [] → W p l e ru_Cw_object s m args below meth c H locs 0 0 Q (F0 m 44 ls []) := by
      intro s_j44 H locs h hP hD hS ls hl
      unfold wj_Cw_object_44 at h
      refine lv_iconst (v := (-1)) G.1 G.2.1 d_Cw_object_44 (by decide) ?_
      exact hret _ _ _ _ _ _ _ ls h hP hD hS (Nat.le_refl _) (Nat.le_refl _) d_Cw_object_45
    refine lv_ifnull G.1 G.2.1 d_Cw_object_9 ?_
    refine lv_aload G.1 G.2.1 d_Cw_object_12 (lv_at hl 0 rfl) ?_
    refine ugf (v := .ref (ad (lk r_1b 1))) G hP c_r_1b iMa rfl 1 (by decide) rfl q1068 rfl rfl d_Cw_object_14 ?_
    refine lv_iload_n G.1 G.2.1 d_Cw_object_17 rfl (lv_at hl 3 rfl) ?_
    refine ucVi (As := [.int v2]) (rest := []) G hP hD hS (cu_Hp_there l D g ad y _ s_2 (lk r_1b 1) v2 H.size (lk_4_1 c_r_1b) h) w9_Hp_there q2132 ⟨Nat.le_of_ble_eq_true rfl, Nat.le_of_ble_eq_true rfl⟩ rfl rfl (lk_4_1 c_r_1b) (q := (RHp, THp, 15)) rfl rfl hl.1 rfl (Nat.le_of_ble_eq_true rfl) rfl ⟨Nat.le_refl _, Nat.le_refl _⟩ d_Cw_object_18 (fun r_3 s_4 H locs h hP hD hS => ?_)
    refine lv_if_eq (tgt := 44) G.1 G.2.1 d_Cw_object_21 (by decide) (fun c21 => ?_) (fun c21 => ?_)
    · skip
      have h := h.1 c21
      exact J_44 s_4 H locs h hP hD hS ls (lv_sub hl [] rfl)
    · skip
      have h := h.2 c21
      refine W.eq (g2 := F0 m 24 ls []) rfl ?_
      refine lv_iload_n G.1 G.2.1 d_Cw_object_24 rfl (lv_at hl 4 rfl) ?_
      refine lv_bipush (v := (-3)) G.1 G.2.1 d_Cw_object_25 (by decide) ?_
      refine lv_icmp_lt (tgt := 44) G.1 G.2.1 d_Cw_object_27 (by decide) (fun c27 => ?_) (fun c27 => ?_)
      · skip
        have h := h.1 c27
        exact J_44 s_4 H locs h hP hD hS ls (lv_sub hl [] rfl)
      · skip
        have h := h.2 c27
        refine lv_iload_n G.1 G.2.1 d_Cw_object_30 rfl (lv_at hl 4 rfl) ?_
        refine lv_aload G.1 G.2.1 d_Cw_object_31 (lv_at hl 0 rfl) ?_
        refine ugf (v := .ref (ad (lk r_1b 1))) G hP c_r_1b iMa rfl 1 (by decide) rfl q1068 rfl rfl d_Cw_object_33 ?_
        refine ugf (v := .ref (yP y (lk r_1b 1) 2)) G hP (lk_4_1 c_r_1b) iHp rfl 2 (by decide) rfl q919 rfl rfl d_Cw_object_36 ?_
        refine lv_iload_n G.1 G.2.1 d_Cw_object_39 rfl (lv_at hl 3 rfl) ?_
        refine uiald G hP (kdp (lk_4_1 c_r_1b) rfl) (typ (lk_4_1 c_r_1b) rfl) h d_Cw_object_40 (fun x_5 h => ?_)
        refine lv_icmp_lt (tgt := 46) G.1 G.2.1 d_Cw_object_41 (by decide) (fun c41 => ?_) (fun c41 => ?_)
        · skip
          have h := h.1 c41
          refine lv_aload G.1 G.2.1 d_Cw_object_46 (lv_at hl 0 rfl) ?_
          refine ugf (v := .ref (ad (lk r_1b 1))) G hP c_r_1b iMa rfl 1 (by decide) rfl q1068 rfl rfl d_Cw_object_48 ?_
          refine W.eq (g2 := F0 m 51 ls [.ref (ad (lk r_1b 1))]) rfl ?_
          refine lv_astore (lv' := [(5, .ref (ad (lk r_1b 1))), (4, .ref (ad r_1b)), (0, .ref (ad a0)), (1, .int v1), (2, .int v2), (3, .int v3)]) G.1 G.2.1 d_Cw_object_51 hl (by decide) rfl (fun ls hl => ?_)
          refine lv_iload_n G.1 G.2.1 d_Cw_object_53 rfl (lv_at hl 5 rfl) ?_
          by_cases e54_m3 : v3 = (-3)
          · skip
            have h := h.1 e54_m3
            refine lv_tableIn (off := 57) (tgt := 111) G.1 G.2.1 d_Cw_object_54 (by rw [e54_m3]; decide) (by rw [e54_m3]; decide) (by rw [e54_m3]; rfl) (by decide) ?_
            refine lv_aload G.1 G.2.1 d_Cw_object_111 (lv_at hl 0 rfl) ?_
            refine ugf (v := .ref (yP y (lk r_1b 1) 2)) G hP (lk_4_1 c_r_1b) iHp rfl 2 (by decide) rfl q919 rfl rfl d_Cw_object_113 ?_
            refine lv_iload_n G.1 G.2.1 d_Cw_object_116 rfl (lv_at hl 4 rfl) ?_
            refine uiald G hP (kdp (lk_4_1 c_r_1b) rfl) (typ (lk_4_1 c_r_1b) rfl) h d_Cw_object_117 (fun x_6 h => ?_)
            exact hret _ _ _ _ _ _ _ ls h hP hD hS (Nat.le_refl _) (Nat.le_refl _) d_Cw_object_118
          replace h := h.2 e54_m3
          by_cases e54_m2 : v3 = (-2)
          · skip
            have h := h.1 e54_m2
            refine lv_tableIn (off := 50) (tgt := 104) G.1 G.2.1 d_Cw_object_54 (by rw [e54_m2]; decide) (by rw [e54_m2]; decide) (by rw [e54_m2]; rfl) (by decide) ?_
            refine lv_aload G.1 G.2.1 d_Cw_object_104 (lv_at hl 0 rfl) ?_
            refine lv_iload_n G.1 G.2.1 d_Cw_object_106 rfl (lv_at hl 4 rfl) ?_
            refine ucVi (As := [.int v2]) (rest := []) G hP hD hS (cu_Hp_locks l D g ad y _ s_4 (lk r_1b 1) v2 H.size (lk_4_1 c_r_1b) h) w9_Hp_locks q2133 ⟨Nat.le_of_ble_eq_true rfl, Nat.le_of_ble_eq_true rfl⟩ rfl rfl (lk_4_1 c_r_1b) (q := (RHp, THp, 15)) rfl rfl hl.1 rfl (Nat.le_of_ble_eq_true rfl) rfl ⟨Nat.le_refl _, Nat.le_refl _⟩ d_Cw_object_107 (fun r_7 s_8 H locs h hP hD hS => ?_)
            exact hret _ _ _ _ _ _ _ ls h hP hD hS (Nat.le_refl _) (Nat.le_refl _) d_Cw_object_110
          replace h := h.2 e54_m2
          by_cases e54_m1 : v3 = (-1)
          · skip
            have h := h.1 e54_m1
            refine lv_tableIn (off := 26) (tgt := 80) G.1 G.2.1 d_Cw_object_54 (by rw [e54_m1]; decide) (by rw [e54_m1]; decide) (by rw [e54_m1]; rfl) (by decide) ?_
            refine lv_aload G.1 G.2.1 d_Cw_object_80 (lv_at hl 0 rfl) ?_
            refine ugf (v := .ref (yP y (lk r_1b 1) 0)) G hP (lk_4_1 c_r_1b) iHp rfl 0 (by decide) rfl q914 rfl rfl d_Cw_object_82 ?_
            refine lv_iload_n G.1 G.2.1 d_Cw_object_85 rfl (lv_at hl 4 rfl) ?_
            refine uiald G hP (kdp (lk_4_1 c_r_1b) rfl) (typ (lk_4_1 c_r_1b) rfl) h d_Cw_object_86 (fun x_9 h => ?_)
            refine lv_iconst (v := (-1)) G.1 G.2.1 d_Cw_object_87 (by decide) ?_
            have J_103 : ∀ (s_j103 : St) (z0j103 : Int32) (H : Heap) (locs : List Loc), wj_Cw_object_103 y Post a0 s_j103 z0j103 → va_P D CL (ws g ad y s_j103) H → va_D A (ws g ad y s_j103) → va_S A s.heap H locs → ∀ ls, lv_has ls 7 [] → W p l e ru_Cw_object s m args below meth c H locs 0 0 Q (F0 m 103 ls [.int z0j103]) := by
              intro s_j103 z0j103 H locs h hP hD hS ls hl
              unfold wj_Cw_object_103 at h
              exact hret _ _ _ _ _ _ _ ls h hP hD hS (Nat.le_refl _) (Nat.le_refl _) d_Cw_object_103
            refine lv_icmp_ne (tgt := 96) G.1 G.2.1 d_Cw_object_88 (by decide) (fun c88 => ?_) (fun c88 => ?_)
            · skip
              have h := h.1 c88
              refine lv_aload G.1 G.2.1 d_Cw_object_96 (lv_at hl 0 rfl) ?_
              refine ugf (v := .ref (yP y (lk r_1b 1) 0)) G hP (lk_4_1 c_r_1b) iHp rfl 0 (by decide) rfl q914 rfl rfl d_Cw_object_98 ?_
              refine lv_iload_n G.1 G.2.1 d_Cw_object_101 rfl (lv_at hl 4 rfl) ?_
              refine W.eq (g2 := F0 m 102 ls [.int v2, .ref (yP y (lk r_1b 1) 0)]) rfl ?_
              refine uiald G hP (kdp (lk_4_1 c_r_1b) rfl) (typ (lk_4_1 c_r_1b) rfl) h d_Cw_object_102 (fun x_10 h => ?_)
              exact J_103 s_4 x_10 H locs h hP hD hS ls (lv_sub hl [] rfl)
            · skip
              have h := h.2 c88
              refine lv_bipush (v := (-2)) G.1 G.2.1 d_Cw_object_91 (by decide) ?_
              refine lv_goto (tgt := 103) G.1 G.2.1 d_Cw_object_93 (by decide) ?_
              exact J_103 s_4 (-2) H locs h hP hD hS ls (lv_sub hl [] rfl)
          replace h := h.2 e54_m1
          have te54_m3 := lv_neT (a := (-3)) e54_m3 (by decide)
          have te54_m2 := lv_neT (a := (-2)) e54_m2 (by decide)
          have te54_m1 := lv_neT (a := (-1)) e54_m1 (by decide)
          refine lv_tableOut (tgt := 119) G.1 G.2.1 d_Cw_object_54 (by omega) (by decide) ?_
          refine lv_aload G.1 G.2.1 d_Cw_object_119 (lv_at hl 0 rfl) ?_
          refine ugf (v := .ref (yP y (lk r_1b 1) 3)) G hP (lk_4_1 c_r_1b) iHp rfl 3 (by decide) rfl q922 rfl rfl d_Cw_object_121 ?_
          refine lv_aload G.1 G.2.1 d_Cw_object_124 (lv_at hl 0 rfl) ?_
          refine ugf (v := .ref (yP y (lk r_1b 1) 1)) G hP (lk_4_1 c_r_1b) iHp rfl 1 (by decide) rfl q917 rfl rfl d_Cw_object_126 ?_
          refine lv_iload_n G.1 G.2.1 d_Cw_object_129 rfl (lv_at hl 4 rfl) ?_
          refine uiald G hP (kdp (lk_4_1 c_r_1b) rfl) (typ (lk_4_1 c_r_1b) rfl) h d_Cw_object_130 (fun x_11 h => ?_)
          refine lv_iload_n G.1 G.2.1 d_Cw_object_131 rfl (lv_at hl 5 rfl) ?_
          refine lv_iadd G.1 G.2.1 d_Cw_object_132 ?_
          refine uiald G hP (kdp (lk_4_1 c_r_1b) rfl) (typ (lk_4_1 c_r_1b) rfl) h d_Cw_object_133 (fun x_12 h => ?_)
          refine W.eq (g2 := F0 m 134 ls [.int x_12]) rfl ?_
          refine lv_istore (lv' := [(6, .int x_12), (5, .ref (ad (lk r_1b 1))), (4, .ref (ad r_1b)), (0, .ref (ad a0)), (1, .int v1), (2, .int v2), (3, .int v3)]) G.1 G.2.1 d_Cw_object_134 hl (by decide) rfl (fun ls hl => ?_)
          refine lv_aload G.1 G.2.1 d_Cw_object_136 (lv_at hl 2 rfl) ?_
          refine lv_iload_n G.1 G.2.1 d_Cw_object_138 rfl (lv_at hl 5 rfl) ?_
          refine lv_iload_n G.1 G.2.1 d_Cw_object_139 rfl (lv_at hl 6 rfl) ?_
          refine ucVi (As := [.int v2, .int v3]) (rest := []) G hP hD hS (cu_Ma_slotIsNumber l D g ad y _ s_4 r_1b v2 v3 H.size c_r_1b h) w9_Ma_slotIsNumber q2134 ⟨Nat.le_of_ble_eq_true rfl, Nat.le_of_ble_eq_true rfl⟩ rfl rfl c_r_1b (q := (RMa, TMa, 19)) rfl rfl hl.1 rfl (Nat.le_of_ble_eq_true rfl) rfl ⟨Nat.le_refl _, Nat.le_refl _⟩ d_Cw_object_140 (fun r_13 s_14 H locs h hP hD hS => ?_)
          have J_157 : ∀ (s_j157 : St) (z0j157 : Int32) (H : Heap) (locs : List Loc), wj_Cw_object_157 y Post a0 s_j157 z0j157 → va_P D CL (ws g ad y s_j157) H → va_D A (ws g ad y s_j157) → va_S A s.heap H locs → ∀ ls, lv_has ls 7 [] → W p l e ru_Cw_object s m args below meth c H locs 0 0 Q (F0 m 157 ls [.int z0j157]) := by
            intro s_j157 z0j157 H locs h hP hD hS ls hl
            unfold wj_Cw_object_157 at h
            exact hret _ _ _ _ _ _ _ ls h hP hD hS (Nat.le_refl _) (Nat.le_refl _) d_Cw_object_157
          refine lv_if_eq (tgt := 151) G.1 G.2.1 d_Cw_object_143 (by decide) (fun c143 => ?_) (fun c143 => ?_)
          · skip
            have h := h.1 c143
            refine lv_aload_n G.1 G.2.1 d_Cw_object_151 rfl (lv_at hl 3 rfl) ?_
            refine lv_iload G.1 G.2.1 d_Cw_object_152 (lv_at hl 0 rfl) ?_
            refine ucVi (As := [.int x_12]) (rest := []) G hP hD hS (cu_Cw_tellReference l D g ad y _ s_14 a0 x_12 H.size h_a0 h) w9_Cw_tellReference q2119 ⟨Nat.le_of_ble_eq_true rfl, Nat.le_of_ble_eq_true rfl⟩ rfl rfl h_a0 (q := (RCw, TCw, 20)) rfl rfl hl.1 rfl (Nat.le_of_ble_eq_true rfl) rfl ⟨Nat.le_refl _, Nat.le_refl _⟩ d_Cw_object_154 (fun r_15 s_16 H locs h hP hD hS => ?_)
            exact J_157 s_16 r_15 H locs h hP hD hS ls (lv_sub hl [] rfl)
          · skip
            have h := h.2 c143
            refine lv_iload G.1 G.2.1 d_Cw_object_146 (lv_at hl 0 rfl) ?_
            refine lv_goto (tgt := 157) G.1 G.2.1 d_Cw_object_148 (by decide) ?_
            exact J_157 s_14 x_12 H locs h hP hD hS ls (lv_sub hl [] rfl)
        · skip
          have h := h.2 c41
          exact J_44 s_4 H locs h hP hD hS ls (lv_sub hl [] rfl)
def y_Wr_code : MethodName := ⟨"ClassWorks$Writer", "code", "(II)I"⟩
abbrev b_Wr_code : ByteArray := prog_12_method_15_code
theorem q774 : Cond.fieldLink "ClassWorks$Writer" 39 "ClassWorks$Writer" "world" "LClassWorks$World;" ∈ lw_ok := lw_okmem (List.mem_of_getElem? (i := 774) (by decide +kernel)) rfl
theorem q846 : Cond.fieldLink "ClassWorks$Writer" 138 "ClassWorks$World" "codes" "LClassWorks$Ints;" ∈ lw_ok := lw_okmem (List.mem_of_getElem? (i := 846) (by decide +kernel)) rfl
theorem q386 : Cond.fieldLink "ClassWorks$Writer" 141 "ClassWorks$Ints" "row" "[I" ∈ lw_ok := lw_okmem (List.mem_of_getElem? (i := 386) (by decide +kernel)) rfl
theorem q775 : Cond.fieldLink "ClassWorks$Writer" 20 "ClassWorks$Writer" "cls" "I" ∈ lw_ok := lw_okmem (List.mem_of_getElem? (i := 775) (by decide +kernel)) rfl
theorem q776 : Cond.fieldLink "ClassWorks$Writer" 24 "ClassWorks$Writer" "method" "I" ∈ lw_ok := lw_okmem (List.mem_of_getElem? (i := 776) (by decide +kernel)) rfl
theorem q2221 : Cond.methodLink "ClassWorks$Writer" 144 y_Wd_code ∈ lw_ok := lw_okmem (List.mem_of_getElem? (i := 2221) (by decide +kernel)) rfl
theorem d_Wr_code_0 : decode b_Wr_code 0 = .ok (.aload_n 0, 1) := by decide +kernel
theorem d_Wr_code_1 : decode b_Wr_code 1 = .ok (.getfield 39, 3) := by decide +kernel
theorem d_Wr_code_4 : decode b_Wr_code 4 = .ok (.getfield 138, 3) := by decide +kernel
theorem d_Wr_code_7 : decode b_Wr_code 7 = .ok (.getfield 141, 3) := by decide +kernel
theorem d_Wr_code_10 : decode b_Wr_code 10 = .ok (.aload_n 0, 1) := by decide +kernel
theorem d_Wr_code_11 : decode b_Wr_code 11 = .ok (.getfield 39, 3) := by decide +kernel
theorem d_Wr_code_14 : decode b_Wr_code 14 = .ok (.aload_n 0, 1) := by decide +kernel
theorem d_Wr_code_15 : decode b_Wr_code 15 = .ok (.getfield 20, 3) := by decide +kernel
theorem d_Wr_code_18 : decode b_Wr_code 18 = .ok (.aload_n 0, 1) := by decide +kernel
theorem d_Wr_code_19 : decode b_Wr_code 19 = .ok (.getfield 24, 3) := by decide +kernel
theorem d_Wr_code_22 : decode b_Wr_code 22 = .ok (.iload_n 1, 1) := by decide +kernel
theorem d_Wr_code_23 : decode b_Wr_code 23 = .ok (.invokevirtual 144, 3) := by decide +kernel
theorem d_Wr_code_26 : decode b_Wr_code 26 = .ok (.iload_n 2, 1) := by decide +kernel
theorem d_Wr_code_27 : decode b_Wr_code 27 = .ok (.iadd, 1) := by decide +kernel
theorem d_Wr_code_28 : decode b_Wr_code 28 = .ok (.iaload, 1) := by decide +kernel
theorem d_Wr_code_29 : decode b_Wr_code 29 = .ok (.ireturn, 1) := by decide +kernel
abbrev ru_Wr_code : Room := { frames := 1, cells := 0, slots := 0, locals := 24 }
def wu_Wr_code (y : Ly) (Post : St → Int32 → Prop) (σ : St) (a0 : Nat) (v1 : Int32) (v2 : Int32) : Prop := ∃ b_1 : Nat, sO σ a0 2 = some b_1 ∧ cl b_1 = 9 ∧ ∃ b_4 : Nat, sO σ a0 2 = some b_4 ∧ cl b_4 = 9 ∧ wu_Wd_code y (fun (s_8 : St) (r_7 : Int32) => xA y s_8 (lk b_1 10) 0 (r_7 + v2) (fun x_9 : Int32 => Post s_8 x_9)) σ b_4 (sV σ a0 3) (sV σ a0 4) v1
set_option maxHeartbeats 4000000 in
set_option maxRecDepth 100000 in
theorem cu_Wr_code (l : Launch) (D : va_G) (g : Nat → ClassId) (ad : Nat → Nat) (y : Ly) (Post : St → Int32 → Prop) (σ : St) (a0 : Nat) (v1 : Int32) (v2 : Int32) (sz : Nat) (h_a0 : cl a0 = 10) (h : wu_Wr_code y Post σ a0 v1 v2) : Met l y_Wr_code (mw y_Wr_code b_Wr_code 3 (some .int)) ru_Wr_code (PC g D [] [.ref (ad a0), .int v1, .int v2] sz (ws g ad y σ)) (va_Qi (fun (r : Int32) (u : St) => Post u r) (QW D (va_A (ws g ad y σ) sz) (fun u => ws g ad y u)) (va_A (ws g ad y σ) sz)) 0 0 (va_A (ws g ad y σ) sz) := by
  refine ofI (by decide +kernel) (Nat.le_of_ble_eq_true rfl) ?_
  intro p e s m args below meth c A Q ls H locs G hsz hP hD hS hl hret
  subst hsz
  have hl : lv_has ls 3 [(0, .ref (ad a0)), (1, .int v1), (2, .int v2)] := hl
  unfold wu_Wr_code at h
  refine lv_aload_n G.1 G.2.1 d_Wr_code_0 rfl (lv_at hl 0 rfl) ?_
  obtain ⟨b_1, e_2, c_3, h⟩ := h
  refine ugf (v := .ref (ad b_1)) G hP h_a0 iWr rfl 2 (by decide) rfl q774 rfl (by show va_rf ((sO σ a0 2).map ad) = _; rw [e_2]; rfl) d_Wr_code_1 ?_
  refine ugf (v := .ref (ad (lk b_1 10))) G hP c_3 iWd rfl 10 (by decide) rfl q846 rfl rfl d_Wr_code_4 ?_
  refine ugf (v := .ref (yP y (lk b_1 10) 0)) G hP (lk_9_10 c_3) iIn rfl 0 (by decide) rfl q386 rfl rfl d_Wr_code_7 ?_
  refine lv_aload_n G.1 G.2.1 d_Wr_code_10 rfl (lv_at hl 0 rfl) ?_
  obtain ⟨b_4, e_5, c_6, h⟩ := h
  refine ugf (v := .ref (ad b_4)) G hP h_a0 iWr rfl 2 (by decide) rfl q774 rfl (by show va_rf ((sO σ a0 2).map ad) = _; rw [e_5]; rfl) d_Wr_code_11 ?_
  refine lv_aload_n G.1 G.2.1 d_Wr_code_14 rfl (lv_at hl 0 rfl) ?_
  refine ugf (v := .int (sV σ a0 3)) G hP h_a0 iWr rfl 3 (by decide) rfl q775 rfl rfl d_Wr_code_15 ?_
  refine lv_aload_n G.1 G.2.1 d_Wr_code_18 rfl (lv_at hl 0 rfl) ?_
  refine ugf (v := .int (sV σ a0 4)) G hP h_a0 iWr rfl 4 (by decide) rfl q776 rfl rfl d_Wr_code_19 ?_
  refine lv_iload_n G.1 G.2.1 d_Wr_code_22 rfl (lv_at hl 1 rfl) ?_
  refine W.eq (g2 := F0 m 23 ls [.int v1, .int (sV σ a0 4), .int (sV σ a0 3), .ref (ad b_4), .ref (yP y (lk b_1 10) 0)]) rfl ?_
  refine ucVi (As := [.int (sV σ a0 3), .int (sV σ a0 4), .int v1]) (rest := [.ref (yP y (lk b_1 10) 0)]) G hP hD hS (cu_Wd_code l D g ad y _ σ b_4 (sV σ a0 3) (sV σ a0 4) v1 H.size c_6 h) w9_Wd_code q2221 ⟨Nat.le_of_ble_eq_true rfl, Nat.le_of_ble_eq_true rfl⟩ rfl rfl c_6 (q := (RWd, TWd, 17)) rfl rfl hl.1 rfl (Nat.le_of_ble_eq_true rfl) rfl ⟨Nat.le_refl _, Nat.le_refl _⟩ d_Wr_code_23 (fun r_7 s_8 H locs h hP hD hS => ?_)
  refine lv_iload_n G.1 G.2.1 d_Wr_code_26 rfl (lv_at hl 2 rfl) ?_
  refine lv_iadd G.1 G.2.1 d_Wr_code_27 ?_
  refine uiald G hP (kdp (lk_9_10 c_3) rfl) (typ (lk_9_10 c_3) rfl) h d_Wr_code_28 (fun x_9 h => ?_)
  exact hret _ _ _ _ _ _ _ ls h hP hD hS (Nat.le_refl _) (Nat.le_refl _) d_Wr_code_29
def y_Wr_handler : MethodName := ⟨"ClassWorks$Writer", "handler", "(II)I"⟩
abbrev b_Wr_handler : ByteArray := prog_12_method_16_code
theorem q850 : Cond.fieldLink "ClassWorks$Writer" 147 "ClassWorks$World" "handlers" "LClassWorks$Ints;" ∈ lw_ok := lw_okmem (List.mem_of_getElem? (i := 850) (by decide +kernel)) rfl
theorem q2202 : Cond.methodLink "ClassWorks$Writer" 109 y_Wd_method ∈ lw_ok := lw_okmem (List.mem_of_getElem? (i := 2202) (by decide +kernel)) rfl
theorem d_Wr_handler_0 : decode b_Wr_handler 0 = .ok (.aload_n 0, 1) := by decide +kernel
theorem d_Wr_handler_1 : decode b_Wr_handler 1 = .ok (.getfield 39, 3) := by decide +kernel
theorem d_Wr_handler_4 : decode b_Wr_handler 4 = .ok (.getfield 147, 3) := by decide +kernel
theorem d_Wr_handler_7 : decode b_Wr_handler 7 = .ok (.getfield 141, 3) := by decide +kernel
theorem d_Wr_handler_10 : decode b_Wr_handler 10 = .ok (.aload_n 0, 1) := by decide +kernel
theorem d_Wr_handler_11 : decode b_Wr_handler 11 = .ok (.getfield 39, 3) := by decide +kernel
theorem d_Wr_handler_14 : decode b_Wr_handler 14 = .ok (.aload_n 0, 1) := by decide +kernel
theorem d_Wr_handler_15 : decode b_Wr_handler 15 = .ok (.getfield 20, 3) := by decide +kernel
theorem d_Wr_handler_18 : decode b_Wr_handler 18 = .ok (.aload_n 0, 1) := by decide +kernel
theorem d_Wr_handler_19 : decode b_Wr_handler 19 = .ok (.getfield 24, 3) := by decide +kernel
theorem d_Wr_handler_22 : decode b_Wr_handler 22 = .ok (.bipush 6, 2) := by decide +kernel
theorem d_Wr_handler_24 : decode b_Wr_handler 24 = .ok (.invokevirtual 109, 3) := by decide +kernel
theorem d_Wr_handler_27 : decode b_Wr_handler 27 = .ok (.iload_n 1, 1) := by decide +kernel
theorem d_Wr_handler_28 : decode b_Wr_handler 28 = .ok (.iconst 4, 1) := by decide +kernel
theorem d_Wr_handler_29 : decode b_Wr_handler 29 = .ok (.imul, 1) := by decide +kernel
theorem d_Wr_handler_30 : decode b_Wr_handler 30 = .ok (.iadd, 1) := by decide +kernel
theorem d_Wr_handler_31 : decode b_Wr_handler 31 = .ok (.iload_n 2, 1) := by decide +kernel
theorem d_Wr_handler_32 : decode b_Wr_handler 32 = .ok (.iadd, 1) := by decide +kernel
theorem d_Wr_handler_33 : decode b_Wr_handler 33 = .ok (.iaload, 1) := by decide +kernel
theorem d_Wr_handler_34 : decode b_Wr_handler 34 = .ok (.ireturn, 1) := by decide +kernel
abbrev ru_Wr_handler : Room := { frames := 1, cells := 0, slots := 0, locals := 23 }
def wu_Wr_handler (y : Ly) (Post : St → Int32 → Prop) (σ : St) (a0 : Nat) (v1 : Int32) (v2 : Int32) : Prop := ∃ b_1 : Nat, sO σ a0 2 = some b_1 ∧ cl b_1 = 9 ∧ ∃ b_4 : Nat, sO σ a0 2 = some b_4 ∧ cl b_4 = 9 ∧ wu_Wd_method y (fun (s_8 : St) (r_7 : Int32) => xA y s_8 (lk b_1 11) 0 ((r_7 + (v1 * 4)) + v2) (fun x_9 : Int32 => Post s_8 x_9)) σ b_4 (sV σ a0 3) (sV σ a0 4) 6
set_option maxHeartbeats 4000000 in
set_option maxRecDepth 100000 in
theorem cu_Wr_handler (l : Launch) (D : va_G) (g : Nat → ClassId) (ad : Nat → Nat) (y : Ly) (Post : St → Int32 → Prop) (σ : St) (a0 : Nat) (v1 : Int32) (v2 : Int32) (sz : Nat) (h_a0 : cl a0 = 10) (h : wu_Wr_handler y Post σ a0 v1 v2) : Met l y_Wr_handler (mw y_Wr_handler b_Wr_handler 3 (some .int)) ru_Wr_handler (PC g D [] [.ref (ad a0), .int v1, .int v2] sz (ws g ad y σ)) (va_Qi (fun (r : Int32) (u : St) => Post u r) (QW D (va_A (ws g ad y σ) sz) (fun u => ws g ad y u)) (va_A (ws g ad y σ) sz)) 0 0 (va_A (ws g ad y σ) sz) := by
  refine ofI (by decide +kernel) (Nat.le_of_ble_eq_true rfl) ?_
  intro p e s m args below meth c A Q ls H locs G hsz hP hD hS hl hret
  subst hsz
  have hl : lv_has ls 3 [(0, .ref (ad a0)), (1, .int v1), (2, .int v2)] := hl
  unfold wu_Wr_handler at h
  refine lv_aload_n G.1 G.2.1 d_Wr_handler_0 rfl (lv_at hl 0 rfl) ?_
  obtain ⟨b_1, e_2, c_3, h⟩ := h
  refine ugf (v := .ref (ad b_1)) G hP h_a0 iWr rfl 2 (by decide) rfl q774 rfl (by show va_rf ((sO σ a0 2).map ad) = _; rw [e_2]; rfl) d_Wr_handler_1 ?_
  refine ugf (v := .ref (ad (lk b_1 11))) G hP c_3 iWd rfl 11 (by decide) rfl q850 rfl rfl d_Wr_handler_4 ?_
  refine ugf (v := .ref (yP y (lk b_1 11) 0)) G hP (lk_9_11 c_3) iIn rfl 0 (by decide) rfl q386 rfl rfl d_Wr_handler_7 ?_
  refine lv_aload_n G.1 G.2.1 d_Wr_handler_10 rfl (lv_at hl 0 rfl) ?_
  obtain ⟨b_4, e_5, c_6, h⟩ := h
  refine ugf (v := .ref (ad b_4)) G hP h_a0 iWr rfl 2 (by decide) rfl q774 rfl (by show va_rf ((sO σ a0 2).map ad) = _; rw [e_5]; rfl) d_Wr_handler_11 ?_
  refine lv_aload_n G.1 G.2.1 d_Wr_handler_14 rfl (lv_at hl 0 rfl) ?_
  refine ugf (v := .int (sV σ a0 3)) G hP h_a0 iWr rfl 3 (by decide) rfl q775 rfl rfl d_Wr_handler_15 ?_
  refine lv_aload_n G.1 G.2.1 d_Wr_handler_18 rfl (lv_at hl 0 rfl) ?_
  refine ugf (v := .int (sV σ a0 4)) G hP h_a0 iWr rfl 4 (by decide) rfl q776 rfl rfl d_Wr_handler_19 ?_
  refine lv_bipush (v := 6) G.1 G.2.1 d_Wr_handler_22 (by decide) ?_
  refine W.eq (g2 := F0 m 24 ls [.int 6, .int (sV σ a0 4), .int (sV σ a0 3), .ref (ad b_4), .ref (yP y (lk b_1 11) 0)]) rfl ?_
  refine ucVi (As := [.int (sV σ a0 3), .int (sV σ a0 4), .int 6]) (rest := [.ref (yP y (lk b_1 11) 0)]) G hP hD hS (cu_Wd_method l D g ad y _ σ b_4 (sV σ a0 3) (sV σ a0 4) 6 H.size c_6 h) w9_Wd_method q2202 ⟨Nat.le_of_ble_eq_true rfl, Nat.le_of_ble_eq_true rfl⟩ rfl rfl c_6 (q := (RWd, TWd, 17)) rfl rfl hl.1 rfl (Nat.le_of_ble_eq_true rfl) rfl ⟨Nat.le_refl _, Nat.le_refl _⟩ d_Wr_handler_24 (fun r_7 s_8 H locs h hP hD hS => ?_)
  refine lv_iload_n G.1 G.2.1 d_Wr_handler_27 rfl (lv_at hl 1 rfl) ?_
  refine lv_iconst (v := 4) G.1 G.2.1 d_Wr_handler_28 (by decide) ?_
  refine lv_imul G.1 G.2.1 d_Wr_handler_29 ?_
  refine lv_iadd G.1 G.2.1 d_Wr_handler_30 ?_
  refine lv_iload_n G.1 G.2.1 d_Wr_handler_31 rfl (lv_at hl 2 rfl) ?_
  refine lv_iadd G.1 G.2.1 d_Wr_handler_32 ?_
  refine uiald G hP (kdp (lk_9_11 c_3) rfl) (typ (lk_9_11 c_3) rfl) h d_Wr_handler_33 (fun x_9 h => ?_)
  exact hret _ _ _ _ _ _ _ ls h hP hD hS (Nat.le_refl _) (Nat.le_refl _) d_Wr_handler_34
def y_Cw_written : MethodName := ⟨"ClassWorks", "written", "(I)I"⟩
abbrev b_Cw_written : ByteArray := prog_1_method_34_code
theorem q1138 : Cond.fieldLink "ClassWorks" 104 "ClassWorks" "writer" "LClassWorks$Writer;" ∈ lw_ok := lw_okmem (List.mem_of_getElem? (i := 1138) (by decide +kernel)) rfl
theorem q772 : Cond.fieldLink "ClassWorks" 349 "ClassWorks$Writer" "out" "LClassWorks$Ints;" ∈ lw_ok := lw_okmem (List.mem_of_getElem? (i := 772) (by decide +kernel)) rfl
theorem q397 : Cond.fieldLink "ClassWorks" 353 "ClassWorks$Ints" "size" "I" ∈ lw_ok := lw_okmem (List.mem_of_getElem? (i := 397) (by decide +kernel)) rfl
theorem q388 : Cond.fieldLink "ClassWorks" 358 "ClassWorks$Ints" "row" "[I" ∈ lw_ok := lw_okmem (List.mem_of_getElem? (i := 388) (by decide +kernel)) rfl
theorem d_Cw_written_0 : decode b_Cw_written 0 = .ok (.iload_n 1, 1) := by decide +kernel
theorem d_Cw_written_1 : decode b_Cw_written 1 = .ok (.ifCond .lt 17, 3) := by decide +kernel
theorem d_Cw_written_4 : decode b_Cw_written 4 = .ok (.iload_n 1, 1) := by decide +kernel
theorem d_Cw_written_5 : decode b_Cw_written 5 = .ok (.aload_n 0, 1) := by decide +kernel
theorem d_Cw_written_6 : decode b_Cw_written 6 = .ok (.getfield 104, 3) := by decide +kernel
theorem d_Cw_written_9 : decode b_Cw_written 9 = .ok (.getfield 349, 3) := by decide +kernel
theorem d_Cw_written_12 : decode b_Cw_written 12 = .ok (.getfield 353, 3) := by decide +kernel
theorem d_Cw_written_15 : decode b_Cw_written 15 = .ok (.if_icmp .lt 7, 3) := by decide +kernel
theorem d_Cw_written_18 : decode b_Cw_written 18 = .ok (.iconst (-1), 1) := by decide +kernel
theorem d_Cw_written_19 : decode b_Cw_written 19 = .ok (.goto 15, 3) := by decide +kernel
theorem d_Cw_written_22 : decode b_Cw_written 22 = .ok (.aload_n 0, 1) := by decide +kernel
theorem d_Cw_written_23 : decode b_Cw_written 23 = .ok (.getfield 104, 3) := by decide +kernel
theorem d_Cw_written_26 : decode b_Cw_written 26 = .ok (.getfield 349, 3) := by decide +kernel
theorem d_Cw_written_29 : decode b_Cw_written 29 = .ok (.getfield 358, 3) := by decide +kernel
theorem d_Cw_written_32 : decode b_Cw_written 32 = .ok (.iload_n 1, 1) := by decide +kernel
theorem d_Cw_written_33 : decode b_Cw_written 33 = .ok (.iaload, 1) := by decide +kernel
theorem d_Cw_written_34 : decode b_Cw_written 34 = .ok (.ireturn, 1) := by decide +kernel
abbrev ru_Cw_written : Room := { frames := 0, cells := 0, slots := 0, locals := 0 }
def wj_Cw_written_34 (y : Ly) (Post : St → Int32 → Prop) (a0 : Nat) (s_j34 : St) (z0j34 : Int32) : Prop := Post s_j34 z0j34
def wj_Cw_written_18 (y : Ly) (Post : St → Int32 → Prop) (a0 : Nat) (s_j18 : St) : Prop := wj_Cw_written_34 y Post a0 s_j18 (-1)
def wu_Cw_written (y : Ly) (Post : St → Int32 → Prop) (σ : St) (a0 : Nat) (v1 : Int32) : Prop := ((v1 < 0 → wj_Cw_written_18 y Post a0 σ) ∧ (¬ (v1 < 0) → ((v1 < (sV σ (lk (lk a0 4) 0) 1) → xA y σ (lk (lk a0 4) 0) 0 v1 (fun x_1 : Int32 => wj_Cw_written_34 y Post a0 σ x_1)) ∧ (¬ (v1 < (sV σ (lk (lk a0 4) 0) 1)) → wj_Cw_written_18 y Post a0 σ))))
set_option maxHeartbeats 4000000 in
set_option maxRecDepth 100000 in
theorem cu_Cw_written (l : Launch) (D : va_G) (g : Nat → ClassId) (ad : Nat → Nat) (y : Ly) (Post : St → Int32 → Prop) (σ : St) (a0 : Nat) (v1 : Int32) (sz : Nat) (h_a0 : cl a0 = 11) (h : wu_Cw_written y Post σ a0 v1) : Met l y_Cw_written (mw y_Cw_written b_Cw_written 2 (some .int)) ru_Cw_written (PC g D [] [.ref (ad a0), .int v1] sz (ws g ad y σ)) (va_Qi (fun (r : Int32) (u : St) => Post u r) (QW D (va_A (ws g ad y σ) sz) (fun u => ws g ad y u)) (va_A (ws g ad y σ) sz)) 0 0 (va_A (ws g ad y σ) sz) := by
  refine ofI (by decide +kernel) (Nat.le_of_ble_eq_true rfl) ?_
  intro p e s m args below meth c A Q ls H locs G hsz hP hD hS hl hret
  subst hsz
  have hl : lv_has ls 2 [(0, .ref (ad a0)), (1, .int v1)] := hl
  unfold wu_Cw_written at h
  refine lv_iload_n G.1 G.2.1 d_Cw_written_0 rfl (lv_at hl 1 rfl) ?_
  have J_34 : ∀ (s_j34 : St) (z0j34 : Int32) (H : Heap) (locs : List Loc), wj_Cw_written_34 y Post a0 s_j34 z0j34 → va_P D CL (ws g ad y s_j34) H → va_D A (ws g ad y s_j34) → va_S A s.heap H locs → ∀ ls, lv_has ls 2 [] → W p l e ru_Cw_written s m args below meth c H locs 0 0 Q (F0 m 34 ls [.int z0j34]) := by
    intro s_j34 z0j34 H locs h hP hD hS ls hl
    unfold wj_Cw_written_34 at h
    exact hret _ _ _ _ _ _ _ ls h hP hD hS (Nat.le_refl _) (Nat.le_refl _) d_Cw_written_34
  have J_18 : ∀ (s_j18 : St) (H : Heap) (locs : List Loc), wj_Cw_written_18 y Post a0 s_j18 → va_P D CL (ws g ad y s_j18) H → va_D A (ws g ad y s_j18) → va_S A s.heap H locs → ∀ ls, lv_has ls 2 [] → W p l e ru_Cw_written s m args below meth c H locs 0 0 Q (F0 m 18 ls []) := by
    intro s_j18 H locs h hP hD hS ls hl
    unfold wj_Cw_written_18 at h
    refine lv_iconst (v := (-1)) G.1 G.2.1 d_Cw_written_18 (by decide) ?_
    refine lv_goto (tgt := 34) G.1 G.2.1 d_Cw_written_19 (by decide) ?_
    exact J_34 s_j18 (-1) H locs h hP hD hS ls (lv_sub hl [] rfl)
  refine lv_if_lt (tgt := 18) G.1 G.2.1 d_Cw_written_1 (by decide) (fun c1 => ?_) (fun c1 => ?_)
  · skip
    have h := h.1 c1
    exact J_18 σ H locs h hP hD hS ls (lv_sub hl [] rfl)
  · skip
    have h := h.2 c1
    refine lv_iload_n G.1 G.2.1 d_Cw_written_4 rfl (lv_at hl 1 rfl) ?_
    refine lv_aload_n G.1 G.2.1 d_Cw_written_5 rfl (lv_at hl 0 rfl) ?_
    refine ugf (v := .ref (ad (lk a0 4))) G hP h_a0 iCw rfl 4 (by decide) rfl q1138 rfl rfl d_Cw_written_6 ?_
    refine ugf (v := .ref (ad (lk (lk a0 4) 0))) G hP (lk_11_4 h_a0) iWr rfl 0 (by decide) rfl q772 rfl rfl d_Cw_written_9 ?_
    refine ugf (v := .int (sV σ (lk (lk a0 4) 0) 1)) G hP (lk_10_0 (lk_11_4 h_a0)) iIn rfl 1 (by decide) rfl q397 rfl rfl d_Cw_written_12 ?_
    refine lv_icmp_lt (tgt := 22) G.1 G.2.1 d_Cw_written_15 (by decide) (fun c15 => ?_) (fun c15 => ?_)
    · skip
      have h := h.1 c15
      refine lv_aload_n G.1 G.2.1 d_Cw_written_22 rfl (lv_at hl 0 rfl) ?_
      refine ugf (v := .ref (ad (lk a0 4))) G hP h_a0 iCw rfl 4 (by decide) rfl q1138 rfl rfl d_Cw_written_23 ?_
      refine ugf (v := .ref (ad (lk (lk a0 4) 0))) G hP (lk_11_4 h_a0) iWr rfl 0 (by decide) rfl q772 rfl rfl d_Cw_written_26 ?_
      refine W.eq (g2 := F0 m 29 ls [.ref (ad (lk (lk a0 4) 0))]) rfl ?_
      refine ugf (v := .ref (yP y (lk (lk a0 4) 0) 0)) G hP (lk_10_0 (lk_11_4 h_a0)) iIn rfl 0 (by decide) rfl q388 rfl rfl d_Cw_written_29 ?_
      refine lv_iload_n G.1 G.2.1 d_Cw_written_32 rfl (lv_at hl 1 rfl) ?_
      refine uiald G hP (kdp (lk_10_0 (lk_11_4 h_a0)) rfl) (typ (lk_10_0 (lk_11_4 h_a0)) rfl) h d_Cw_written_33 (fun x_1 h => ?_)
      exact J_34 σ x_1 H locs h hP hD hS ls (lv_sub hl [] rfl)
    · skip
      have h := h.2 c15
      exact J_18 σ H locs h hP hD hS ls (lv_sub hl [] rfl)
def y_Wd_hasBody : MethodName := ⟨"ClassWorks$World", "hasBody", "(II)Z"⟩
abbrev b_Wd_hasBody : ByteArray := prog_11_method_16_code
theorem d_Wd_hasBody_0 : decode b_Wd_hasBody 0 = .ok (.aload_n 0, 1) := by decide +kernel
theorem d_Wd_hasBody_1 : decode b_Wd_hasBody 1 = .ok (.getfield 45, 3) := by decide +kernel
theorem d_Wd_hasBody_4 : decode b_Wd_hasBody 4 = .ok (.getfield 98, 3) := by decide +kernel
theorem d_Wd_hasBody_7 : decode b_Wd_hasBody 7 = .ok (.aload_n 0, 1) := by decide +kernel
theorem d_Wd_hasBody_8 : decode b_Wd_hasBody 8 = .ok (.getfield 28, 3) := by decide +kernel
theorem d_Wd_hasBody_11 : decode b_Wd_hasBody 11 = .ok (.iload_n 1, 1) := by decide +kernel
theorem d_Wd_hasBody_12 : decode b_Wd_hasBody 12 = .ok (.bipush 19, 2) := by decide +kernel
theorem d_Wd_hasBody_14 : decode b_Wd_hasBody 14 = .ok (.imul, 1) := by decide +kernel
theorem d_Wd_hasBody_15 : decode b_Wd_hasBody 15 = .ok (.bipush 10, 2) := by decide +kernel
theorem d_Wd_hasBody_17 : decode b_Wd_hasBody 17 = .ok (.iadd, 1) := by decide +kernel
theorem d_Wd_hasBody_18 : decode b_Wd_hasBody 18 = .ok (.iaload, 1) := by decide +kernel
theorem d_Wd_hasBody_19 : decode b_Wd_hasBody 19 = .ok (.iload_n 2, 1) := by decide +kernel
theorem d_Wd_hasBody_20 : decode b_Wd_hasBody 20 = .ok (.bipush 8, 2) := by decide +kernel
theorem d_Wd_hasBody_22 : decode b_Wd_hasBody 22 = .ok (.imul, 1) := by decide +kernel
theorem d_Wd_hasBody_23 : decode b_Wd_hasBody 23 = .ok (.iadd, 1) := by decide +kernel
theorem d_Wd_hasBody_24 : decode b_Wd_hasBody 24 = .ok (.iconst 1, 1) := by decide +kernel
theorem d_Wd_hasBody_25 : decode b_Wd_hasBody 25 = .ok (.iadd, 1) := by decide +kernel
theorem d_Wd_hasBody_26 : decode b_Wd_hasBody 26 = .ok (.iaload, 1) := by decide +kernel
theorem d_Wd_hasBody_27 : decode b_Wd_hasBody 27 = .ok (.istore_n 3, 1) := by decide +kernel
theorem d_Wd_hasBody_28 : decode b_Wd_hasBody 28 = .ok (.iload_n 1, 1) := by decide +kernel
theorem d_Wd_hasBody_29 : decode b_Wd_hasBody 29 = .ok (.bipush 21, 2) := by decide +kernel
theorem d_Wd_hasBody_31 : decode b_Wd_hasBody 31 = .ok (.if_icmp .lt 14, 3) := by decide +kernel
theorem d_Wd_hasBody_34 : decode b_Wd_hasBody 34 = .ok (.iload_n 3, 1) := by decide +kernel
theorem d_Wd_hasBody_35 : decode b_Wd_hasBody 35 = .ok (.bipush 8, 2) := by decide +kernel
theorem d_Wd_hasBody_37 : decode b_Wd_hasBody 37 = .ok (.iand, 1) := by decide +kernel
theorem d_Wd_hasBody_38 : decode b_Wd_hasBody 38 = .ok (.ifCond .ne 7, 3) := by decide +kernel
theorem d_Wd_hasBody_41 : decode b_Wd_hasBody 41 = .ok (.iconst 1, 1) := by decide +kernel
theorem d_Wd_hasBody_42 : decode b_Wd_hasBody 42 = .ok (.goto 4, 3) := by decide +kernel
theorem d_Wd_hasBody_45 : decode b_Wd_hasBody 45 = .ok (.iconst 0, 1) := by decide +kernel
theorem d_Wd_hasBody_46 : decode b_Wd_hasBody 46 = .ok (.ireturn, 1) := by decide +kernel
abbrev ru_Wd_hasBody : Room := { frames := 0, cells := 0, slots := 0, locals := 0 }
def wj_Wd_hasBody_46 (y : Ly) (Post : St → Int32 → Prop) (a0 : Nat) (s_j46 : St) (z0j46 : Int32) : Prop := (nb z0j46 ∧ Post s_j46 z0j46)
def wj_Wd_hasBody_45 (y : Ly) (Post : St → Int32 → Prop) (a0 : Nat) (s_j45 : St) : Prop := wj_Wd_hasBody_46 y Post a0 s_j45 0
def wu_Wd_hasBody (y : Ly) (Post : St → Int32 → Prop) (σ : St) (a0 : Nat) (v1 : Int32) (v2 : Int32) : Prop := xA y σ a0 6 ((v1 * 19) + 10) (fun x_1 : Int32 => xA y σ (lk a0 9) 0 ((x_1 + (v2 * 8)) + 1) (fun x_2 : Int32 => ((v1 < 21 → wj_Wd_hasBody_45 y Post a0 σ) ∧ (¬ (v1 < 21) → ((¬ (x_2 &&& 8) = 0 → wj_Wd_hasBody_45 y Post a0 σ) ∧ ((x_2 &&& 8) = 0 → wj_Wd_hasBody_46 y Post a0 σ 1))))))
set_option maxHeartbeats 4000000 in
set_option maxRecDepth 100000 in
theorem cu_Wd_hasBody (l : Launch) (D : va_G) (g : Nat → ClassId) (ad : Nat → Nat) (y : Ly) (Post : St → Int32 → Prop) (σ : St) (a0 : Nat) (v1 : Int32) (v2 : Int32) (sz : Nat) (h_a0 : cl a0 = 9) (h : wu_Wd_hasBody y Post σ a0 v1 v2) : Met l y_Wd_hasBody (mw y_Wd_hasBody b_Wd_hasBody 4 (some (.boolean))) ru_Wd_hasBody (PC g D [] [.ref (ad a0), .int v1, .int v2] sz (ws g ad y σ)) (va_Qi (fun (r : Int32) (u : St) => Post u r) (QW D (va_A (ws g ad y σ) sz) (fun u => ws g ad y u)) (va_A (ws g ad y σ) sz)) 0 0 (va_A (ws g ad y σ) sz) := by
  refine ofZ (by decide +kernel) (Nat.le_of_ble_eq_true rfl) ?_
  intro p e s m args below meth c A Q ls H locs G hsz hP hD hS hl hret
  subst hsz
  have hl : lv_has ls 4 [(0, .ref (ad a0)), (1, .int v1), (2, .int v2)] := hl
  unfold wu_Wd_hasBody at h
  refine lv_aload_n G.1 G.2.1 d_Wd_hasBody_0 rfl (lv_at hl 0 rfl) ?_
  refine ugf (v := .ref (ad (lk a0 9))) G hP h_a0 iWd rfl 9 (by decide) rfl q839 rfl rfl d_Wd_hasBody_1 ?_
  refine ugf (v := .ref (yP y (lk a0 9) 0)) G hP (lk_9_9 h_a0) iIn rfl 0 (by decide) rfl q384 rfl rfl d_Wd_hasBody_4 ?_
  refine lv_aload_n G.1 G.2.1 d_Wd_hasBody_7 rfl (lv_at hl 0 rfl) ?_
  refine ugf (v := .ref (yP y a0 6)) G hP h_a0 iWd rfl 6 (by decide) rfl q831 rfl rfl d_Wd_hasBody_8 ?_
  refine lv_iload_n G.1 G.2.1 d_Wd_hasBody_11 rfl (lv_at hl 1 rfl) ?_
  refine lv_bipush (v := 19) G.1 G.2.1 d_Wd_hasBody_12 (by decide) ?_
  refine lv_imul G.1 G.2.1 d_Wd_hasBody_14 ?_
  refine lv_bipush (v := 10) G.1 G.2.1 d_Wd_hasBody_15 (by decide) ?_
  refine lv_iadd G.1 G.2.1 d_Wd_hasBody_17 ?_
  refine uiald G hP (kdp h_a0 rfl) (typ h_a0 rfl) h d_Wd_hasBody_18 (fun x_1 h => ?_)
  refine W.eq (g2 := F0 m 19 ls [.int x_1, .ref (yP y (lk a0 9) 0)]) rfl ?_
  refine lv_iload_n G.1 G.2.1 d_Wd_hasBody_19 rfl (lv_at hl 2 rfl) ?_
  refine lv_bipush (v := 8) G.1 G.2.1 d_Wd_hasBody_20 (by decide) ?_
  refine lv_imul G.1 G.2.1 d_Wd_hasBody_22 ?_
  refine lv_iadd G.1 G.2.1 d_Wd_hasBody_23 ?_
  refine lv_iconst (v := 1) G.1 G.2.1 d_Wd_hasBody_24 (by decide) ?_
  refine lv_iadd G.1 G.2.1 d_Wd_hasBody_25 ?_
  refine uiald G hP (kdp (lk_9_9 h_a0) rfl) (typ (lk_9_9 h_a0) rfl) h d_Wd_hasBody_26 (fun x_2 h => ?_)
  refine lv_istore_n (lv' := [(3, .int x_2), (0, .ref (ad a0)), (1, .int v1), (2, .int v2)]) G.1 G.2.1 d_Wd_hasBody_27 rfl hl (by decide) rfl (fun ls hl => ?_)
  refine lv_iload_n G.1 G.2.1 d_Wd_hasBody_28 rfl (lv_at hl 2 rfl) ?_
  refine lv_bipush (v := 21) G.1 G.2.1 d_Wd_hasBody_29 (by decide) ?_
  have J_46 : ∀ (s_j46 : St) (z0j46 : Int32) (H : Heap) (locs : List Loc), wj_Wd_hasBody_46 y Post a0 s_j46 z0j46 → va_P D CL (ws g ad y s_j46) H → va_D A (ws g ad y s_j46) → va_S A s.heap H locs → ∀ ls, lv_has ls 4 [] → W p l e ru_Wd_hasBody s m args below meth c H locs 0 0 Q (F0 m 46 ls [.int z0j46]) := by
    intro s_j46 z0j46 H locs h hP hD hS ls hl
    unfold wj_Wd_hasBody_46 at h
    exact hret _ _ _ _ _ _ _ ls (nb_n h.1) h.2 hP hD hS (Nat.le_refl _) (Nat.le_refl _) d_Wd_hasBody_46
  have J_45 : ∀ (s_j45 : St) (H : Heap) (locs : List Loc), wj_Wd_hasBody_45 y Post a0 s_j45 → va_P D CL (ws g ad y s_j45) H → va_D A (ws g ad y s_j45) → va_S A s.heap H locs → ∀ ls, lv_has ls 4 [] → W p l e ru_Wd_hasBody s m args below meth c H locs 0 0 Q (F0 m 45 ls []) := by
    intro s_j45 H locs h hP hD hS ls hl
    unfold wj_Wd_hasBody_45 at h
    refine lv_iconst (v := 0) G.1 G.2.1 d_Wd_hasBody_45 (by decide) ?_
    exact J_46 s_j45 0 H locs h hP hD hS ls (lv_sub hl [] rfl)
  refine lv_icmp_lt (tgt := 45) G.1 G.2.1 d_Wd_hasBody_31 (by decide) (fun c31 => ?_) (fun c31 => ?_)
  · skip
    have h := h.1 c31
    exact J_45 σ H locs h hP hD hS ls (lv_sub hl [] rfl)
  · skip
    have h := h.2 c31
    refine lv_iload_n G.1 G.2.1 d_Wd_hasBody_34 rfl (lv_at hl 0 rfl) ?_
    refine W.eq (g2 := F0 m 35 ls [.int x_2]) rfl ?_
    refine lv_bipush (v := 8) G.1 G.2.1 d_Wd_hasBody_35 (by decide) ?_
    refine lv_iand G.1 G.2.1 d_Wd_hasBody_37 ?_
    refine lv_if_ne (tgt := 45) G.1 G.2.1 d_Wd_hasBody_38 (by decide) (fun c38 => ?_) (fun c38 => ?_)
    · skip
      have h := h.1 c38
      exact J_45 σ H locs h hP hD hS ls (lv_sub hl [] rfl)
    · skip
      have h := h.2 c38
      refine lv_iconst (v := 1) G.1 G.2.1 d_Wd_hasBody_41 (by decide) ?_
      refine lv_goto (tgt := 46) G.1 G.2.1 d_Wd_hasBody_42 (by decide) ?_
      exact J_46 σ 1 H locs h hP hD hS ls (lv_sub hl [] rfl)
def y_Ck_aboveByParents : MethodName := ⟨"ClassWorks$Checker", "aboveByParents", "(II)Z"⟩
abbrev b_Ck_aboveByParents : ByteArray := prog_2_method_34_code
theorem q2296 : Cond.methodLink "ClassWorks$Checker" 262 y_Wd_up ∈ lw_ok := lw_okmem (List.mem_of_getElem? (i := 2296) (by decide +kernel)) rfl
theorem d_Ck_aboveByParents_0 : decode b_Ck_aboveByParents 0 = .ok (.iload_n 2, 1) := by decide +kernel
theorem d_Ck_aboveByParents_1 : decode b_Ck_aboveByParents 1 = .ok (.istore_n 3, 1) := by decide +kernel
theorem d_Ck_aboveByParents_2 : decode b_Ck_aboveByParents 2 = .ok (.iconst 0, 1) := by decide +kernel
theorem d_Ck_aboveByParents_3 : decode b_Ck_aboveByParents 3 = .ok (.istore 4, 2) := by decide +kernel
theorem d_Ck_aboveByParents_5 : decode b_Ck_aboveByParents 5 = .ok (.iload 4, 2) := by decide +kernel
theorem d_Ck_aboveByParents_7 : decode b_Ck_aboveByParents 7 = .ok (.bipush 51, 2) := by decide +kernel
theorem d_Ck_aboveByParents_9 : decode b_Ck_aboveByParents 9 = .ok (.if_icmp .ge 27, 3) := by decide +kernel
theorem d_Ck_aboveByParents_12 : decode b_Ck_aboveByParents 12 = .ok (.iload_n 3, 1) := by decide +kernel
theorem d_Ck_aboveByParents_13 : decode b_Ck_aboveByParents 13 = .ok (.ifCond .lt 23, 3) := by decide +kernel
theorem d_Ck_aboveByParents_16 : decode b_Ck_aboveByParents 16 = .ok (.iload_n 3, 1) := by decide +kernel
theorem d_Ck_aboveByParents_17 : decode b_Ck_aboveByParents 17 = .ok (.iload_n 1, 1) := by decide +kernel
theorem d_Ck_aboveByParents_18 : decode b_Ck_aboveByParents 18 = .ok (.if_icmp .eq 18, 3) := by decide +kernel
theorem d_Ck_aboveByParents_21 : decode b_Ck_aboveByParents 21 = .ok (.aload_n 0, 1) := by decide +kernel
theorem d_Ck_aboveByParents_22 : decode b_Ck_aboveByParents 22 = .ok (.getfield 78, 3) := by decide +kernel
theorem d_Ck_aboveByParents_25 : decode b_Ck_aboveByParents 25 = .ok (.iload_n 3, 1) := by decide +kernel
theorem d_Ck_aboveByParents_26 : decode b_Ck_aboveByParents 26 = .ok (.invokevirtual 262, 3) := by decide +kernel
theorem d_Ck_aboveByParents_29 : decode b_Ck_aboveByParents 29 = .ok (.istore_n 3, 1) := by decide +kernel
theorem d_Ck_aboveByParents_30 : decode b_Ck_aboveByParents 30 = .ok (.iinc 4 1, 3) := by decide +kernel
theorem d_Ck_aboveByParents_33 : decode b_Ck_aboveByParents 33 = .ok (.goto (-28), 3) := by decide +kernel
theorem d_Ck_aboveByParents_36 : decode b_Ck_aboveByParents 36 = .ok (.iload_n 3, 1) := by decide +kernel
theorem d_Ck_aboveByParents_37 : decode b_Ck_aboveByParents 37 = .ok (.iload_n 1, 1) := by decide +kernel
theorem d_Ck_aboveByParents_38 : decode b_Ck_aboveByParents 38 = .ok (.if_icmp .ne 7, 3) := by decide +kernel
theorem d_Ck_aboveByParents_41 : decode b_Ck_aboveByParents 41 = .ok (.iconst 1, 1) := by decide +kernel
theorem d_Ck_aboveByParents_42 : decode b_Ck_aboveByParents 42 = .ok (.goto 4, 3) := by decide +kernel
theorem d_Ck_aboveByParents_45 : decode b_Ck_aboveByParents 45 = .ok (.iconst 0, 1) := by decide +kernel
theorem d_Ck_aboveByParents_46 : decode b_Ck_aboveByParents 46 = .ok (.ireturn, 1) := by decide +kernel
abbrev ru_Ck_aboveByParents : Room := { frames := 1, cells := 0, slots := 0, locals := 23 }
def wj_Ck_aboveByParents_46 (y : Ly) (Post : St → Int32 → Prop) (a0 : Nat) (s_j46 : St) (z0j46 : Int32) : Prop := (nb z0j46 ∧ Post s_j46 z0j46)
def wj_Ck_aboveByParents_36 (y : Ly) (Post : St → Int32 → Prop) (a0 : Nat) (s_j36 : St) (x1j36 : Int32) (x3j36 : Int32) : Prop := ((¬ x3j36 = x1j36 → wj_Ck_aboveByParents_46 y Post a0 s_j36 0) ∧ (x3j36 = x1j36 → wj_Ck_aboveByParents_46 y Post a0 s_j36 1))
def wb_Ck_aboveByParents_5 (y : Ly) (Post : St → Int32 → Prop) (K_5 : St → Int32 → Int32 → Int32 → Prop) (a0 : Nat) (s_h5 : St) (x1h5 : Int32) (x3h5 : Int32) (x4h5 : Int32) : Prop := ((51 ≤ x4h5 → wj_Ck_aboveByParents_36 y Post a0 s_h5 x1h5 x3h5) ∧ (¬ (51 ≤ x4h5) → ((x3h5 < 0 → wj_Ck_aboveByParents_36 y Post a0 s_h5 x1h5 x3h5) ∧ (¬ (x3h5 < 0) → ((x3h5 = x1h5 → wj_Ck_aboveByParents_36 y Post a0 s_h5 x1h5 x3h5) ∧ (¬ (x3h5 = x1h5) → ∃ b_1 : Nat, sO s_h5 a0 3 = some b_1 ∧ cl b_1 = 9 ∧ wu_Wd_up y (fun (s_5 : St) (r_4 : Int32) => K_5 s_5 x1h5 r_4 (x4h5 + 1)) s_h5 b_1 x3h5))))))
def wl_Ck_aboveByParents_5 (y : Ly) (Post : St → Int32 → Prop) (a0 : Nat) (s_h5 : St) (x1h5 : Int32) (x3h5 : Int32) (x4h5 : Int32) : Prop := ∃ (I : St → Int32 → Int32 → Int32 → Prop) (μ : St → Int32 → Int32 → Int32 → Nat), I s_h5 x1h5 x3h5 x4h5 ∧ ∀ (u : St) (t0 : Int32) (t1 : Int32) (t2 : Int32), I u t0 t1 t2 → wb_Ck_aboveByParents_5 y Post (fun z t0q t1q t2q => I z t0q t1q t2q ∧ μ z t0q t1q t2q < μ u t0 t1 t2) a0 u t0 t1 t2
def wu_Ck_aboveByParents (y : Ly) (Post : St → Int32 → Prop) (σ : St) (a0 : Nat) (v1 : Int32) (v2 : Int32) : Prop := wl_Ck_aboveByParents_5 y Post a0 σ v1 v2 0
set_option maxHeartbeats 4000000 in
set_option maxRecDepth 100000 in
theorem cu_Ck_aboveByParents (l : Launch) (D : va_G) (g : Nat → ClassId) (ad : Nat → Nat) (y : Ly) (Post : St → Int32 → Prop) (σ : St) (a0 : Nat) (v1 : Int32) (v2 : Int32) (sz : Nat) (h_a0 : cl a0 = 0) (h : wu_Ck_aboveByParents y Post σ a0 v1 v2) : Met l y_Ck_aboveByParents (mw y_Ck_aboveByParents b_Ck_aboveByParents 5 (some (.boolean))) ru_Ck_aboveByParents (PC g D [] [.ref (ad a0), .int v1, .int v2] sz (ws g ad y σ)) (va_Qi (fun (r : Int32) (u : St) => Post u r) (QW D (va_A (ws g ad y σ) sz) (fun u => ws g ad y u)) (va_A (ws g ad y σ) sz)) 0 0 (va_A (ws g ad y σ) sz) := by
  refine ofZ (by decide +kernel) (Nat.le_of_ble_eq_true rfl) ?_
  intro p e s m args below meth c A Q ls H locs G hsz hP hD hS hl hret
  subst hsz
  have hl : lv_has ls 5 [(0, .ref (ad a0)), (1, .int v1), (2, .int v2)] := hl
  unfold wu_Ck_aboveByParents at h
  refine lv_iload_n G.1 G.2.1 d_Ck_aboveByParents_0 rfl (lv_at hl 2 rfl) ?_
  refine lv_istore_n (lv' := [(3, .int v2), (0, .ref (ad a0)), (1, .int v1), (2, .int v2)]) G.1 G.2.1 d_Ck_aboveByParents_1 rfl hl (by decide) rfl (fun ls hl => ?_)
  refine lv_iconst (v := 0) G.1 G.2.1 d_Ck_aboveByParents_2 (by decide) ?_
  refine lv_istore (lv' := [(4, .int 0), (3, .int v2), (0, .ref (ad a0)), (1, .int v1), (2, .int v2)]) G.1 G.2.1 d_Ck_aboveByParents_3 hl (by decide) rfl (fun ls hl => ?_)
  unfold wl_Ck_aboveByParents_5 at h
  obtain ⟨I_5, μ_5, hI_5, hB_5⟩ := h
  have L_5 : ∀ (n_5 : Nat) (s_h5 : St) (x1h5 : Int32) (x3h5 : Int32) (x4h5 : Int32), μ_5 s_h5 x1h5 x3h5 x4h5 < n_5 → I_5 s_h5 x1h5 x3h5 x4h5 → ∀ (H : Heap) (locs : List Loc), va_P D CL (ws g ad y s_h5) H → va_D A (ws g ad y s_h5) → va_S A s.heap H locs → ∀ ls, lv_has ls 5 [(0, .ref (ad a0)), (1, .int x1h5), (3, .int x3h5), (4, .int x4h5)] → W p l e ru_Ck_aboveByParents s m args below meth c H locs 0 0 Q (F0 m 5 ls []) := by
    intro n_5
    induction n_5 with
    | zero => intro s_h5 x1h5 x3h5 x4h5 hμ; exact absurd hμ (Nat.not_lt_zero _)
    | succ n_5 ih_5 =>
      intro s_h5 x1h5 x3h5 x4h5 hμ_5 hJ H locs hP hD hS ls hl
      obtain ⟨K_5, hK_5, h⟩ : ∃ K : St → Int32 → Int32 → Int32 → Prop, (∀ z (t0 : Int32) (t1 : Int32) (t2 : Int32), K z t0 t1 t2 → I_5 z t0 t1 t2 ∧ μ_5 z t0 t1 t2 < μ_5 s_h5 x1h5 x3h5 x4h5) ∧ wb_Ck_aboveByParents_5 y Post K a0 s_h5 x1h5 x3h5 x4h5 := ⟨_, fun _ _ _ _ h => h, hB_5 s_h5 x1h5 x3h5 x4h5 hJ⟩
      unfold wb_Ck_aboveByParents_5 at h
      refine lv_iload G.1 G.2.1 d_Ck_aboveByParents_5 (lv_at hl 3 rfl) ?_
      refine lv_bipush (v := 51) G.1 G.2.1 d_Ck_aboveByParents_7 (by decide) ?_
      have J_36 : ∀ (s_j36 : St) (x1j36 : Int32) (x3j36 : Int32) (H : Heap) (locs : List Loc), wj_Ck_aboveByParents_36 y Post a0 s_j36 x1j36 x3j36 → va_P D CL (ws g ad y s_j36) H → va_D A (ws g ad y s_j36) → va_S A s.heap H locs → ∀ ls, lv_has ls 5 [(1, .int x1j36), (3, .int x3j36)] → W p l e ru_Ck_aboveByParents s m args below meth c H locs 0 0 Q (F0 m 36 ls []) := by
        intro s_j36 x1j36 x3j36 H locs h hP hD hS ls hl
        unfold wj_Ck_aboveByParents_36 at h
        refine lv_iload_n G.1 G.2.1 d_Ck_aboveByParents_36 rfl (lv_at hl 1 rfl) ?_
        refine lv_iload_n G.1 G.2.1 d_Ck_aboveByParents_37 rfl (lv_at hl 0 rfl) ?_
        have J_46 : ∀ (s_j46 : St) (z0j46 : Int32) (H : Heap) (locs : List Loc), wj_Ck_aboveByParents_46 y Post a0 s_j46 z0j46 → va_P D CL (ws g ad y s_j46) H → va_D A (ws g ad y s_j46) → va_S A s.heap H locs → ∀ ls, lv_has ls 5 [] → W p l e ru_Ck_aboveByParents s m args below meth c H locs 0 0 Q (F0 m 46 ls [.int z0j46]) := by
          intro s_j46 z0j46 H locs h hP hD hS ls hl
          unfold wj_Ck_aboveByParents_46 at h
          exact hret _ _ _ _ _ _ _ ls (nb_n h.1) h.2 hP hD hS (Nat.le_refl _) (Nat.le_refl _) d_Ck_aboveByParents_46
        refine lv_icmp_ne (tgt := 45) G.1 G.2.1 d_Ck_aboveByParents_38 (by decide) (fun c38 => ?_) (fun c38 => ?_)
        · skip
          have h := h.1 c38
          refine lv_iconst (v := 0) G.1 G.2.1 d_Ck_aboveByParents_45 (by decide) ?_
          exact J_46 s_j36 0 H locs h hP hD hS ls (lv_sub hl [] rfl)
        · skip
          have h := h.2 c38
          refine lv_iconst (v := 1) G.1 G.2.1 d_Ck_aboveByParents_41 (by decide) ?_
          refine lv_goto (tgt := 46) G.1 G.2.1 d_Ck_aboveByParents_42 (by decide) ?_
          exact J_46 s_j36 1 H locs h hP hD hS ls (lv_sub hl [] rfl)
      refine lv_icmp_ge (tgt := 36) G.1 G.2.1 d_Ck_aboveByParents_9 (by decide) (fun c9 => ?_) (fun c9 => ?_)
      · skip
        have h := h.1 c9
        exact J_36 s_h5 x1h5 x3h5 H locs h hP hD hS ls (lv_sub hl [1, 2] rfl)
      · skip
        have h := h.2 c9
        refine lv_iload_n G.1 G.2.1 d_Ck_aboveByParents_12 rfl (lv_at hl 2 rfl) ?_
        refine lv_if_lt (tgt := 36) G.1 G.2.1 d_Ck_aboveByParents_13 (by decide) (fun c13 => ?_) (fun c13 => ?_)
        · skip
          have h := h.1 c13
          exact J_36 s_h5 x1h5 x3h5 H locs h hP hD hS ls (lv_sub hl [1, 2] rfl)
        · skip
          have h := h.2 c13
          refine lv_iload_n G.1 G.2.1 d_Ck_aboveByParents_16 rfl (lv_at hl 2 rfl) ?_
          refine lv_iload_n G.1 G.2.1 d_Ck_aboveByParents_17 rfl (lv_at hl 1 rfl) ?_
          refine lv_icmp_eq (tgt := 36) G.1 G.2.1 d_Ck_aboveByParents_18 (by decide) (fun c18 => ?_) (fun c18 => ?_)
          · skip
            have h := h.1 c18
            exact J_36 s_h5 x1h5 x3h5 H locs h hP hD hS ls (lv_sub hl [1, 2] rfl)
          · skip
            have h := h.2 c18
            refine lv_aload_n G.1 G.2.1 d_Ck_aboveByParents_21 rfl (lv_at hl 0 rfl) ?_
            obtain ⟨b_1, e_2, c_3, h⟩ := h
            refine ugf (v := .ref (ad b_1)) G hP h_a0 iCk rfl 3 (by decide) rfl q654 rfl (by show va_rf ((sO s_h5 a0 3).map ad) = _; rw [e_2]; rfl) d_Ck_aboveByParents_22 ?_
            refine lv_iload_n G.1 G.2.1 d_Ck_aboveByParents_25 rfl (lv_at hl 2 rfl) ?_
            refine W.eq (g2 := F0 m 26 ls [.int x3h5, .ref (ad b_1)]) rfl ?_
            refine ucVi (As := [.int x3h5]) (rest := []) G hP hD hS (cu_Wd_up l D g ad y _ s_h5 b_1 x3h5 H.size c_3 h) w9_Wd_up q2296 ⟨Nat.le_of_ble_eq_true rfl, Nat.le_of_ble_eq_true rfl⟩ rfl rfl c_3 (q := (RWd, TWd, 17)) rfl rfl hl.1 rfl (Nat.le_of_ble_eq_true rfl) rfl ⟨Nat.le_refl _, Nat.le_refl _⟩ d_Ck_aboveByParents_26 (fun r_4 s_5 H locs h hP hD hS => ?_)
            refine lv_istore_n (lv' := [(3, .int r_4), (0, .ref (ad a0)), (1, .int x1h5), (4, .int x4h5)]) G.1 G.2.1 d_Ck_aboveByParents_29 rfl hl (by decide) rfl (fun ls hl => ?_)
            refine lv_iinc (v := x4h5 + 1) (lv' := [(4, .int (x4h5 + 1)), (3, .int r_4), (0, .ref (ad a0)), (1, .int x1h5)]) G.1 G.2.1 d_Ck_aboveByParents_30 hl (k := 3) rfl rfl (by decide) rfl (fun ls hl => ?_)
            refine lv_goto (tgt := 5) G.1 G.2.1 d_Ck_aboveByParents_33 (by decide) ?_
            have h := hK_5 s_5 x1h5 r_4 (x4h5 + 1) h
            exact ih_5 s_5 x1h5 r_4 (x4h5 + 1) (Nat.lt_of_lt_of_le h.2 (Nat.le_of_lt_succ hμ_5)) h.1 H locs hP hD hS ls (lv_sub hl [2, 3, 1, 0] rfl)
  exact L_5 _ σ v1 v2 0 (Nat.lt_succ_self _) hI_5 H locs hP hD hS ls (lv_sub hl [2, 3, 1, 0] rfl)
theorem q2291 : Cond.methodLink "ClassWorks$Checker" 255 y_Wd_number ∈ lw_ok := lw_okmem (List.mem_of_getElem? (i := 2291) (by decide +kernel)) rfl
theorem q2292 : Cond.methodLink "ClassWorks$Checker" 258 y_Ck_aboveByParents ∈ lw_ok := lw_okmem (List.mem_of_getElem? (i := 2292) (by decide +kernel)) rfl
theorem q2295 : Cond.code y_Ck_aboveByParents b_Ck_aboveByParents 5 (some (.boolean)) ∈ lw_ok := lw_okmem (List.mem_of_getElem? (i := 2295) (by decide +kernel)) rfl
theorem q2294 : Cond.instanceMethod y_Ck_aboveByParents ∈ lw_ok := lw_okmem (List.mem_of_getElem? (i := 2294) (by decide +kernel)) rfl
theorem q144 : Cond.selects y_Ck_aboveByParents.cls y_Ck_aboveByParents y_Ck_aboveByParents ∈ lw_ok := lw_okmem (List.mem_of_getElem? (i := 144) (by decide +kernel)) rfl
theorem w9_Ck_aboveByParents : CWv y_Ck_aboveByParents b_Ck_aboveByParents 5 (some (.boolean)) 2 ∧ Cond.instanceMethod y_Ck_aboveByParents ∈ lw_ok ∧ Cond.selects y_Ck_aboveByParents.cls y_Ck_aboveByParents y_Ck_aboveByParents ∈ lw_ok := ⟨⟨q2295, q341, by decide +kernel, by decide +kernel, by decide +kernel⟩, q2294, q144⟩
def y_Ck_join : MethodName := ⟨"ClassWorks$Checker", "join", "(II)I"⟩
abbrev b_Ck_join : ByteArray := prog_2_method_33_code
theorem d_Ck_join_0 : decode b_Ck_join 0 = .ok (.iload_n 1, 1) := by decide +kernel
theorem d_Ck_join_1 : decode b_Ck_join 1 = .ok (.iload_n 2, 1) := by decide +kernel
theorem d_Ck_join_2 : decode b_Ck_join 2 = .ok (.if_icmp .ne 5, 3) := by decide +kernel
theorem d_Ck_join_5 : decode b_Ck_join 5 = .ok (.iload_n 1, 1) := by decide +kernel
theorem d_Ck_join_6 : decode b_Ck_join 6 = .ok (.ireturn, 1) := by decide +kernel
theorem d_Ck_join_7 : decode b_Ck_join 7 = .ok (.iload_n 1, 1) := by decide +kernel
theorem d_Ck_join_8 : decode b_Ck_join 8 = .ok (.invokestatic 206, 3) := by decide +kernel
theorem d_Ck_join_11 : decode b_Ck_join 11 = .ok (.ifCond .eq 10, 3) := by decide +kernel
theorem d_Ck_join_14 : decode b_Ck_join 14 = .ok (.iload_n 2, 1) := by decide +kernel
theorem d_Ck_join_15 : decode b_Ck_join 15 = .ok (.invokestatic 206, 3) := by decide +kernel
theorem d_Ck_join_18 : decode b_Ck_join 18 = .ok (.ifCond .ne 5, 3) := by decide +kernel
theorem d_Ck_join_21 : decode b_Ck_join 21 = .ok (.iconst 3, 1) := by decide +kernel
theorem d_Ck_join_22 : decode b_Ck_join 22 = .ok (.ireturn, 1) := by decide +kernel
theorem d_Ck_join_23 : decode b_Ck_join 23 = .ok (.iload_n 1, 1) := by decide +kernel
theorem d_Ck_join_24 : decode b_Ck_join 24 = .ok (.iconst 2, 1) := by decide +kernel
theorem d_Ck_join_25 : decode b_Ck_join 25 = .ok (.if_icmp .eq 8, 3) := by decide +kernel
theorem d_Ck_join_28 : decode b_Ck_join 28 = .ok (.iload_n 2, 1) := by decide +kernel
theorem d_Ck_join_29 : decode b_Ck_join 29 = .ok (.iconst 2, 1) := by decide +kernel
theorem d_Ck_join_30 : decode b_Ck_join 30 = .ok (.if_icmp .ne 14, 3) := by decide +kernel
theorem d_Ck_join_33 : decode b_Ck_join 33 = .ok (.iload_n 1, 1) := by decide +kernel
theorem d_Ck_join_34 : decode b_Ck_join 34 = .ok (.iconst 2, 1) := by decide +kernel
theorem d_Ck_join_35 : decode b_Ck_join 35 = .ok (.if_icmp .ne 7, 3) := by decide +kernel
theorem d_Ck_join_38 : decode b_Ck_join 38 = .ok (.iload_n 2, 1) := by decide +kernel
theorem d_Ck_join_39 : decode b_Ck_join 39 = .ok (.goto 4, 3) := by decide +kernel
theorem d_Ck_join_42 : decode b_Ck_join 42 = .ok (.iload_n 1, 1) := by decide +kernel
theorem d_Ck_join_43 : decode b_Ck_join 43 = .ok (.ireturn, 1) := by decide +kernel
theorem d_Ck_join_44 : decode b_Ck_join 44 = .ok (.aload_n 0, 1) := by decide +kernel
theorem d_Ck_join_45 : decode b_Ck_join 45 = .ok (.getfield 78, 3) := by decide +kernel
theorem d_Ck_join_48 : decode b_Ck_join 48 = .ok (.iload_n 2, 1) := by decide +kernel
theorem d_Ck_join_49 : decode b_Ck_join 49 = .ok (.invokevirtual 255, 3) := by decide +kernel
theorem d_Ck_join_52 : decode b_Ck_join 52 = .ok (.istore_n 3, 1) := by decide +kernel
theorem d_Ck_join_53 : decode b_Ck_join 53 = .ok (.aload_n 0, 1) := by decide +kernel
theorem d_Ck_join_54 : decode b_Ck_join 54 = .ok (.getfield 78, 3) := by decide +kernel
theorem d_Ck_join_57 : decode b_Ck_join 57 = .ok (.iload_n 1, 1) := by decide +kernel
theorem d_Ck_join_58 : decode b_Ck_join 58 = .ok (.invokevirtual 255, 3) := by decide +kernel
theorem d_Ck_join_61 : decode b_Ck_join 61 = .ok (.istore 4, 2) := by decide +kernel
theorem d_Ck_join_63 : decode b_Ck_join 63 = .ok (.iload_n 1, 1) := by decide +kernel
theorem d_Ck_join_64 : decode b_Ck_join 64 = .ok (.iconst 1, 1) := by decide +kernel
theorem d_Ck_join_65 : decode b_Ck_join 65 = .ok (.if_icmp .eq 12, 3) := by decide +kernel
theorem d_Ck_join_68 : decode b_Ck_join 68 = .ok (.iload_n 2, 1) := by decide +kernel
theorem d_Ck_join_69 : decode b_Ck_join 69 = .ok (.iconst 1, 1) := by decide +kernel
theorem d_Ck_join_70 : decode b_Ck_join 70 = .ok (.if_icmp .eq 7, 3) := by decide +kernel
theorem d_Ck_join_73 : decode b_Ck_join 73 = .ok (.iload_n 3, 1) := by decide +kernel
theorem d_Ck_join_74 : decode b_Ck_join 74 = .ok (.ifCond .ge 6, 3) := by decide +kernel
theorem d_Ck_join_77 : decode b_Ck_join 77 = .ok (.bipush 9, 2) := by decide +kernel
theorem d_Ck_join_79 : decode b_Ck_join 79 = .ok (.ireturn, 1) := by decide +kernel
theorem d_Ck_join_80 : decode b_Ck_join 80 = .ok (.iconst 0, 1) := by decide +kernel
theorem d_Ck_join_81 : decode b_Ck_join 81 = .ok (.istore 5, 2) := by decide +kernel
theorem d_Ck_join_83 : decode b_Ck_join 83 = .ok (.iload 5, 2) := by decide +kernel
theorem d_Ck_join_85 : decode b_Ck_join 85 = .ok (.bipush 51, 2) := by decide +kernel
theorem d_Ck_join_87 : decode b_Ck_join 87 = .ok (.if_icmp .ge 46, 3) := by decide +kernel
theorem d_Ck_join_90 : decode b_Ck_join 90 = .ok (.iload 4, 2) := by decide +kernel
theorem d_Ck_join_92 : decode b_Ck_join 92 = .ok (.ifCond .lt 41, 3) := by decide +kernel
theorem d_Ck_join_95 : decode b_Ck_join 95 = .ok (.aload_n 0, 1) := by decide +kernel
theorem d_Ck_join_96 : decode b_Ck_join 96 = .ok (.iload 4, 2) := by decide +kernel
theorem d_Ck_join_98 : decode b_Ck_join 98 = .ok (.iload_n 3, 1) := by decide +kernel
theorem d_Ck_join_99 : decode b_Ck_join 99 = .ok (.invokevirtual 258, 3) := by decide +kernel
theorem d_Ck_join_102 : decode b_Ck_join 102 = .ok (.ifCond .eq 14, 3) := by decide +kernel
theorem d_Ck_join_105 : decode b_Ck_join 105 = .ok (.aload_n 0, 1) := by decide +kernel
theorem d_Ck_join_106 : decode b_Ck_join 106 = .ok (.getfield 78, 3) := by decide +kernel
theorem d_Ck_join_109 : decode b_Ck_join 109 = .ok (.iload 4, 2) := by decide +kernel
theorem d_Ck_join_111 : decode b_Ck_join 111 = .ok (.iconst 0, 1) := by decide +kernel
theorem d_Ck_join_112 : decode b_Ck_join 112 = .ok (.invokevirtual 103, 3) := by decide +kernel
theorem d_Ck_join_115 : decode b_Ck_join 115 = .ok (.ireturn, 1) := by decide +kernel
theorem d_Ck_join_116 : decode b_Ck_join 116 = .ok (.aload_n 0, 1) := by decide +kernel
theorem d_Ck_join_117 : decode b_Ck_join 117 = .ok (.getfield 78, 3) := by decide +kernel
theorem d_Ck_join_120 : decode b_Ck_join 120 = .ok (.iload 4, 2) := by decide +kernel
theorem d_Ck_join_122 : decode b_Ck_join 122 = .ok (.invokevirtual 262, 3) := by decide +kernel
theorem d_Ck_join_125 : decode b_Ck_join 125 = .ok (.istore 4, 2) := by decide +kernel
theorem d_Ck_join_127 : decode b_Ck_join 127 = .ok (.iinc 5 1, 3) := by decide +kernel
theorem d_Ck_join_130 : decode b_Ck_join 130 = .ok (.goto (-47), 3) := by decide +kernel
theorem d_Ck_join_133 : decode b_Ck_join 133 = .ok (.bipush 9, 2) := by decide +kernel
theorem d_Ck_join_135 : decode b_Ck_join 135 = .ok (.ireturn, 1) := by decide +kernel
abbrev ru_Ck_join : Room := { frames := 2, cells := 0, slots := 0, locals := 47 }
def wj_Ck_join_21 (y : Ly) (Post : St → Int32 → Prop) (a0 : Nat) (s_j21 : St) : Prop := Post s_j21 3
def wj_Ck_join_43 (y : Ly) (Post : St → Int32 → Prop) (a0 : Nat) (s_j43 : St) (z0j43 : Int32) : Prop := Post s_j43 z0j43
def wj_Ck_join_33 (y : Ly) (Post : St → Int32 → Prop) (a0 : Nat) (s_j33 : St) (x1j33 : Int32) (x2j33 : Int32) : Prop := ((¬ x1j33 = 2 → wj_Ck_join_43 y Post a0 s_j33 x1j33) ∧ (x1j33 = 2 → wj_Ck_join_43 y Post a0 s_j33 x2j33))
def wj_Ck_join_77 (y : Ly) (Post : St → Int32 → Prop) (a0 : Nat) (s_j77 : St) : Prop := Post s_j77 9
def wj_Ck_join_133 (y : Ly) (Post : St → Int32 → Prop) (a0 : Nat) (s_j133 : St) : Prop := Post s_j133 9
def wb_Ck_join_83 (y : Ly) (Post : St → Int32 → Prop) (K_83 : St → Int32 → Int32 → Int32 → Prop) (a0 : Nat) (s_h83 : St) (x3h83 : Int32) (x4h83 : Int32) (x5h83 : Int32) : Prop := ((51 ≤ x5h83 → wj_Ck_join_133 y Post a0 s_h83) ∧ (¬ (51 ≤ x5h83) → ((x4h83 < 0 → wj_Ck_join_133 y Post a0 s_h83) ∧ (¬ (x4h83 < 0) → wu_Ck_aboveByParents y (fun (s_16 : St) (r_15 : Int32) => ((r_15 = 0 → ∃ b_17 : Nat, sO s_16 a0 3 = some b_17 ∧ cl b_17 = 9 ∧ wu_Wd_up y (fun (s_21 : St) (r_20 : Int32) => K_83 s_21 x3h83 r_20 (x5h83 + 1)) s_16 b_17 x4h83) ∧ (¬ (r_15 = 0) → ∃ b_22 : Nat, sO s_16 a0 3 = some b_22 ∧ cl b_22 = 9 ∧ wu_Wd_of y (fun (s_26 : St) (r_25 : Int32) => Post s_26 r_25) s_16 b_22 x4h83 0))) s_h83 a0 x4h83 x3h83))))
def wl_Ck_join_83 (y : Ly) (Post : St → Int32 → Prop) (a0 : Nat) (s_h83 : St) (x3h83 : Int32) (x4h83 : Int32) (x5h83 : Int32) : Prop := ∃ (I : St → Int32 → Int32 → Int32 → Prop) (μ : St → Int32 → Int32 → Int32 → Nat), I s_h83 x3h83 x4h83 x5h83 ∧ ∀ (u : St) (t0 : Int32) (t1 : Int32) (t2 : Int32), I u t0 t1 t2 → wb_Ck_join_83 y Post (fun z t0q t1q t2q => I z t0q t1q t2q ∧ μ z t0q t1q t2q < μ u t0 t1 t2) a0 u t0 t1 t2
def wu_Ck_join (y : Ly) (Post : St → Int32 → Prop) (σ : St) (a0 : Nat) (v1 : Int32) (v2 : Int32) : Prop := ((¬ v1 = v2 → wu_Ck_isReference y (fun (s_2 : St) (r_1 : Int32) => ((r_1 = 0 → wj_Ck_join_21 y Post a0 s_2) ∧ (¬ (r_1 = 0) → wu_Ck_isReference y (fun (s_4 : St) (r_3 : Int32) => ((¬ r_3 = 0 → ((v1 = 2 → wj_Ck_join_33 y Post a0 s_4 v1 v2) ∧ (¬ (v1 = 2) → ((¬ v2 = 2 → ∃ b_5 : Nat, sO s_4 a0 3 = some b_5 ∧ cl b_5 = 9 ∧ wu_Wd_number y (fun (s_9 : St) (r_8 : Int32) => ∃ b_10 : Nat, sO s_9 a0 3 = some b_10 ∧ cl b_10 = 9 ∧ wu_Wd_number y (fun (s_14 : St) (r_13 : Int32) => ((v1 = 1 → wj_Ck_join_77 y Post a0 s_14) ∧ (¬ (v1 = 1) → ((v2 = 1 → wj_Ck_join_77 y Post a0 s_14) ∧ (¬ (v2 = 1) → ((0 ≤ r_8 → wl_Ck_join_83 y Post a0 s_14 r_8 r_13 0) ∧ (¬ (0 ≤ r_8) → wj_Ck_join_77 y Post a0 s_14))))))) s_9 b_10 v1) s_4 b_5 v2) ∧ (v2 = 2 → wj_Ck_join_33 y Post a0 s_4 v1 v2))))) ∧ (r_3 = 0 → wj_Ck_join_21 y Post a0 s_4))) s_2 v2))) σ v1) ∧ (v1 = v2 → Post σ v1))
set_option maxHeartbeats 4000000 in
set_option maxRecDepth 100000 in
theorem cu_Ck_join (l : Launch) (D : va_G) (g : Nat → ClassId) (ad : Nat → Nat) (y : Ly) (Post : St → Int32 → Prop) (σ : St) (a0 : Nat) (v1 : Int32) (v2 : Int32) (sz : Nat) (h_a0 : cl a0 = 0) (h : wu_Ck_join y Post σ a0 v1 v2) : Met l y_Ck_join (mw y_Ck_join b_Ck_join 6 (some .int)) ru_Ck_join (PC g D [] [.ref (ad a0), .int v1, .int v2] sz (ws g ad y σ)) (va_Qi (fun (r : Int32) (u : St) => Post u r) (QW D (va_A (ws g ad y σ) sz) (fun u => ws g ad y u)) (va_A (ws g ad y σ) sz)) 0 0 (va_A (ws g ad y σ) sz) := by
  refine ofI (by decide +kernel) (Nat.le_of_ble_eq_true rfl) ?_
  intro p e s m args below meth c A Q ls H locs G hsz hP hD hS hl hret
  subst hsz
  have hl : lv_has ls 6 [(0, .ref (ad a0)), (1, .int v1), (2, .int v2)] := hl
  unfold wu_Ck_join at h
  refine lv_iload_n G.1 G.2.1 d_Ck_join_0 rfl (lv_at hl 1 rfl) ?_
  refine lv_iload_n G.1 G.2.1 d_Ck_join_1 rfl (lv_at hl 2 rfl) ?_
  refine lv_icmp_ne (tgt := 7) G.1 G.2.1 d_Ck_join_2 (by decide) (fun c2 => ?_) (fun c2 => ?_)
  · skip
    have h := h.1 c2
    refine lv_iload_n G.1 G.2.1 d_Ck_join_7 rfl (lv_at hl 1 rfl) ?_
    refine ucSi (As := [.int v1]) (rest := []) G hP hD hS (cu_Ck_isReference l D g ad y _ σ v1 H.size  h) w9_Ck_isReference q1651 ⟨Nat.le_of_ble_eq_true rfl, Nat.le_of_ble_eq_true rfl⟩ rfl rfl hl.1 rfl (Nat.le_of_ble_eq_true rfl) rfl ⟨Nat.le_refl _, Nat.le_refl _⟩ d_Ck_join_8 (fun r_1 s_2 H locs h hP hD hS => ?_)
    have J_21 : ∀ (s_j21 : St) (H : Heap) (locs : List Loc), wj_Ck_join_21 y Post a0 s_j21 → va_P D CL (ws g ad y s_j21) H → va_D A (ws g ad y s_j21) → va_S A s.heap H locs → ∀ ls, lv_has ls 6 [] → W p l e ru_Ck_join s m args below meth c H locs 0 0 Q (F0 m 21 ls []) := by
      intro s_j21 H locs h hP hD hS ls hl
      unfold wj_Ck_join_21 at h
      refine lv_iconst (v := 3) G.1 G.2.1 d_Ck_join_21 (by decide) ?_
      exact hret _ _ _ _ _ _ _ ls h hP hD hS (Nat.le_refl _) (Nat.le_refl _) d_Ck_join_22
    refine lv_if_eq (tgt := 21) G.1 G.2.1 d_Ck_join_11 (by decide) (fun c11 => ?_) (fun c11 => ?_)
    · skip
      have h := h.1 c11
      exact J_21 s_2 H locs h hP hD hS ls (lv_sub hl [] rfl)
    · skip
      have h := h.2 c11
      refine lv_iload_n G.1 G.2.1 d_Ck_join_14 rfl (lv_at hl 2 rfl) ?_
      refine ucSi (As := [.int v2]) (rest := []) G hP hD hS (cu_Ck_isReference l D g ad y _ s_2 v2 H.size  h) w9_Ck_isReference q1651 ⟨Nat.le_of_ble_eq_true rfl, Nat.le_of_ble_eq_true rfl⟩ rfl rfl hl.1 rfl (Nat.le_of_ble_eq_true rfl) rfl ⟨Nat.le_refl _, Nat.le_refl _⟩ d_Ck_join_15 (fun r_3 s_4 H locs h hP hD hS => ?_)
      refine lv_if_ne (tgt := 23) G.1 G.2.1 d_Ck_join_18 (by decide) (fun c18 => ?_) (fun c18 => ?_)
      · skip
        have h := h.1 c18
        refine lv_iload_n G.1 G.2.1 d_Ck_join_23 rfl (lv_at hl 1 rfl) ?_
        refine lv_iconst (v := 2) G.1 G.2.1 d_Ck_join_24 (by decide) ?_
        have J_33 : ∀ (s_j33 : St) (x1j33 : Int32) (x2j33 : Int32) (H : Heap) (locs : List Loc), wj_Ck_join_33 y Post a0 s_j33 x1j33 x2j33 → va_P D CL (ws g ad y s_j33) H → va_D A (ws g ad y s_j33) → va_S A s.heap H locs → ∀ ls, lv_has ls 6 [(1, .int x1j33), (2, .int x2j33)] → W p l e ru_Ck_join s m args below meth c H locs 0 0 Q (F0 m 33 ls []) := by
          intro s_j33 x1j33 x2j33 H locs h hP hD hS ls hl
          unfold wj_Ck_join_33 at h
          refine lv_iload_n G.1 G.2.1 d_Ck_join_33 rfl (lv_at hl 0 rfl) ?_
          refine lv_iconst (v := 2) G.1 G.2.1 d_Ck_join_34 (by decide) ?_
          have J_43 : ∀ (s_j43 : St) (z0j43 : Int32) (H : Heap) (locs : List Loc), wj_Ck_join_43 y Post a0 s_j43 z0j43 → va_P D CL (ws g ad y s_j43) H → va_D A (ws g ad y s_j43) → va_S A s.heap H locs → ∀ ls, lv_has ls 6 [] → W p l e ru_Ck_join s m args below meth c H locs 0 0 Q (F0 m 43 ls [.int z0j43]) := by
            intro s_j43 z0j43 H locs h hP hD hS ls hl
            unfold wj_Ck_join_43 at h
            exact hret _ _ _ _ _ _ _ ls h hP hD hS (Nat.le_refl _) (Nat.le_refl _) d_Ck_join_43
          refine lv_icmp_ne (tgt := 42) G.1 G.2.1 d_Ck_join_35 (by decide) (fun c35 => ?_) (fun c35 => ?_)
          · skip
            have h := h.1 c35
            refine lv_iload_n G.1 G.2.1 d_Ck_join_42 rfl (lv_at hl 0 rfl) ?_
            exact J_43 s_j33 x1j33 H locs h hP hD hS ls (lv_sub hl [] rfl)
          · skip
            have h := h.2 c35
            refine lv_iload_n G.1 G.2.1 d_Ck_join_38 rfl (lv_at hl 1 rfl) ?_
            refine lv_goto (tgt := 43) G.1 G.2.1 d_Ck_join_39 (by decide) ?_
            exact J_43 s_j33 x2j33 H locs h hP hD hS ls (lv_sub hl [] rfl)
        refine W.eq (g2 := F0 m 25 ls [.int 2, .int v1]) rfl ?_
        refine lv_icmp_eq (tgt := 33) G.1 G.2.1 d_Ck_join_25 (by decide) (fun c25 => ?_) (fun c25 => ?_)
        · skip
          have h := h.1 c25
          exact J_33 s_4 v1 v2 H locs h hP hD hS ls (lv_sub hl [1, 2] rfl)
        · skip
          have h := h.2 c25
          refine lv_iload_n G.1 G.2.1 d_Ck_join_28 rfl (lv_at hl 2 rfl) ?_
          refine lv_iconst (v := 2) G.1 G.2.1 d_Ck_join_29 (by decide) ?_
          refine lv_icmp_ne (tgt := 44) G.1 G.2.1 d_Ck_join_30 (by decide) (fun c30 => ?_) (fun c30 => ?_)
          · skip
            have h := h.1 c30
            refine lv_aload_n G.1 G.2.1 d_Ck_join_44 rfl (lv_at hl 0 rfl) ?_
            obtain ⟨b_5, e_6, c_7, h⟩ := h
            refine ugf (v := .ref (ad b_5)) G hP h_a0 iCk rfl 3 (by decide) rfl q654 rfl (by show va_rf ((sO s_4 a0 3).map ad) = _; rw [e_6]; rfl) d_Ck_join_45 ?_
            refine lv_iload_n G.1 G.2.1 d_Ck_join_48 rfl (lv_at hl 2 rfl) ?_
            refine ucVi (As := [.int v2]) (rest := []) G hP hD hS (cu_Wd_number l D g ad y _ s_4 b_5 v2 H.size c_7 h) w9_Wd_number q2291 ⟨Nat.le_of_ble_eq_true rfl, Nat.le_of_ble_eq_true rfl⟩ rfl rfl c_7 (q := (RWd, TWd, 17)) rfl rfl hl.1 rfl (Nat.le_of_ble_eq_true rfl) rfl ⟨Nat.le_refl _, Nat.le_refl _⟩ d_Ck_join_49 (fun r_8 s_9 H locs h hP hD hS => ?_)
            refine lv_istore_n (lv' := [(3, .int r_8), (0, .ref (ad a0)), (1, .int v1), (2, .int v2)]) G.1 G.2.1 d_Ck_join_52 rfl hl (by decide) rfl (fun ls hl => ?_)
            refine lv_aload_n G.1 G.2.1 d_Ck_join_53 rfl (lv_at hl 1 rfl) ?_
            obtain ⟨b_10, e_11, c_12, h⟩ := h
            refine ugf (v := .ref (ad b_10)) G hP h_a0 iCk rfl 3 (by decide) rfl q654 rfl (by show va_rf ((sO s_9 a0 3).map ad) = _; rw [e_11]; rfl) d_Ck_join_54 ?_
            refine lv_iload_n G.1 G.2.1 d_Ck_join_57 rfl (lv_at hl 2 rfl) ?_
            refine W.eq (g2 := F0 m 58 ls [.int v1, .ref (ad b_10)]) rfl ?_
            refine ucVi (As := [.int v1]) (rest := []) G hP hD hS (cu_Wd_number l D g ad y _ s_9 b_10 v1 H.size c_12 h) w9_Wd_number q2291 ⟨Nat.le_of_ble_eq_true rfl, Nat.le_of_ble_eq_true rfl⟩ rfl rfl c_12 (q := (RWd, TWd, 17)) rfl rfl hl.1 rfl (Nat.le_of_ble_eq_true rfl) rfl ⟨Nat.le_refl _, Nat.le_refl _⟩ d_Ck_join_58 (fun r_13 s_14 H locs h hP hD hS => ?_)
            refine lv_istore (lv' := [(4, .int r_13), (3, .int r_8), (0, .ref (ad a0)), (1, .int v1), (2, .int v2)]) G.1 G.2.1 d_Ck_join_61 hl (by decide) rfl (fun ls hl => ?_)
            refine lv_iload_n G.1 G.2.1 d_Ck_join_63 rfl (lv_at hl 3 rfl) ?_
            refine lv_iconst (v := 1) G.1 G.2.1 d_Ck_join_64 (by decide) ?_
            have J_77 : ∀ (s_j77 : St) (H : Heap) (locs : List Loc), wj_Ck_join_77 y Post a0 s_j77 → va_P D CL (ws g ad y s_j77) H → va_D A (ws g ad y s_j77) → va_S A s.heap H locs → ∀ ls, lv_has ls 6 [] → W p l e ru_Ck_join s m args below meth c H locs 0 0 Q (F0 m 77 ls []) := by
              intro s_j77 H locs h hP hD hS ls hl
              unfold wj_Ck_join_77 at h
              refine lv_bipush (v := 9) G.1 G.2.1 d_Ck_join_77 (by decide) ?_
              exact hret _ _ _ _ _ _ _ ls h hP hD hS (Nat.le_refl _) (Nat.le_refl _) d_Ck_join_79
            refine lv_icmp_eq (tgt := 77) G.1 G.2.1 d_Ck_join_65 (by decide) (fun c65 => ?_) (fun c65 => ?_)
            · skip
              have h := h.1 c65
              exact J_77 s_14 H locs h hP hD hS ls (lv_sub hl [] rfl)
            · skip
              have h := h.2 c65
              refine lv_iload_n G.1 G.2.1 d_Ck_join_68 rfl (lv_at hl 4 rfl) ?_
              refine lv_iconst (v := 1) G.1 G.2.1 d_Ck_join_69 (by decide) ?_
              refine lv_icmp_eq (tgt := 77) G.1 G.2.1 d_Ck_join_70 (by decide) (fun c70 => ?_) (fun c70 => ?_)
              · skip
                have h := h.1 c70
                exact J_77 s_14 H locs h hP hD hS ls (lv_sub hl [] rfl)
              · skip
                have h := h.2 c70
                refine lv_iload_n G.1 G.2.1 d_Ck_join_73 rfl (lv_at hl 1 rfl) ?_
                refine lv_if_ge (tgt := 80) G.1 G.2.1 d_Ck_join_74 (by decide) (fun c74 => ?_) (fun c74 => ?_)
                · skip
                  have h := h.1 c74
                  refine lv_iconst (v := 0) G.1 G.2.1 d_Ck_join_80 (by decide) ?_
                  refine lv_istore (lv' := [(5, .int 0), (4, .int r_13), (3, .int r_8), (0, .ref (ad a0)), (1, .int v1), (2, .int v2)]) G.1 G.2.1 d_Ck_join_81 hl (by decide) rfl (fun ls hl => ?_)
                  unfold wl_Ck_join_83 at h
                  obtain ⟨I_83, μ_83, hI_83, hB_83⟩ := h
                  have L_83 : ∀ (n_83 : Nat) (s_h83 : St) (x3h83 : Int32) (x4h83 : Int32) (x5h83 : Int32), μ_83 s_h83 x3h83 x4h83 x5h83 < n_83 → I_83 s_h83 x3h83 x4h83 x5h83 → ∀ (H : Heap) (locs : List Loc), va_P D CL (ws g ad y s_h83) H → va_D A (ws g ad y s_h83) → va_S A s.heap H locs → ∀ ls, lv_has ls 6 [(0, .ref (ad a0)), (3, .int x3h83), (4, .int x4h83), (5, .int x5h83)] → W p l e ru_Ck_join s m args below meth c H locs 0 0 Q (F0 m 83 ls []) := by
                    intro n_83
                    induction n_83 with
                    | zero => intro s_h83 x3h83 x4h83 x5h83 hμ; exact absurd hμ (Nat.not_lt_zero _)
                    | succ n_83 ih_83 =>
                      intro s_h83 x3h83 x4h83 x5h83 hμ_83 hJ H locs hP hD hS ls hl
                      obtain ⟨K_83, hK_83, h⟩ : ∃ K : St → Int32 → Int32 → Int32 → Prop, (∀ z (t0 : Int32) (t1 : Int32) (t2 : Int32), K z t0 t1 t2 → I_83 z t0 t1 t2 ∧ μ_83 z t0 t1 t2 < μ_83 s_h83 x3h83 x4h83 x5h83) ∧ wb_Ck_join_83 y Post K a0 s_h83 x3h83 x4h83 x5h83 := ⟨_, fun _ _ _ _ h => h, hB_83 s_h83 x3h83 x4h83 x5h83 hJ⟩
                      unfold wb_Ck_join_83 at h
                      refine lv_iload G.1 G.2.1 d_Ck_join_83 (lv_at hl 3 rfl) ?_
                      refine lv_bipush (v := 51) G.1 G.2.1 d_Ck_join_85 (by decide) ?_
                      have J_133 : ∀ (s_j133 : St) (H : Heap) (locs : List Loc), wj_Ck_join_133 y Post a0 s_j133 → va_P D CL (ws g ad y s_j133) H → va_D A (ws g ad y s_j133) → va_S A s.heap H locs → ∀ ls, lv_has ls 6 [] → W p l e ru_Ck_join s m args below meth c H locs 0 0 Q (F0 m 133 ls []) := by
                        intro s_j133 H locs h hP hD hS ls hl
                        unfold wj_Ck_join_133 at h
                        refine lv_bipush (v := 9) G.1 G.2.1 d_Ck_join_133 (by decide) ?_
                        exact hret _ _ _ _ _ _ _ ls h hP hD hS (Nat.le_refl _) (Nat.le_refl _) d_Ck_join_135
                      refine lv_icmp_ge (tgt := 133) G.1 G.2.1 d_Ck_join_87 (by decide) (fun c87 => ?_) (fun c87 => ?_)
                      · skip
                        have h := h.1 c87
                        exact J_133 s_h83 H locs h hP hD hS ls (lv_sub hl [] rfl)
                      · skip
                        have h := h.2 c87
                        refine lv_iload G.1 G.2.1 d_Ck_join_90 (lv_at hl 2 rfl) ?_
                        refine lv_if_lt (tgt := 133) G.1 G.2.1 d_Ck_join_92 (by decide) (fun c92 => ?_) (fun c92 => ?_)
                        · skip
                          have h := h.1 c92
                          exact J_133 s_h83 H locs h hP hD hS ls (lv_sub hl [] rfl)
                        · skip
                          have h := h.2 c92
                          refine lv_aload_n G.1 G.2.1 d_Ck_join_95 rfl (lv_at hl 0 rfl) ?_
                          refine lv_iload G.1 G.2.1 d_Ck_join_96 (lv_at hl 2 rfl) ?_
                          refine lv_iload_n G.1 G.2.1 d_Ck_join_98 rfl (lv_at hl 1 rfl) ?_
                          refine ucVi (As := [.int x4h83, .int x3h83]) (rest := []) G hP hD hS (cu_Ck_aboveByParents l D g ad y _ s_h83 a0 x4h83 x3h83 H.size h_a0 h) w9_Ck_aboveByParents q2292 ⟨Nat.le_of_ble_eq_true rfl, Nat.le_of_ble_eq_true rfl⟩ rfl rfl h_a0 (q := (RCk, TCk, 22)) rfl rfl hl.1 rfl (Nat.le_of_ble_eq_true rfl) rfl ⟨Nat.le_refl _, Nat.le_refl _⟩ d_Ck_join_99 (fun r_15 s_16 H locs h hP hD hS => ?_)
                          refine lv_if_eq (tgt := 116) G.1 G.2.1 d_Ck_join_102 (by decide) (fun c102 => ?_) (fun c102 => ?_)
                          · skip
                            have h := h.1 c102
                            refine lv_aload_n G.1 G.2.1 d_Ck_join_116 rfl (lv_at hl 0 rfl) ?_
                            refine W.eq (g2 := F0 m 117 ls [.ref (ad a0)]) rfl ?_
                            obtain ⟨b_17, e_18, c_19, h⟩ := h
                            refine ugf (v := .ref (ad b_17)) G hP h_a0 iCk rfl 3 (by decide) rfl q654 rfl (by show va_rf ((sO s_16 a0 3).map ad) = _; rw [e_18]; rfl) d_Ck_join_117 ?_
                            refine lv_iload G.1 G.2.1 d_Ck_join_120 (lv_at hl 2 rfl) ?_
                            refine ucVi (As := [.int x4h83]) (rest := []) G hP hD hS (cu_Wd_up l D g ad y _ s_16 b_17 x4h83 H.size c_19 h) w9_Wd_up q2296 ⟨Nat.le_of_ble_eq_true rfl, Nat.le_of_ble_eq_true rfl⟩ rfl rfl c_19 (q := (RWd, TWd, 17)) rfl rfl hl.1 rfl (Nat.le_of_ble_eq_true rfl) rfl ⟨Nat.le_refl _, Nat.le_refl _⟩ d_Ck_join_122 (fun r_20 s_21 H locs h hP hD hS => ?_)
                            refine lv_istore (lv' := [(4, .int r_20), (0, .ref (ad a0)), (3, .int x3h83), (5, .int x5h83)]) G.1 G.2.1 d_Ck_join_125 hl (by decide) rfl (fun ls hl => ?_)
                            refine lv_iinc (v := x5h83 + 1) (lv' := [(5, .int (x5h83 + 1)), (4, .int r_20), (0, .ref (ad a0)), (3, .int x3h83)]) G.1 G.2.1 d_Ck_join_127 hl (k := 3) rfl rfl (by decide) rfl (fun ls hl => ?_)
                            refine lv_goto (tgt := 83) G.1 G.2.1 d_Ck_join_130 (by decide) ?_
                            have h := hK_83 s_21 x3h83 r_20 (x5h83 + 1) h
                            exact ih_83 s_21 x3h83 r_20 (x5h83 + 1) (Nat.lt_of_lt_of_le h.2 (Nat.le_of_lt_succ hμ_83)) h.1 H locs hP hD hS ls (lv_sub hl [2, 3, 1, 0] rfl)
                          · skip
                            have h := h.2 c102
                            refine lv_aload_n G.1 G.2.1 d_Ck_join_105 rfl (lv_at hl 0 rfl) ?_
                            refine W.eq (g2 := F0 m 106 ls [.ref (ad a0)]) rfl ?_
                            obtain ⟨b_22, e_23, c_24, h⟩ := h
                            refine ugf (v := .ref (ad b_22)) G hP h_a0 iCk rfl 3 (by decide) rfl q654 rfl (by show va_rf ((sO s_16 a0 3).map ad) = _; rw [e_23]; rfl) d_Ck_join_106 ?_
                            refine lv_iload G.1 G.2.1 d_Ck_join_109 (lv_at hl 2 rfl) ?_
                            refine lv_iconst (v := 0) G.1 G.2.1 d_Ck_join_111 (by decide) ?_
                            refine ucVi (As := [.int x4h83, .int 0]) (rest := []) G hP hD hS (cu_Wd_of l D g ad y _ s_16 b_22 x4h83 0 H.size c_24 h) w9_Wd_of q1587 ⟨Nat.le_of_ble_eq_true rfl, Nat.le_of_ble_eq_true rfl⟩ rfl rfl c_24 (q := (RWd, TWd, 17)) rfl rfl hl.1 rfl (Nat.le_of_ble_eq_true rfl) rfl ⟨Nat.le_refl _, Nat.le_refl _⟩ d_Ck_join_112 (fun r_25 s_26 H locs h hP hD hS => ?_)
                            exact hret _ _ _ _ _ _ _ ls h hP hD hS (Nat.le_refl _) (Nat.le_refl _) d_Ck_join_115
                  exact L_83 _ s_14 r_8 r_13 0 (Nat.lt_succ_self _) hI_83 H locs hP hD hS ls (lv_sub hl [3, 2, 1, 0] rfl)
                · skip
                  have h := h.2 c74
                  exact J_77 s_14 H locs h hP hD hS ls (lv_sub hl [] rfl)
          · skip
            have h := h.2 c30
            exact J_33 s_4 v1 v2 H locs h hP hD hS ls (lv_sub hl [1, 2] rfl)
      · skip
        have h := h.2 c18
        exact J_21 s_4 H locs h hP hD hS ls (lv_sub hl [] rfl)
  · skip
    have h := h.2 c2
    refine lv_iload_n G.1 G.2.1 d_Ck_join_5 rfl (lv_at hl 1 rfl) ?_
    exact hret _ _ _ _ _ _ _ ls h hP hD hS (Nat.le_refl _) (Nat.le_refl _) d_Ck_join_6
theorem q668 : Cond.fieldLink "ClassWorks$Checker" 59 "ClassWorks$Checker" "changed" "Z" ∈ lw_ok := lw_okmem (List.mem_of_getElem? (i := 668) (by decide +kernel)) rfl
theorem q2287 : Cond.methodLink "ClassWorks$Checker" 252 y_Ck_join ∈ lw_ok := lw_okmem (List.mem_of_getElem? (i := 2287) (by decide +kernel)) rfl
theorem q2290 : Cond.code y_Ck_join b_Ck_join 6 (some .int) ∈ lw_ok := lw_okmem (List.mem_of_getElem? (i := 2290) (by decide +kernel)) rfl
theorem q2289 : Cond.instanceMethod y_Ck_join ∈ lw_ok := lw_okmem (List.mem_of_getElem? (i := 2289) (by decide +kernel)) rfl
theorem q143 : Cond.selects y_Ck_join.cls y_Ck_join y_Ck_join ∈ lw_ok := lw_okmem (List.mem_of_getElem? (i := 143) (by decide +kernel)) rfl
theorem w9_Ck_join : CWv y_Ck_join b_Ck_join 6 (some .int) 2 ∧ Cond.instanceMethod y_Ck_join ∈ lw_ok ∧ Cond.selects y_Ck_join.cls y_Ck_join y_Ck_join ∈ lw_ok := ⟨⟨q2290, q341, by decide +kernel, by decide +kernel, by decide +kernel⟩, q2289, q143⟩
def y_Ck_go : MethodName := ⟨"ClassWorks$Checker", "go", "(II)I"⟩
abbrev b_Ck_go : ByteArray := prog_2_method_32_code
theorem d_Ck_go_0 : decode b_Ck_go 0 = .ok (.iload_n 1, 1) := by decide +kernel
theorem d_Ck_go_1 : decode b_Ck_go 1 = .ok (.bipush 40, 2) := by decide +kernel
theorem d_Ck_go_3 : decode b_Ck_go 3 = .ok (.imul, 1) := by decide +kernel
theorem d_Ck_go_4 : decode b_Ck_go 4 = .ok (.istore_n 3, 1) := by decide +kernel
theorem d_Ck_go_5 : decode b_Ck_go 5 = .ok (.iload_n 2, 1) := by decide +kernel
theorem d_Ck_go_6 : decode b_Ck_go 6 = .ok (.ldc 175, 2) := by decide +kernel
theorem d_Ck_go_8 : decode b_Ck_go 8 = .ok (.if_icmp .eq 7, 3) := by decide +kernel
theorem d_Ck_go_11 : decode b_Ck_go 11 = .ok (.iconst 1, 1) := by decide +kernel
theorem d_Ck_go_12 : decode b_Ck_go 12 = .ok (.goto 4, 3) := by decide +kernel
theorem d_Ck_go_15 : decode b_Ck_go 15 = .ok (.iconst 0, 1) := by decide +kernel
theorem d_Ck_go_16 : decode b_Ck_go 16 = .ok (.istore 4, 2) := by decide +kernel
theorem d_Ck_go_18 : decode b_Ck_go 18 = .ok (.iload 4, 2) := by decide +kernel
theorem d_Ck_go_20 : decode b_Ck_go 20 = .ok (.ifCond .eq 7, 3) := by decide +kernel
theorem d_Ck_go_23 : decode b_Ck_go 23 = .ok (.iconst 1, 1) := by decide +kernel
theorem d_Ck_go_24 : decode b_Ck_go 24 = .ok (.goto 7, 3) := by decide +kernel
theorem d_Ck_go_27 : decode b_Ck_go 27 = .ok (.aload_n 0, 1) := by decide +kernel
theorem d_Ck_go_28 : decode b_Ck_go 28 = .ok (.getfield 56, 3) := by decide +kernel
theorem d_Ck_go_31 : decode b_Ck_go 31 = .ok (.istore 5, 2) := by decide +kernel
theorem d_Ck_go_33 : decode b_Ck_go 33 = .ok (.aload_n 0, 1) := by decide +kernel
theorem d_Ck_go_34 : decode b_Ck_go 34 = .ok (.getfield 65, 3) := by decide +kernel
theorem d_Ck_go_37 : decode b_Ck_go 37 = .ok (.iload_n 1, 1) := by decide +kernel
theorem d_Ck_go_38 : decode b_Ck_go 38 = .ok (.iaload, 1) := by decide +kernel
theorem d_Ck_go_39 : decode b_Ck_go 39 = .ok (.ifCond .ge 7, 3) := by decide +kernel
theorem d_Ck_go_42 : decode b_Ck_go 42 = .ok (.iconst 1, 1) := by decide +kernel
theorem d_Ck_go_43 : decode b_Ck_go 43 = .ok (.goto 4, 3) := by decide +kernel
theorem d_Ck_go_46 : decode b_Ck_go 46 = .ok (.iconst 0, 1) := by decide +kernel
theorem d_Ck_go_47 : decode b_Ck_go 47 = .ok (.istore 6, 2) := by decide +kernel
theorem d_Ck_go_49 : decode b_Ck_go 49 = .ok (.iload 6, 2) := by decide +kernel
theorem d_Ck_go_51 : decode b_Ck_go 51 = .ok (.ifCond .ne 17, 3) := by decide +kernel
theorem d_Ck_go_54 : decode b_Ck_go 54 = .ok (.aload_n 0, 1) := by decide +kernel
theorem d_Ck_go_55 : decode b_Ck_go 55 = .ok (.getfield 65, 3) := by decide +kernel
theorem d_Ck_go_58 : decode b_Ck_go 58 = .ok (.iload_n 1, 1) := by decide +kernel
theorem d_Ck_go_59 : decode b_Ck_go 59 = .ok (.iaload, 1) := by decide +kernel
theorem d_Ck_go_60 : decode b_Ck_go 60 = .ok (.iload 5, 2) := by decide +kernel
theorem d_Ck_go_62 : decode b_Ck_go 62 = .ok (.if_icmp .eq 6, 3) := by decide +kernel
theorem d_Ck_go_65 : decode b_Ck_go 65 = .ok (.bipush 37, 2) := by decide +kernel
theorem d_Ck_go_67 : decode b_Ck_go 67 = .ok (.ireturn, 1) := by decide +kernel
theorem d_Ck_go_68 : decode b_Ck_go 68 = .ok (.iconst 0, 1) := by decide +kernel
theorem d_Ck_go_69 : decode b_Ck_go 69 = .ok (.istore 7, 2) := by decide +kernel
theorem d_Ck_go_71 : decode b_Ck_go 71 = .ok (.iload 7, 2) := by decide +kernel
theorem d_Ck_go_73 : decode b_Ck_go 73 = .ok (.iload 5, 2) := by decide +kernel
theorem d_Ck_go_75 : decode b_Ck_go 75 = .ok (.if_icmp .ge 56, 3) := by decide +kernel
theorem d_Ck_go_78 : decode b_Ck_go 78 = .ok (.iload 6, 2) := by decide +kernel
theorem d_Ck_go_80 : decode b_Ck_go 80 = .ok (.ifCond .ne 51, 3) := by decide +kernel
theorem d_Ck_go_83 : decode b_Ck_go 83 = .ok (.aload_n 0, 1) := by decide +kernel
theorem d_Ck_go_84 : decode b_Ck_go 84 = .ok (.aload_n 0, 1) := by decide +kernel
theorem d_Ck_go_85 : decode b_Ck_go 85 = .ok (.getfield 62, 3) := by decide +kernel
theorem d_Ck_go_88 : decode b_Ck_go 88 = .ok (.iload_n 3, 1) := by decide +kernel
theorem d_Ck_go_89 : decode b_Ck_go 89 = .ok (.bipush 20, 2) := by decide +kernel
theorem d_Ck_go_91 : decode b_Ck_go 91 = .ok (.iadd, 1) := by decide +kernel
theorem d_Ck_go_92 : decode b_Ck_go 92 = .ok (.iload 7, 2) := by decide +kernel
theorem d_Ck_go_94 : decode b_Ck_go 94 = .ok (.iadd, 1) := by decide +kernel
theorem d_Ck_go_95 : decode b_Ck_go 95 = .ok (.iaload, 1) := by decide +kernel
theorem d_Ck_go_96 : decode b_Ck_go 96 = .ok (.iload 4, 2) := by decide +kernel
theorem d_Ck_go_98 : decode b_Ck_go 98 = .ok (.ifCond .eq 7, 3) := by decide +kernel
theorem d_Ck_go_101 : decode b_Ck_go 101 = .ok (.iload_n 2, 1) := by decide +kernel
theorem d_Ck_go_102 : decode b_Ck_go 102 = .ok (.goto 13, 3) := by decide +kernel
theorem d_Ck_go_105 : decode b_Ck_go 105 = .ok (.aload_n 0, 1) := by decide +kernel
theorem d_Ck_go_106 : decode b_Ck_go 106 = .ok (.getfield 52, 3) := by decide +kernel
theorem d_Ck_go_109 : decode b_Ck_go 109 = .ok (.bipush 20, 2) := by decide +kernel
theorem d_Ck_go_111 : decode b_Ck_go 111 = .ok (.iload 7, 2) := by decide +kernel
theorem d_Ck_go_113 : decode b_Ck_go 113 = .ok (.iadd, 1) := by decide +kernel
theorem d_Ck_go_114 : decode b_Ck_go 114 = .ok (.iaload, 1) := by decide +kernel
theorem d_Ck_go_115 : decode b_Ck_go 115 = .ok (.invokevirtual 252, 3) := by decide +kernel
theorem d_Ck_go_118 : decode b_Ck_go 118 = .ok (.iconst 3, 1) := by decide +kernel
theorem d_Ck_go_119 : decode b_Ck_go 119 = .ok (.if_icmp .ne 6, 3) := by decide +kernel
theorem d_Ck_go_122 : decode b_Ck_go 122 = .ok (.bipush 37, 2) := by decide +kernel
theorem d_Ck_go_124 : decode b_Ck_go 124 = .ok (.ireturn, 1) := by decide +kernel
theorem d_Ck_go_125 : decode b_Ck_go 125 = .ok (.iinc 7 1, 3) := by decide +kernel
theorem d_Ck_go_128 : decode b_Ck_go 128 = .ok (.goto (-57), 3) := by decide +kernel
theorem d_Ck_go_131 : decode b_Ck_go 131 = .ok (.iconst 0, 1) := by decide +kernel
theorem d_Ck_go_132 : decode b_Ck_go 132 = .ok (.istore 7, 2) := by decide +kernel
theorem d_Ck_go_134 : decode b_Ck_go 134 = .ok (.iload 7, 2) := by decide +kernel
theorem d_Ck_go_136 : decode b_Ck_go 136 = .ok (.bipush 20, 2) := by decide +kernel
theorem d_Ck_go_138 : decode b_Ck_go 138 = .ok (.iload 5, 2) := by decide +kernel
theorem d_Ck_go_140 : decode b_Ck_go 140 = .ok (.iadd, 1) := by decide +kernel
theorem d_Ck_go_141 : decode b_Ck_go 141 = .ok (.if_icmp .ge 107, 3) := by decide +kernel
theorem d_Ck_go_144 : decode b_Ck_go 144 = .ok (.iload 4, 2) := by decide +kernel
theorem d_Ck_go_146 : decode b_Ck_go 146 = .ok (.ifCond .eq 14, 3) := by decide +kernel
theorem d_Ck_go_149 : decode b_Ck_go 149 = .ok (.iload 7, 2) := by decide +kernel
theorem d_Ck_go_151 : decode b_Ck_go 151 = .ok (.bipush 20, 2) := by decide +kernel
theorem d_Ck_go_153 : decode b_Ck_go 153 = .ok (.if_icmp .lt 7, 3) := by decide +kernel
theorem d_Ck_go_156 : decode b_Ck_go 156 = .ok (.iload_n 2, 1) := by decide +kernel
theorem d_Ck_go_157 : decode b_Ck_go 157 = .ok (.goto 10, 3) := by decide +kernel
theorem d_Ck_go_160 : decode b_Ck_go 160 = .ok (.aload_n 0, 1) := by decide +kernel
theorem d_Ck_go_161 : decode b_Ck_go 161 = .ok (.getfield 52, 3) := by decide +kernel
theorem d_Ck_go_164 : decode b_Ck_go 164 = .ok (.iload 7, 2) := by decide +kernel
theorem d_Ck_go_166 : decode b_Ck_go 166 = .ok (.iaload, 1) := by decide +kernel
theorem d_Ck_go_167 : decode b_Ck_go 167 = .ok (.istore 8, 2) := by decide +kernel
theorem d_Ck_go_169 : decode b_Ck_go 169 = .ok (.iload 6, 2) := by decide +kernel
theorem d_Ck_go_171 : decode b_Ck_go 171 = .ok (.ifCond .eq 8, 3) := by decide +kernel
theorem d_Ck_go_174 : decode b_Ck_go 174 = .ok (.iload 8, 2) := by decide +kernel
theorem d_Ck_go_176 : decode b_Ck_go 176 = .ok (.goto 18, 3) := by decide +kernel
theorem d_Ck_go_179 : decode b_Ck_go 179 = .ok (.aload_n 0, 1) := by decide +kernel
theorem d_Ck_go_180 : decode b_Ck_go 180 = .ok (.aload_n 0, 1) := by decide +kernel
theorem d_Ck_go_181 : decode b_Ck_go 181 = .ok (.getfield 62, 3) := by decide +kernel
theorem d_Ck_go_184 : decode b_Ck_go 184 = .ok (.iload_n 3, 1) := by decide +kernel
theorem d_Ck_go_185 : decode b_Ck_go 185 = .ok (.iload 7, 2) := by decide +kernel
theorem d_Ck_go_187 : decode b_Ck_go 187 = .ok (.iadd, 1) := by decide +kernel
theorem d_Ck_go_188 : decode b_Ck_go 188 = .ok (.iaload, 1) := by decide +kernel
theorem d_Ck_go_189 : decode b_Ck_go 189 = .ok (.iload 8, 2) := by decide +kernel
theorem d_Ck_go_191 : decode b_Ck_go 191 = .ok (.invokevirtual 252, 3) := by decide +kernel
theorem d_Ck_go_194 : decode b_Ck_go 194 = .ok (.istore 8, 2) := by decide +kernel
theorem d_Ck_go_196 : decode b_Ck_go 196 = .ok (.aload_n 0, 1) := by decide +kernel
theorem d_Ck_go_197 : decode b_Ck_go 197 = .ok (.aload_n 0, 1) := by decide +kernel
theorem d_Ck_go_198 : decode b_Ck_go 198 = .ok (.getfield 59, 3) := by decide +kernel
theorem d_Ck_go_201 : decode b_Ck_go 201 = .ok (.ifCond .ne 22, 3) := by decide +kernel
theorem d_Ck_go_204 : decode b_Ck_go 204 = .ok (.iload 6, 2) := by decide +kernel
theorem d_Ck_go_206 : decode b_Ck_go 206 = .ok (.ifCond .ne 17, 3) := by decide +kernel
theorem d_Ck_go_209 : decode b_Ck_go 209 = .ok (.aload_n 0, 1) := by decide +kernel
theorem d_Ck_go_210 : decode b_Ck_go 210 = .ok (.getfield 62, 3) := by decide +kernel
theorem d_Ck_go_213 : decode b_Ck_go 213 = .ok (.iload_n 3, 1) := by decide +kernel
theorem d_Ck_go_214 : decode b_Ck_go 214 = .ok (.iload 7, 2) := by decide +kernel
theorem d_Ck_go_216 : decode b_Ck_go 216 = .ok (.iadd, 1) := by decide +kernel
theorem d_Ck_go_217 : decode b_Ck_go 217 = .ok (.iaload, 1) := by decide +kernel
theorem d_Ck_go_218 : decode b_Ck_go 218 = .ok (.iload 8, 2) := by decide +kernel
theorem d_Ck_go_220 : decode b_Ck_go 220 = .ok (.if_icmp .eq 7, 3) := by decide +kernel
theorem d_Ck_go_223 : decode b_Ck_go 223 = .ok (.iconst 1, 1) := by decide +kernel
theorem d_Ck_go_224 : decode b_Ck_go 224 = .ok (.goto 4, 3) := by decide +kernel
theorem d_Ck_go_227 : decode b_Ck_go 227 = .ok (.iconst 0, 1) := by decide +kernel
theorem d_Ck_go_228 : decode b_Ck_go 228 = .ok (.putfield 59, 3) := by decide +kernel
theorem d_Ck_go_231 : decode b_Ck_go 231 = .ok (.aload_n 0, 1) := by decide +kernel
theorem d_Ck_go_232 : decode b_Ck_go 232 = .ok (.getfield 62, 3) := by decide +kernel
theorem d_Ck_go_235 : decode b_Ck_go 235 = .ok (.iload_n 3, 1) := by decide +kernel
theorem d_Ck_go_236 : decode b_Ck_go 236 = .ok (.iload 7, 2) := by decide +kernel
theorem d_Ck_go_238 : decode b_Ck_go 238 = .ok (.iadd, 1) := by decide +kernel
theorem d_Ck_go_239 : decode b_Ck_go 239 = .ok (.iload 8, 2) := by decide +kernel
theorem d_Ck_go_241 : decode b_Ck_go 241 = .ok (.iastore, 1) := by decide +kernel
theorem d_Ck_go_242 : decode b_Ck_go 242 = .ok (.iinc 7 1, 3) := by decide +kernel
theorem d_Ck_go_245 : decode b_Ck_go 245 = .ok (.goto (-111), 3) := by decide +kernel
theorem d_Ck_go_248 : decode b_Ck_go 248 = .ok (.aload_n 0, 1) := by decide +kernel
theorem d_Ck_go_249 : decode b_Ck_go 249 = .ok (.getfield 65, 3) := by decide +kernel
theorem d_Ck_go_252 : decode b_Ck_go 252 = .ok (.iload_n 1, 1) := by decide +kernel
theorem d_Ck_go_253 : decode b_Ck_go 253 = .ok (.iload 5, 2) := by decide +kernel
theorem d_Ck_go_255 : decode b_Ck_go 255 = .ok (.iastore, 1) := by decide +kernel
theorem d_Ck_go_256 : decode b_Ck_go 256 = .ok (.iconst 0, 1) := by decide +kernel
theorem d_Ck_go_257 : decode b_Ck_go 257 = .ok (.ireturn, 1) := by decide +kernel
abbrev ru_Ck_go : Room := { frames := 3, cells := 0, slots := 0, locals := 72 }
def wj_Ck_go_228 (y : Ly) (Post : St → Int32 → Prop) (K_134 : St → Int32 → Int32 → Int32 → Int32 → Int32 → Int32 → Int32 → Prop) (a0 : Nat) (s_j228 : St) (x1j228 : Int32) (x2j228 : Int32) (x3j228 : Int32) (x4j228 : Int32) (x5j228 : Int32) (x6j228 : Int32) (x7j228 : Int32) (x8j228 : Int32) (z1j228 : Int32) : Prop := nb z1j228 ∧ xP (uV s_j228 a0 17 z1j228) (fun s_4 : St => xS y s_4 a0 18 (x3j228 + x7j228) x8j228 (fun s_5 : St => K_134 s_5 x1j228 x2j228 x3j228 x4j228 x5j228 x6j228 (x7j228 + 1)))
def wj_Ck_go_223 (y : Ly) (Post : St → Int32 → Prop) (K_134 : St → Int32 → Int32 → Int32 → Int32 → Int32 → Int32 → Int32 → Prop) (a0 : Nat) (s_j223 : St) (x1j223 : Int32) (x2j223 : Int32) (x3j223 : Int32) (x4j223 : Int32) (x5j223 : Int32) (x6j223 : Int32) (x7j223 : Int32) (x8j223 : Int32) : Prop := wj_Ck_go_228 y Post K_134 a0 s_j223 x1j223 x2j223 x3j223 x4j223 x5j223 x6j223 x7j223 x8j223 1
def wj_Ck_go_194 (y : Ly) (Post : St → Int32 → Prop) (K_134 : St → Int32 → Int32 → Int32 → Int32 → Int32 → Int32 → Int32 → Prop) (a0 : Nat) (s_j194 : St) (x1j194 : Int32) (x2j194 : Int32) (x3j194 : Int32) (x4j194 : Int32) (x5j194 : Int32) (x6j194 : Int32) (x7j194 : Int32) (z0j194 : Int32) : Prop := ((¬ (sV s_j194 a0 17) = 0 → wj_Ck_go_223 y Post K_134 a0 s_j194 x1j194 x2j194 x3j194 x4j194 x5j194 x6j194 x7j194 z0j194) ∧ ((sV s_j194 a0 17) = 0 → ((¬ x6j194 = 0 → wj_Ck_go_223 y Post K_134 a0 s_j194 x1j194 x2j194 x3j194 x4j194 x5j194 x6j194 x7j194 z0j194) ∧ (x6j194 = 0 → xA y s_j194 a0 18 (x3j194 + x7j194) (fun x_6 : Int32 => ((x_6 = z0j194 → wj_Ck_go_228 y Post K_134 a0 s_j194 x1j194 x2j194 x3j194 x4j194 x5j194 x6j194 x7j194 z0j194 0) ∧ (¬ (x_6 = z0j194) → wj_Ck_go_223 y Post K_134 a0 s_j194 x1j194 x2j194 x3j194 x4j194 x5j194 x6j194 x7j194 z0j194)))))))
def wj_Ck_go_167 (y : Ly) (Post : St → Int32 → Prop) (K_134 : St → Int32 → Int32 → Int32 → Int32 → Int32 → Int32 → Int32 → Prop) (a0 : Nat) (s_j167 : St) (x1j167 : Int32) (x2j167 : Int32) (x3j167 : Int32) (x4j167 : Int32) (x5j167 : Int32) (x6j167 : Int32) (x7j167 : Int32) (z0j167 : Int32) : Prop := ((x6j167 = 0 → xA y s_j167 a0 18 (x3j167 + x7j167) (fun x_7 : Int32 => wu_Ck_join y (fun (s_9 : St) (r_8 : Int32) => wj_Ck_go_194 y Post K_134 a0 s_9 x1j167 x2j167 x3j167 x4j167 x5j167 x6j167 x7j167 r_8) s_j167 a0 x_7 z0j167)) ∧ (¬ (x6j167 = 0) → wj_Ck_go_194 y Post K_134 a0 s_j167 x1j167 x2j167 x3j167 x4j167 x5j167 x6j167 x7j167 z0j167))
def wj_Ck_go_160 (y : Ly) (Post : St → Int32 → Prop) (K_134 : St → Int32 → Int32 → Int32 → Int32 → Int32 → Int32 → Int32 → Prop) (a0 : Nat) (s_j160 : St) (x1j160 : Int32) (x2j160 : Int32) (x3j160 : Int32) (x4j160 : Int32) (x5j160 : Int32) (x6j160 : Int32) (x7j160 : Int32) : Prop := xA y s_j160 a0 15 x7j160 (fun x_10 : Int32 => wj_Ck_go_167 y Post K_134 a0 s_j160 x1j160 x2j160 x3j160 x4j160 x5j160 x6j160 x7j160 x_10)
def wb_Ck_go_134 (y : Ly) (Post : St → Int32 → Prop) (K_134 : St → Int32 → Int32 → Int32 → Int32 → Int32 → Int32 → Int32 → Prop) (a0 : Nat) (s_h134 : St) (x1h134 : Int32) (x2h134 : Int32) (x3h134 : Int32) (x4h134 : Int32) (x5h134 : Int32) (x6h134 : Int32) (x7h134 : Int32) : Prop := (((20 + x5h134) ≤ x7h134 → xS y s_h134 a0 19 x1h134 x5h134 (fun s_2 : St => Post s_2 0)) ∧ (¬ ((20 + x5h134) ≤ x7h134) → ((x4h134 = 0 → wj_Ck_go_160 y Post K_134 a0 s_h134 x1h134 x2h134 x3h134 x4h134 x5h134 x6h134 x7h134) ∧ (¬ (x4h134 = 0) → ((x7h134 < 20 → wj_Ck_go_160 y Post K_134 a0 s_h134 x1h134 x2h134 x3h134 x4h134 x5h134 x6h134 x7h134) ∧ (¬ (x7h134 < 20) → wj_Ck_go_167 y Post K_134 a0 s_h134 x1h134 x2h134 x3h134 x4h134 x5h134 x6h134 x7h134 x2h134))))))
def wl_Ck_go_134 (y : Ly) (Post : St → Int32 → Prop) (a0 : Nat) (s_h134 : St) (x1h134 : Int32) (x2h134 : Int32) (x3h134 : Int32) (x4h134 : Int32) (x5h134 : Int32) (x6h134 : Int32) (x7h134 : Int32) : Prop := ∃ (I : St → Int32 → Int32 → Int32 → Int32 → Int32 → Int32 → Int32 → Prop) (μ : St → Int32 → Int32 → Int32 → Int32 → Int32 → Int32 → Int32 → Nat), I s_h134 x1h134 x2h134 x3h134 x4h134 x5h134 x6h134 x7h134 ∧ ∀ (u : St) (t0 : Int32) (t1 : Int32) (t2 : Int32) (t3 : Int32) (t4 : Int32) (t5 : Int32) (t6 : Int32), I u t0 t1 t2 t3 t4 t5 t6 → wb_Ck_go_134 y Post (fun z t0q t1q t2q t3q t4q t5q t6q => I z t0q t1q t2q t3q t4q t5q t6q ∧ μ z t0q t1q t2q t3q t4q t5q t6q < μ u t0 t1 t2 t3 t4 t5 t6) a0 u t0 t1 t2 t3 t4 t5 t6
def wj_Ck_go_131 (y : Ly) (Post : St → Int32 → Prop) (a0 : Nat) (s_j131 : St) (x1j131 : Int32) (x2j131 : Int32) (x3j131 : Int32) (x4j131 : Int32) (x5j131 : Int32) (x6j131 : Int32) : Prop := wl_Ck_go_134 y Post a0 s_j131 x1j131 x2j131 x3j131 x4j131 x5j131 x6j131 0
def wj_Ck_go_115 (y : Ly) (Post : St → Int32 → Prop) (K_71 : St → Int32 → Int32 → Int32 → Int32 → Int32 → Int32 → Int32 → Prop) (a0 : Nat) (s_j115 : St) (x1j115 : Int32) (x2j115 : Int32) (x3j115 : Int32) (x4j115 : Int32) (x5j115 : Int32) (x6j115 : Int32) (x7j115 : Int32) (z1j115 : Int32) (z2j115 : Int32) : Prop := wu_Ck_join y (fun (s_13 : St) (r_12 : Int32) => ((¬ r_12 = 3 → K_71 s_13 x1j115 x2j115 x3j115 x4j115 x5j115 x6j115 (x7j115 + 1)) ∧ (r_12 = 3 → Post s_13 37))) s_j115 a0 z1j115 z2j115
def wb_Ck_go_71 (y : Ly) (Post : St → Int32 → Prop) (K_71 : St → Int32 → Int32 → Int32 → Int32 → Int32 → Int32 → Int32 → Prop) (a0 : Nat) (s_h71 : St) (x1h71 : Int32) (x2h71 : Int32) (x3h71 : Int32) (x4h71 : Int32) (x5h71 : Int32) (x6h71 : Int32) (x7h71 : Int32) : Prop := ((x5h71 ≤ x7h71 → wj_Ck_go_131 y Post a0 s_h71 x1h71 x2h71 x3h71 x4h71 x5h71 x6h71) ∧ (¬ (x5h71 ≤ x7h71) → ((¬ x6h71 = 0 → wj_Ck_go_131 y Post a0 s_h71 x1h71 x2h71 x3h71 x4h71 x5h71 x6h71) ∧ (x6h71 = 0 → xA y s_h71 a0 18 ((x3h71 + 20) + x7h71) (fun x_11 : Int32 => ((x4h71 = 0 → xA y s_h71 a0 15 (20 + x7h71) (fun x_14 : Int32 => wj_Ck_go_115 y Post K_71 a0 s_h71 x1h71 x2h71 x3h71 x4h71 x5h71 x6h71 x7h71 x_11 x_14)) ∧ (¬ (x4h71 = 0) → wj_Ck_go_115 y Post K_71 a0 s_h71 x1h71 x2h71 x3h71 x4h71 x5h71 x6h71 x7h71 x_11 x2h71)))))))
def wl_Ck_go_71 (y : Ly) (Post : St → Int32 → Prop) (a0 : Nat) (s_h71 : St) (x1h71 : Int32) (x2h71 : Int32) (x3h71 : Int32) (x4h71 : Int32) (x5h71 : Int32) (x6h71 : Int32) (x7h71 : Int32) : Prop := ∃ (I : St → Int32 → Int32 → Int32 → Int32 → Int32 → Int32 → Int32 → Prop) (μ : St → Int32 → Int32 → Int32 → Int32 → Int32 → Int32 → Int32 → Nat), I s_h71 x1h71 x2h71 x3h71 x4h71 x5h71 x6h71 x7h71 ∧ ∀ (u : St) (t0 : Int32) (t1 : Int32) (t2 : Int32) (t3 : Int32) (t4 : Int32) (t5 : Int32) (t6 : Int32), I u t0 t1 t2 t3 t4 t5 t6 → wb_Ck_go_71 y Post (fun z t0q t1q t2q t3q t4q t5q t6q => I z t0q t1q t2q t3q t4q t5q t6q ∧ μ z t0q t1q t2q t3q t4q t5q t6q < μ u t0 t1 t2 t3 t4 t5 t6) a0 u t0 t1 t2 t3 t4 t5 t6
def wj_Ck_go_68 (y : Ly) (Post : St → Int32 → Prop) (a0 : Nat) (s_j68 : St) (x1j68 : Int32) (x2j68 : Int32) (x3j68 : Int32) (x4j68 : Int32) (x5j68 : Int32) (x6j68 : Int32) : Prop := wl_Ck_go_71 y Post a0 s_j68 x1j68 x2j68 x3j68 x4j68 x5j68 x6j68 0
def wj_Ck_go_47 (y : Ly) (Post : St → Int32 → Prop) (a0 : Nat) (s_j47 : St) (x1j47 : Int32) (x2j47 : Int32) (x3j47 : Int32) (x4j47 : Int32) (x5j47 : Int32) (z0j47 : Int32) : Prop := ((¬ z0j47 = 0 → wj_Ck_go_68 y Post a0 s_j47 x1j47 x2j47 x3j47 x4j47 x5j47 z0j47) ∧ (z0j47 = 0 → xA y s_j47 a0 19 x1j47 (fun x_15 : Int32 => ((x_15 = x5j47 → wj_Ck_go_68 y Post a0 s_j47 x1j47 x2j47 x3j47 x4j47 x5j47 z0j47) ∧ (¬ (x_15 = x5j47) → Post s_j47 37)))))
def wj_Ck_go_31 (y : Ly) (Post : St → Int32 → Prop) (a0 : Nat) (s_j31 : St) (x1j31 : Int32) (x2j31 : Int32) (x3j31 : Int32) (x4j31 : Int32) (z0j31 : Int32) : Prop := xA y s_j31 a0 19 x1j31 (fun x_1 : Int32 => ((0 ≤ x_1 → wj_Ck_go_47 y Post a0 s_j31 x1j31 x2j31 x3j31 x4j31 z0j31 0) ∧ (¬ (0 ≤ x_1) → wj_Ck_go_47 y Post a0 s_j31 x1j31 x2j31 x3j31 x4j31 z0j31 1)))
def wj_Ck_go_16 (y : Ly) (Post : St → Int32 → Prop) (a0 : Nat) (s_j16 : St) (x1j16 : Int32) (x2j16 : Int32) (x3j16 : Int32) (z0j16 : Int32) : Prop := ((z0j16 = 0 → wj_Ck_go_31 y Post a0 s_j16 x1j16 x2j16 x3j16 z0j16 (sV s_j16 a0 16)) ∧ (¬ (z0j16 = 0) → wj_Ck_go_31 y Post a0 s_j16 x1j16 x2j16 x3j16 z0j16 1))
def wu_Ck_go (y : Ly) (Post : St → Int32 → Prop) (σ : St) (a0 : Nat) (v1 : Int32) (v2 : Int32) : Prop := ((v2 = (-2147483648) → wj_Ck_go_16 y Post a0 σ v1 v2 (v1 * 40) 0) ∧ (¬ (v2 = (-2147483648)) → wj_Ck_go_16 y Post a0 σ v1 v2 (v1 * 40) 1))
set_option maxHeartbeats 4000000 in
set_option maxRecDepth 100000 in
theorem cu_Ck_go (l : Launch) (D : va_G) (g : Nat → ClassId) (ad : Nat → Nat) (y : Ly) (Post : St → Int32 → Prop) (σ : St) (a0 : Nat) (v1 : Int32) (v2 : Int32) (sz : Nat) (h_a0 : cl a0 = 0) (h : wu_Ck_go y Post σ a0 v1 v2) : Met l y_Ck_go (mw y_Ck_go b_Ck_go 9 (some .int)) ru_Ck_go (PC g D [] [.ref (ad a0), .int v1, .int v2] sz (ws g ad y σ)) (va_Qi (fun (r : Int32) (u : St) => Post u r) (QW D (va_A (ws g ad y σ) sz) (fun u => ws g ad y u)) (va_A (ws g ad y σ) sz)) 0 0 (va_A (ws g ad y σ) sz) := by
  refine ofI (by decide +kernel) (Nat.le_of_ble_eq_true rfl) ?_
  intro p e s m args below meth c A Q ls H locs G hsz hP hD hS hl hret
  subst hsz
  have hl : lv_has ls 9 [(0, .ref (ad a0)), (1, .int v1), (2, .int v2)] := hl
  unfold wu_Ck_go at h
  refine lv_iload_n G.1 G.2.1 d_Ck_go_0 rfl (lv_at hl 1 rfl) ?_
  refine lv_bipush (v := 40) G.1 G.2.1 d_Ck_go_1 (by decide) ?_
  refine lv_imul G.1 G.2.1 d_Ck_go_3 ?_
  refine lv_istore_n (lv' := [(3, .int (v1 * 40)), (0, .ref (ad a0)), (1, .int v1), (2, .int v2)]) G.1 G.2.1 d_Ck_go_4 rfl hl (by decide) rfl (fun ls hl => ?_)
  refine lv_iload_n G.1 G.2.1 d_Ck_go_5 rfl (lv_at hl 3 rfl) ?_
  refine lv_ldc (v := (-2147483648)) G.1 G.2.1 G.2.2.2.2.2.2.1 (G.2.2.2.2.2.1 _ q1611) d_Ck_go_6 ?_
  have J_16 : ∀ (s_j16 : St) (x1j16 : Int32) (x2j16 : Int32) (x3j16 : Int32) (z0j16 : Int32) (H : Heap) (locs : List Loc), wj_Ck_go_16 y Post a0 s_j16 x1j16 x2j16 x3j16 z0j16 → va_P D CL (ws g ad y s_j16) H → va_D A (ws g ad y s_j16) → va_S A s.heap H locs → ∀ ls, lv_has ls 9 [(0, .ref (ad a0)), (1, .int x1j16), (2, .int x2j16), (3, .int x3j16)] → W p l e ru_Ck_go s m args below meth c H locs 0 0 Q (F0 m 16 ls [.int z0j16]) := by
    intro s_j16 x1j16 x2j16 x3j16 z0j16 H locs h hP hD hS ls hl
    unfold wj_Ck_go_16 at h
    refine lv_istore (lv' := [(4, .int z0j16), (0, .ref (ad a0)), (1, .int x1j16), (2, .int x2j16), (3, .int x3j16)]) G.1 G.2.1 d_Ck_go_16 hl (by decide) rfl (fun ls hl => ?_)
    refine lv_iload G.1 G.2.1 d_Ck_go_18 (lv_at hl 0 rfl) ?_
    have J_31 : ∀ (s_j31 : St) (x1j31 : Int32) (x2j31 : Int32) (x3j31 : Int32) (x4j31 : Int32) (z0j31 : Int32) (H : Heap) (locs : List Loc), wj_Ck_go_31 y Post a0 s_j31 x1j31 x2j31 x3j31 x4j31 z0j31 → va_P D CL (ws g ad y s_j31) H → va_D A (ws g ad y s_j31) → va_S A s.heap H locs → ∀ ls, lv_has ls 9 [(0, .ref (ad a0)), (1, .int x1j31), (2, .int x2j31), (3, .int x3j31), (4, .int x4j31)] → W p l e ru_Ck_go s m args below meth c H locs 0 0 Q (F0 m 31 ls [.int z0j31]) := by
      intro s_j31 x1j31 x2j31 x3j31 x4j31 z0j31 H locs h hP hD hS ls hl
      unfold wj_Ck_go_31 at h
      refine lv_istore (lv' := [(5, .int z0j31), (0, .ref (ad a0)), (1, .int x1j31), (2, .int x2j31), (3, .int x3j31), (4, .int x4j31)]) G.1 G.2.1 d_Ck_go_31 hl (by decide) rfl (fun ls hl => ?_)
      refine lv_aload_n G.1 G.2.1 d_Ck_go_33 rfl (lv_at hl 1 rfl) ?_
      refine ugf (v := .ref (yP y a0 19)) G hP h_a0 iCk rfl 19 (by decide) rfl q670 rfl rfl d_Ck_go_34 ?_
      refine lv_iload_n G.1 G.2.1 d_Ck_go_37 rfl (lv_at hl 2 rfl) ?_
      refine uiald G hP (kdp h_a0 rfl) (typ h_a0 rfl) h d_Ck_go_38 (fun x_1 h => ?_)
      have J_47 : ∀ (s_j47 : St) (x1j47 : Int32) (x2j47 : Int32) (x3j47 : Int32) (x4j47 : Int32) (x5j47 : Int32) (z0j47 : Int32) (H : Heap) (locs : List Loc), wj_Ck_go_47 y Post a0 s_j47 x1j47 x2j47 x3j47 x4j47 x5j47 z0j47 → va_P D CL (ws g ad y s_j47) H → va_D A (ws g ad y s_j47) → va_S A s.heap H locs → ∀ ls, lv_has ls 9 [(0, .ref (ad a0)), (1, .int x1j47), (2, .int x2j47), (3, .int x3j47), (4, .int x4j47), (5, .int x5j47)] → W p l e ru_Ck_go s m args below meth c H locs 0 0 Q (F0 m 47 ls [.int z0j47]) := by
        intro s_j47 x1j47 x2j47 x3j47 x4j47 x5j47 z0j47 H locs h hP hD hS ls hl
        unfold wj_Ck_go_47 at h
        refine lv_istore (lv' := [(6, .int z0j47), (0, .ref (ad a0)), (1, .int x1j47), (2, .int x2j47), (3, .int x3j47), (4, .int x4j47), (5, .int x5j47)]) G.1 G.2.1 d_Ck_go_47 hl (by decide) rfl (fun ls hl => ?_)
        refine lv_iload G.1 G.2.1 d_Ck_go_49 (lv_at hl 0 rfl) ?_
        have J_68 : ∀ (s_j68 : St) (x1j68 : Int32) (x2j68 : Int32) (x3j68 : Int32) (x4j68 : Int32) (x5j68 : Int32) (x6j68 : Int32) (H : Heap) (locs : List Loc), wj_Ck_go_68 y Post a0 s_j68 x1j68 x2j68 x3j68 x4j68 x5j68 x6j68 → va_P D CL (ws g ad y s_j68) H → va_D A (ws g ad y s_j68) → va_S A s.heap H locs → ∀ ls, lv_has ls 9 [(0, .ref (ad a0)), (1, .int x1j68), (2, .int x2j68), (3, .int x3j68), (4, .int x4j68), (5, .int x5j68), (6, .int x6j68)] → W p l e ru_Ck_go s m args below meth c H locs 0 0 Q (F0 m 68 ls []) := by
          intro s_j68 x1j68 x2j68 x3j68 x4j68 x5j68 x6j68 H locs h hP hD hS ls hl
          unfold wj_Ck_go_68 at h
          refine lv_iconst (v := 0) G.1 G.2.1 d_Ck_go_68 (by decide) ?_
          refine lv_istore (lv' := [(7, .int 0), (0, .ref (ad a0)), (1, .int x1j68), (2, .int x2j68), (3, .int x3j68), (4, .int x4j68), (5, .int x5j68), (6, .int x6j68)]) G.1 G.2.1 d_Ck_go_69 hl (by decide) rfl (fun ls hl => ?_)
          unfold wl_Ck_go_71 at h
          obtain ⟨I_71, μ_71, hI_71, hB_71⟩ := h
          have L_71 : ∀ (n_71 : Nat) (s_h71 : St) (x1h71 : Int32) (x2h71 : Int32) (x3h71 : Int32) (x4h71 : Int32) (x5h71 : Int32) (x6h71 : Int32) (x7h71 : Int32), μ_71 s_h71 x1h71 x2h71 x3h71 x4h71 x5h71 x6h71 x7h71 < n_71 → I_71 s_h71 x1h71 x2h71 x3h71 x4h71 x5h71 x6h71 x7h71 → ∀ (H : Heap) (locs : List Loc), va_P D CL (ws g ad y s_h71) H → va_D A (ws g ad y s_h71) → va_S A s.heap H locs → ∀ ls, lv_has ls 9 [(0, .ref (ad a0)), (1, .int x1h71), (2, .int x2h71), (3, .int x3h71), (4, .int x4h71), (5, .int x5h71), (6, .int x6h71), (7, .int x7h71)] → W p l e ru_Ck_go s m args below meth c H locs 0 0 Q (F0 m 71 ls []) := by
            intro n_71
            induction n_71 with
            | zero => intro s_h71 x1h71 x2h71 x3h71 x4h71 x5h71 x6h71 x7h71 hμ; exact absurd hμ (Nat.not_lt_zero _)
            | succ n_71 ih_71 =>
              intro s_h71 x1h71 x2h71 x3h71 x4h71 x5h71 x6h71 x7h71 hμ_71 hJ H locs hP hD hS ls hl
              obtain ⟨K_71, hK_71, h⟩ : ∃ K : St → Int32 → Int32 → Int32 → Int32 → Int32 → Int32 → Int32 → Prop, (∀ z (t0 : Int32) (t1 : Int32) (t2 : Int32) (t3 : Int32) (t4 : Int32) (t5 : Int32) (t6 : Int32), K z t0 t1 t2 t3 t4 t5 t6 → I_71 z t0 t1 t2 t3 t4 t5 t6 ∧ μ_71 z t0 t1 t2 t3 t4 t5 t6 < μ_71 s_h71 x1h71 x2h71 x3h71 x4h71 x5h71 x6h71 x7h71) ∧ wb_Ck_go_71 y Post K a0 s_h71 x1h71 x2h71 x3h71 x4h71 x5h71 x6h71 x7h71 := ⟨_, fun _ _ _ _ _ _ _ _ h => h, hB_71 s_h71 x1h71 x2h71 x3h71 x4h71 x5h71 x6h71 x7h71 hJ⟩
              unfold wb_Ck_go_71 at h
              refine lv_iload G.1 G.2.1 d_Ck_go_71 (lv_at hl 7 rfl) ?_
              refine lv_iload G.1 G.2.1 d_Ck_go_73 (lv_at hl 5 rfl) ?_
              have J_131 : ∀ (s_j131 : St) (x1j131 : Int32) (x2j131 : Int32) (x3j131 : Int32) (x4j131 : Int32) (x5j131 : Int32) (x6j131 : Int32) (H : Heap) (locs : List Loc), wj_Ck_go_131 y Post a0 s_j131 x1j131 x2j131 x3j131 x4j131 x5j131 x6j131 → va_P D CL (ws g ad y s_j131) H → va_D A (ws g ad y s_j131) → va_S A s.heap H locs → ∀ ls, lv_has ls 9 [(0, .ref (ad a0)), (1, .int x1j131), (2, .int x2j131), (3, .int x3j131), (4, .int x4j131), (5, .int x5j131), (6, .int x6j131)] → W p l e ru_Ck_go s m args below meth c H locs 0 0 Q (F0 m 131 ls []) := by
                intro s_j131 x1j131 x2j131 x3j131 x4j131 x5j131 x6j131 H locs h hP hD hS ls hl
                unfold wj_Ck_go_131 at h
                refine lv_iconst (v := 0) G.1 G.2.1 d_Ck_go_131 (by decide) ?_
                refine lv_istore (lv' := [(7, .int 0), (0, .ref (ad a0)), (1, .int x1j131), (2, .int x2j131), (3, .int x3j131), (4, .int x4j131), (5, .int x5j131), (6, .int x6j131)]) G.1 G.2.1 d_Ck_go_132 hl (by decide) rfl (fun ls hl => ?_)
                unfold wl_Ck_go_134 at h
                obtain ⟨I_134, μ_134, hI_134, hB_134⟩ := h
                have L_134 : ∀ (n_134 : Nat) (s_h134 : St) (x1h134 : Int32) (x2h134 : Int32) (x3h134 : Int32) (x4h134 : Int32) (x5h134 : Int32) (x6h134 : Int32) (x7h134 : Int32), μ_134 s_h134 x1h134 x2h134 x3h134 x4h134 x5h134 x6h134 x7h134 < n_134 → I_134 s_h134 x1h134 x2h134 x3h134 x4h134 x5h134 x6h134 x7h134 → ∀ (H : Heap) (locs : List Loc), va_P D CL (ws g ad y s_h134) H → va_D A (ws g ad y s_h134) → va_S A s.heap H locs → ∀ ls, lv_has ls 9 [(0, .ref (ad a0)), (1, .int x1h134), (2, .int x2h134), (3, .int x3h134), (4, .int x4h134), (5, .int x5h134), (6, .int x6h134), (7, .int x7h134)] → W p l e ru_Ck_go s m args below meth c H locs 0 0 Q (F0 m 134 ls []) := by
                  intro n_134
                  induction n_134 with
                  | zero => intro s_h134 x1h134 x2h134 x3h134 x4h134 x5h134 x6h134 x7h134 hμ; exact absurd hμ (Nat.not_lt_zero _)
                  | succ n_134 ih_134 =>
                    intro s_h134 x1h134 x2h134 x3h134 x4h134 x5h134 x6h134 x7h134 hμ_134 hJ H locs hP hD hS ls hl
                    obtain ⟨K_134, hK_134, h⟩ : ∃ K : St → Int32 → Int32 → Int32 → Int32 → Int32 → Int32 → Int32 → Prop, (∀ z (t0 : Int32) (t1 : Int32) (t2 : Int32) (t3 : Int32) (t4 : Int32) (t5 : Int32) (t6 : Int32), K z t0 t1 t2 t3 t4 t5 t6 → I_134 z t0 t1 t2 t3 t4 t5 t6 ∧ μ_134 z t0 t1 t2 t3 t4 t5 t6 < μ_134 s_h134 x1h134 x2h134 x3h134 x4h134 x5h134 x6h134 x7h134) ∧ wb_Ck_go_134 y Post K a0 s_h134 x1h134 x2h134 x3h134 x4h134 x5h134 x6h134 x7h134 := ⟨_, fun _ _ _ _ _ _ _ _ h => h, hB_134 s_h134 x1h134 x2h134 x3h134 x4h134 x5h134 x6h134 x7h134 hJ⟩
                    unfold wb_Ck_go_134 at h
                    refine lv_iload G.1 G.2.1 d_Ck_go_134 (lv_at hl 7 rfl) ?_
                    refine lv_bipush (v := 20) G.1 G.2.1 d_Ck_go_136 (by decide) ?_
                    refine lv_iload G.1 G.2.1 d_Ck_go_138 (lv_at hl 5 rfl) ?_
                    refine lv_iadd G.1 G.2.1 d_Ck_go_140 ?_
                    refine lv_icmp_ge (tgt := 248) G.1 G.2.1 d_Ck_go_141 (by decide) (fun c141 => ?_) (fun c141 => ?_)
                    · skip
                      have h := h.1 c141
                      refine lv_aload_n G.1 G.2.1 d_Ck_go_248 rfl (lv_at hl 0 rfl) ?_
                      refine ugf (v := .ref (yP y a0 19)) G hP h_a0 iCk rfl 19 (by decide) rfl q670 rfl rfl d_Ck_go_249 ?_
                      refine lv_iload_n G.1 G.2.1 d_Ck_go_252 rfl (lv_at hl 1 rfl) ?_
                      refine lv_iload G.1 G.2.1 d_Ck_go_253 (lv_at hl 5 rfl) ?_
                      refine uiast G hP hD hS (kdp h_a0 rfl) (typ h_a0 rfl) h d_Ck_go_255 (fun s_2 H locs h hP hD hS => ?_)
                      refine lv_iconst (v := 0) G.1 G.2.1 d_Ck_go_256 (by decide) ?_
                      refine W.eq (g2 := F0 m 257 ls [.int 0]) rfl ?_
                      exact hret _ _ _ _ _ _ _ ls h hP hD hS (Nat.le_refl _) (Nat.le_refl _) d_Ck_go_257
                    · skip
                      have h := h.2 c141
                      refine lv_iload G.1 G.2.1 d_Ck_go_144 (lv_at hl 4 rfl) ?_
                      have J_167 : ∀ (s_j167 : St) (x1j167 : Int32) (x2j167 : Int32) (x3j167 : Int32) (x4j167 : Int32) (x5j167 : Int32) (x6j167 : Int32) (x7j167 : Int32) (z0j167 : Int32) (H : Heap) (locs : List Loc), wj_Ck_go_167 y Post K_134 a0 s_j167 x1j167 x2j167 x3j167 x4j167 x5j167 x6j167 x7j167 z0j167 → va_P D CL (ws g ad y s_j167) H → va_D A (ws g ad y s_j167) → va_S A s.heap H locs → ∀ ls, lv_has ls 9 [(0, .ref (ad a0)), (1, .int x1j167), (2, .int x2j167), (3, .int x3j167), (4, .int x4j167), (5, .int x5j167), (6, .int x6j167), (7, .int x7j167)] → W p l e ru_Ck_go s m args below meth c H locs 0 0 Q (F0 m 167 ls [.int z0j167]) := by
                        intro s_j167 x1j167 x2j167 x3j167 x4j167 x5j167 x6j167 x7j167 z0j167 H locs h hP hD hS ls hl
                        unfold wj_Ck_go_167 at h
                        refine lv_istore (lv' := [(8, .int z0j167), (0, .ref (ad a0)), (1, .int x1j167), (2, .int x2j167), (3, .int x3j167), (4, .int x4j167), (5, .int x5j167), (6, .int x6j167), (7, .int x7j167)]) G.1 G.2.1 d_Ck_go_167 hl (by decide) rfl (fun ls hl => ?_)
                        refine lv_iload G.1 G.2.1 d_Ck_go_169 (lv_at hl 7 rfl) ?_
                        have J_194 : ∀ (s_j194 : St) (x1j194 : Int32) (x2j194 : Int32) (x3j194 : Int32) (x4j194 : Int32) (x5j194 : Int32) (x6j194 : Int32) (x7j194 : Int32) (z0j194 : Int32) (H : Heap) (locs : List Loc), wj_Ck_go_194 y Post K_134 a0 s_j194 x1j194 x2j194 x3j194 x4j194 x5j194 x6j194 x7j194 z0j194 → va_P D CL (ws g ad y s_j194) H → va_D A (ws g ad y s_j194) → va_S A s.heap H locs → ∀ ls, lv_has ls 9 [(0, .ref (ad a0)), (1, .int x1j194), (2, .int x2j194), (3, .int x3j194), (4, .int x4j194), (5, .int x5j194), (6, .int x6j194), (7, .int x7j194)] → W p l e ru_Ck_go s m args below meth c H locs 0 0 Q (F0 m 194 ls [.int z0j194]) := by
                          intro s_j194 x1j194 x2j194 x3j194 x4j194 x5j194 x6j194 x7j194 z0j194 H locs h hP hD hS ls hl
                          unfold wj_Ck_go_194 at h
                          refine lv_istore (lv' := [(8, .int z0j194), (0, .ref (ad a0)), (1, .int x1j194), (2, .int x2j194), (3, .int x3j194), (4, .int x4j194), (5, .int x5j194), (6, .int x6j194), (7, .int x7j194)]) G.1 G.2.1 d_Ck_go_194 hl (by decide) rfl (fun ls hl => ?_)
                          refine lv_aload_n G.1 G.2.1 d_Ck_go_196 rfl (lv_at hl 1 rfl) ?_
                          refine lv_aload_n G.1 G.2.1 d_Ck_go_197 rfl (lv_at hl 1 rfl) ?_
                          refine ugf (v := .int (sV s_j194 a0 17)) G hP h_a0 iCk rfl 17 (by decide) rfl q668 rfl rfl d_Ck_go_198 ?_
                          have J_228 : ∀ (s_j228 : St) (x1j228 : Int32) (x2j228 : Int32) (x3j228 : Int32) (x4j228 : Int32) (x5j228 : Int32) (x6j228 : Int32) (x7j228 : Int32) (x8j228 : Int32) (z1j228 : Int32) (H : Heap) (locs : List Loc), wj_Ck_go_228 y Post K_134 a0 s_j228 x1j228 x2j228 x3j228 x4j228 x5j228 x6j228 x7j228 x8j228 z1j228 → va_P D CL (ws g ad y s_j228) H → va_D A (ws g ad y s_j228) → va_S A s.heap H locs → ∀ ls, lv_has ls 9 [(0, .ref (ad a0)), (1, .int x1j228), (2, .int x2j228), (3, .int x3j228), (4, .int x4j228), (5, .int x5j228), (6, .int x6j228), (7, .int x7j228), (8, .int x8j228)] → W p l e ru_Ck_go s m args below meth c H locs 0 0 Q (F0 m 228 ls [.int z1j228, .ref (ad a0)]) := by
                            intro s_j228 x1j228 x2j228 x3j228 x4j228 x5j228 x6j228 x7j228 x8j228 z1j228 H locs h hP hD hS ls hl
                            unfold wj_Ck_go_228 at h
                            obtain ⟨n_3, h⟩ := h
                            refine upf G hP hD hS h 17 putV h_a0 iCk tCk tCk_ok nCk rfl (by decide) rfl q668 rfl rfl fV (nb_n n_3) (nb_f n_3) d_Ck_go_228 (fun s_4 H locs h hP hD hS => ?_)
                            refine lv_aload_n G.1 G.2.1 d_Ck_go_231 rfl (lv_at hl 0 rfl) ?_
                            refine ugf (v := .ref (yP y a0 18)) G hP h_a0 iCk rfl 18 (by decide) rfl q669 rfl rfl d_Ck_go_232 ?_
                            refine lv_iload_n G.1 G.2.1 d_Ck_go_235 rfl (lv_at hl 3 rfl) ?_
                            refine lv_iload G.1 G.2.1 d_Ck_go_236 (lv_at hl 7 rfl) ?_
                            refine lv_iadd G.1 G.2.1 d_Ck_go_238 ?_
                            refine lv_iload G.1 G.2.1 d_Ck_go_239 (lv_at hl 8 rfl) ?_
                            refine uiast G hP hD hS (kdp h_a0 rfl) (typ h_a0 rfl) h d_Ck_go_241 (fun s_5 H locs h hP hD hS => ?_)
                            refine lv_iinc (v := x7j228 + 1) (lv' := [(7, .int (x7j228 + 1)), (0, .ref (ad a0)), (1, .int x1j228), (2, .int x2j228), (3, .int x3j228), (4, .int x4j228), (5, .int x5j228), (6, .int x6j228), (8, .int x8j228)]) G.1 G.2.1 d_Ck_go_242 hl (k := 7) rfl rfl (by decide) rfl (fun ls hl => ?_)
                            refine lv_goto (tgt := 134) G.1 G.2.1 d_Ck_go_245 (by decide) ?_
                            have h := hK_134 s_5 x1j228 x2j228 x3j228 x4j228 x5j228 x6j228 (x7j228 + 1) h
                            exact ih_134 s_5 x1j228 x2j228 x3j228 x4j228 x5j228 x6j228 (x7j228 + 1) (Nat.lt_of_lt_of_le h.2 (Nat.le_of_lt_succ hμ_134)) h.1 H locs hP hD hS ls (lv_sub hl [1, 2, 3, 4, 5, 6, 7, 0] rfl)
                          have J_223 : ∀ (s_j223 : St) (x1j223 : Int32) (x2j223 : Int32) (x3j223 : Int32) (x4j223 : Int32) (x5j223 : Int32) (x6j223 : Int32) (x7j223 : Int32) (x8j223 : Int32) (H : Heap) (locs : List Loc), wj_Ck_go_223 y Post K_134 a0 s_j223 x1j223 x2j223 x3j223 x4j223 x5j223 x6j223 x7j223 x8j223 → va_P D CL (ws g ad y s_j223) H → va_D A (ws g ad y s_j223) → va_S A s.heap H locs → ∀ ls, lv_has ls 9 [(0, .ref (ad a0)), (1, .int x1j223), (2, .int x2j223), (3, .int x3j223), (4, .int x4j223), (5, .int x5j223), (6, .int x6j223), (7, .int x7j223), (8, .int x8j223)] → W p l e ru_Ck_go s m args below meth c H locs 0 0 Q (F0 m 223 ls [.ref (ad a0)]) := by
                            intro s_j223 x1j223 x2j223 x3j223 x4j223 x5j223 x6j223 x7j223 x8j223 H locs h hP hD hS ls hl
                            unfold wj_Ck_go_223 at h
                            refine lv_iconst (v := 1) G.1 G.2.1 d_Ck_go_223 (by decide) ?_
                            refine lv_goto (tgt := 228) G.1 G.2.1 d_Ck_go_224 (by decide) ?_
                            exact J_228 s_j223 x1j223 x2j223 x3j223 x4j223 x5j223 x6j223 x7j223 x8j223 1 H locs h hP hD hS ls (lv_sub hl [0, 1, 2, 3, 4, 5, 6, 7, 8] rfl)
                          refine lv_if_ne (tgt := 223) G.1 G.2.1 d_Ck_go_201 (by decide) (fun c201 => ?_) (fun c201 => ?_)
                          · skip
                            have h := h.1 c201
                            exact J_223 s_j194 x1j194 x2j194 x3j194 x4j194 x5j194 x6j194 x7j194 z0j194 H locs h hP hD hS ls (lv_sub hl [1, 2, 3, 4, 5, 6, 7, 8, 0] rfl)
                          · skip
                            have h := h.2 c201
                            refine lv_iload G.1 G.2.1 d_Ck_go_204 (lv_at hl 7 rfl) ?_
                            refine lv_if_ne (tgt := 223) G.1 G.2.1 d_Ck_go_206 (by decide) (fun c206 => ?_) (fun c206 => ?_)
                            · skip
                              have h := h.1 c206
                              exact J_223 s_j194 x1j194 x2j194 x3j194 x4j194 x5j194 x6j194 x7j194 z0j194 H locs h hP hD hS ls (lv_sub hl [1, 2, 3, 4, 5, 6, 7, 8, 0] rfl)
                            · skip
                              have h := h.2 c206
                              refine lv_aload_n G.1 G.2.1 d_Ck_go_209 rfl (lv_at hl 1 rfl) ?_
                              refine ugf (v := .ref (yP y a0 18)) G hP h_a0 iCk rfl 18 (by decide) rfl q669 rfl rfl d_Ck_go_210 ?_
                              refine lv_iload_n G.1 G.2.1 d_Ck_go_213 rfl (lv_at hl 4 rfl) ?_
                              refine lv_iload G.1 G.2.1 d_Ck_go_214 (lv_at hl 8 rfl) ?_
                              refine W.eq (g2 := F0 m 216 ls [.int x7j194, .int x3j194, .ref (yP y a0 18), .ref (ad a0)]) rfl ?_
                              refine lv_iadd G.1 G.2.1 d_Ck_go_216 ?_
                              refine uiald G hP (kdp h_a0 rfl) (typ h_a0 rfl) h d_Ck_go_217 (fun x_6 h => ?_)
                              refine lv_iload G.1 G.2.1 d_Ck_go_218 (lv_at hl 0 rfl) ?_
                              refine lv_icmp_eq (tgt := 227) G.1 G.2.1 d_Ck_go_220 (by decide) (fun c220 => ?_) (fun c220 => ?_)
                              · skip
                                have h := h.1 c220
                                refine lv_iconst (v := 0) G.1 G.2.1 d_Ck_go_227 (by decide) ?_
                                exact J_228 s_j194 x1j194 x2j194 x3j194 x4j194 x5j194 x6j194 x7j194 z0j194 0 H locs h hP hD hS ls (lv_sub hl [1, 2, 3, 4, 5, 6, 7, 8, 0] rfl)
                              · skip
                                have h := h.2 c220
                                exact J_223 s_j194 x1j194 x2j194 x3j194 x4j194 x5j194 x6j194 x7j194 z0j194 H locs h hP hD hS ls (lv_sub hl [1, 2, 3, 4, 5, 6, 7, 8, 0] rfl)
                        refine lv_if_eq (tgt := 179) G.1 G.2.1 d_Ck_go_171 (by decide) (fun c171 => ?_) (fun c171 => ?_)
                        · skip
                          have h := h.1 c171
                          refine lv_aload_n G.1 G.2.1 d_Ck_go_179 rfl (lv_at hl 1 rfl) ?_
                          refine lv_aload_n G.1 G.2.1 d_Ck_go_180 rfl (lv_at hl 1 rfl) ?_
                          refine ugf (v := .ref (yP y a0 18)) G hP h_a0 iCk rfl 18 (by decide) rfl q669 rfl rfl d_Ck_go_181 ?_
                          refine lv_iload_n G.1 G.2.1 d_Ck_go_184 rfl (lv_at hl 4 rfl) ?_
                          refine lv_iload G.1 G.2.1 d_Ck_go_185 (lv_at hl 8 rfl) ?_
                          refine lv_iadd G.1 G.2.1 d_Ck_go_187 ?_
                          refine uiald G hP (kdp h_a0 rfl) (typ h_a0 rfl) h d_Ck_go_188 (fun x_7 h => ?_)
                          refine lv_iload G.1 G.2.1 d_Ck_go_189 (lv_at hl 0 rfl) ?_
                          refine W.eq (g2 := F0 m 191 ls [.int z0j167, .int x_7, .ref (ad a0)]) rfl ?_
                          refine ucVi (As := [.int x_7, .int z0j167]) (rest := []) G hP hD hS (cu_Ck_join l D g ad y _ s_j167 a0 x_7 z0j167 H.size h_a0 h) w9_Ck_join q2287 ⟨Nat.le_of_ble_eq_true rfl, Nat.le_of_ble_eq_true rfl⟩ rfl rfl h_a0 (q := (RCk, TCk, 22)) rfl rfl hl.1 rfl (Nat.le_of_ble_eq_true rfl) rfl ⟨Nat.le_refl _, Nat.le_refl _⟩ d_Ck_go_191 (fun r_8 s_9 H locs h hP hD hS => ?_)
                          exact J_194 s_9 x1j167 x2j167 x3j167 x4j167 x5j167 x6j167 x7j167 r_8 H locs h hP hD hS ls (lv_sub hl [1, 2, 3, 4, 5, 6, 7, 8] rfl)
                        · skip
                          have h := h.2 c171
                          refine lv_iload G.1 G.2.1 d_Ck_go_174 (lv_at hl 0 rfl) ?_
                          refine lv_goto (tgt := 194) G.1 G.2.1 d_Ck_go_176 (by decide) ?_
                          exact J_194 s_j167 x1j167 x2j167 x3j167 x4j167 x5j167 x6j167 x7j167 z0j167 H locs h hP hD hS ls (lv_sub hl [1, 2, 3, 4, 5, 6, 7, 8] rfl)
                      have J_160 : ∀ (s_j160 : St) (x1j160 : Int32) (x2j160 : Int32) (x3j160 : Int32) (x4j160 : Int32) (x5j160 : Int32) (x6j160 : Int32) (x7j160 : Int32) (H : Heap) (locs : List Loc), wj_Ck_go_160 y Post K_134 a0 s_j160 x1j160 x2j160 x3j160 x4j160 x5j160 x6j160 x7j160 → va_P D CL (ws g ad y s_j160) H → va_D A (ws g ad y s_j160) → va_S A s.heap H locs → ∀ ls, lv_has ls 9 [(0, .ref (ad a0)), (1, .int x1j160), (2, .int x2j160), (3, .int x3j160), (4, .int x4j160), (5, .int x5j160), (6, .int x6j160), (7, .int x7j160)] → W p l e ru_Ck_go s m args below meth c H locs 0 0 Q (F0 m 160 ls []) := by
                        intro s_j160 x1j160 x2j160 x3j160 x4j160 x5j160 x6j160 x7j160 H locs h hP hD hS ls hl
                        unfold wj_Ck_go_160 at h
                        refine lv_aload_n G.1 G.2.1 d_Ck_go_160 rfl (lv_at hl 0 rfl) ?_
                        refine ugf (v := .ref (yP y a0 15)) G hP h_a0 iCk rfl 15 (by decide) rfl q666 rfl rfl d_Ck_go_161 ?_
                        refine lv_iload G.1 G.2.1 d_Ck_go_164 (lv_at hl 7 rfl) ?_
                        refine uiald G hP (kdp h_a0 rfl) (typ h_a0 rfl) h d_Ck_go_166 (fun x_10 h => ?_)
                        exact J_167 s_j160 x1j160 x2j160 x3j160 x4j160 x5j160 x6j160 x7j160 x_10 H locs h hP hD hS ls (lv_sub hl [0, 1, 2, 3, 4, 5, 6, 7] rfl)
                      refine lv_if_eq (tgt := 160) G.1 G.2.1 d_Ck_go_146 (by decide) (fun c146 => ?_) (fun c146 => ?_)
                      · skip
                        have h := h.1 c146
                        exact J_160 s_h134 x1h134 x2h134 x3h134 x4h134 x5h134 x6h134 x7h134 H locs h hP hD hS ls (lv_sub hl [0, 1, 2, 3, 4, 5, 6, 7] rfl)
                      · skip
                        have h := h.2 c146
                        refine lv_iload G.1 G.2.1 d_Ck_go_149 (lv_at hl 7 rfl) ?_
                        refine lv_bipush (v := 20) G.1 G.2.1 d_Ck_go_151 (by decide) ?_
                        refine lv_icmp_lt (tgt := 160) G.1 G.2.1 d_Ck_go_153 (by decide) (fun c153 => ?_) (fun c153 => ?_)
                        · skip
                          have h := h.1 c153
                          exact J_160 s_h134 x1h134 x2h134 x3h134 x4h134 x5h134 x6h134 x7h134 H locs h hP hD hS ls (lv_sub hl [0, 1, 2, 3, 4, 5, 6, 7] rfl)
                        · skip
                          have h := h.2 c153
                          refine lv_iload_n G.1 G.2.1 d_Ck_go_156 rfl (lv_at hl 2 rfl) ?_
                          refine W.eq (g2 := F0 m 157 ls [.int x2h134]) rfl ?_
                          refine lv_goto (tgt := 167) G.1 G.2.1 d_Ck_go_157 (by decide) ?_
                          exact J_167 s_h134 x1h134 x2h134 x3h134 x4h134 x5h134 x6h134 x7h134 x2h134 H locs h hP hD hS ls (lv_sub hl [0, 1, 2, 3, 4, 5, 6, 7] rfl)
                exact L_134 _ s_j131 x1j131 x2j131 x3j131 x4j131 x5j131 x6j131 0 (Nat.lt_succ_self _) hI_134 H locs hP hD hS ls (lv_sub hl [1, 2, 3, 4, 5, 6, 7, 0] rfl)
              refine lv_icmp_ge (tgt := 131) G.1 G.2.1 d_Ck_go_75 (by decide) (fun c75 => ?_) (fun c75 => ?_)
              · skip
                have h := h.1 c75
                exact J_131 s_h71 x1h71 x2h71 x3h71 x4h71 x5h71 x6h71 H locs h hP hD hS ls (lv_sub hl [0, 1, 2, 3, 4, 5, 6] rfl)
              · skip
                have h := h.2 c75
                refine lv_iload G.1 G.2.1 d_Ck_go_78 (lv_at hl 6 rfl) ?_
                refine lv_if_ne (tgt := 131) G.1 G.2.1 d_Ck_go_80 (by decide) (fun c80 => ?_) (fun c80 => ?_)
                · skip
                  have h := h.1 c80
                  exact J_131 s_h71 x1h71 x2h71 x3h71 x4h71 x5h71 x6h71 H locs h hP hD hS ls (lv_sub hl [0, 1, 2, 3, 4, 5, 6] rfl)
                · skip
                  have h := h.2 c80
                  refine lv_aload_n G.1 G.2.1 d_Ck_go_83 rfl (lv_at hl 0 rfl) ?_
                  refine lv_aload_n G.1 G.2.1 d_Ck_go_84 rfl (lv_at hl 0 rfl) ?_
                  refine ugf (v := .ref (yP y a0 18)) G hP h_a0 iCk rfl 18 (by decide) rfl q669 rfl rfl d_Ck_go_85 ?_
                  refine lv_iload_n G.1 G.2.1 d_Ck_go_88 rfl (lv_at hl 3 rfl) ?_
                  refine lv_bipush (v := 20) G.1 G.2.1 d_Ck_go_89 (by decide) ?_
                  refine lv_iadd G.1 G.2.1 d_Ck_go_91 ?_
                  refine W.eq (g2 := F0 m 92 ls [.int (x3h71 + 20), .ref (yP y a0 18), .ref (ad a0)]) rfl ?_
                  refine lv_iload G.1 G.2.1 d_Ck_go_92 (lv_at hl 7 rfl) ?_
                  refine lv_iadd G.1 G.2.1 d_Ck_go_94 ?_
                  refine uiald G hP (kdp h_a0 rfl) (typ h_a0 rfl) h d_Ck_go_95 (fun x_11 h => ?_)
                  refine lv_iload G.1 G.2.1 d_Ck_go_96 (lv_at hl 4 rfl) ?_
                  have J_115 : ∀ (s_j115 : St) (x1j115 : Int32) (x2j115 : Int32) (x3j115 : Int32) (x4j115 : Int32) (x5j115 : Int32) (x6j115 : Int32) (x7j115 : Int32) (z1j115 : Int32) (z2j115 : Int32) (H : Heap) (locs : List Loc), wj_Ck_go_115 y Post K_71 a0 s_j115 x1j115 x2j115 x3j115 x4j115 x5j115 x6j115 x7j115 z1j115 z2j115 → va_P D CL (ws g ad y s_j115) H → va_D A (ws g ad y s_j115) → va_S A s.heap H locs → ∀ ls, lv_has ls 9 [(0, .ref (ad a0)), (1, .int x1j115), (2, .int x2j115), (3, .int x3j115), (4, .int x4j115), (5, .int x5j115), (6, .int x6j115), (7, .int x7j115)] → W p l e ru_Ck_go s m args below meth c H locs 0 0 Q (F0 m 115 ls [.int z2j115, .int z1j115, .ref (ad a0)]) := by
                    intro s_j115 x1j115 x2j115 x3j115 x4j115 x5j115 x6j115 x7j115 z1j115 z2j115 H locs h hP hD hS ls hl
                    unfold wj_Ck_go_115 at h
                    refine ucVi (As := [.int z1j115, .int z2j115]) (rest := []) G hP hD hS (cu_Ck_join l D g ad y _ s_j115 a0 z1j115 z2j115 H.size h_a0 h) w9_Ck_join q2287 ⟨Nat.le_of_ble_eq_true rfl, Nat.le_of_ble_eq_true rfl⟩ rfl rfl h_a0 (q := (RCk, TCk, 22)) rfl rfl hl.1 rfl (Nat.le_of_ble_eq_true rfl) rfl ⟨Nat.le_refl _, Nat.le_refl _⟩ d_Ck_go_115 (fun r_12 s_13 H locs h hP hD hS => ?_)
                    refine lv_iconst (v := 3) G.1 G.2.1 d_Ck_go_118 (by decide) ?_
                    refine lv_icmp_ne (tgt := 125) G.1 G.2.1 d_Ck_go_119 (by decide) (fun c119 => ?_) (fun c119 => ?_)
                    · skip
                      have h := h.1 c119
                      refine lv_iinc (v := x7j115 + 1) (lv' := [(7, .int (x7j115 + 1)), (0, .ref (ad a0)), (1, .int x1j115), (2, .int x2j115), (3, .int x3j115), (4, .int x4j115), (5, .int x5j115), (6, .int x6j115)]) G.1 G.2.1 d_Ck_go_125 hl (k := 7) rfl rfl (by decide) rfl (fun ls hl => ?_)
                      refine lv_goto (tgt := 71) G.1 G.2.1 d_Ck_go_128 (by decide) ?_
                      have h := hK_71 s_13 x1j115 x2j115 x3j115 x4j115 x5j115 x6j115 (x7j115 + 1) h
                      exact ih_71 s_13 x1j115 x2j115 x3j115 x4j115 x5j115 x6j115 (x7j115 + 1) (Nat.lt_of_lt_of_le h.2 (Nat.le_of_lt_succ hμ_71)) h.1 H locs hP hD hS ls (lv_sub hl [1, 2, 3, 4, 5, 6, 7, 0] rfl)
                    · skip
                      have h := h.2 c119
                      refine lv_bipush (v := 37) G.1 G.2.1 d_Ck_go_122 (by decide) ?_
                      exact hret _ _ _ _ _ _ _ ls h hP hD hS (Nat.le_refl _) (Nat.le_refl _) d_Ck_go_124
                  refine lv_if_eq (tgt := 105) G.1 G.2.1 d_Ck_go_98 (by decide) (fun c98 => ?_) (fun c98 => ?_)
                  · skip
                    have h := h.1 c98
                    refine lv_aload_n G.1 G.2.1 d_Ck_go_105 rfl (lv_at hl 0 rfl) ?_
                    refine ugf (v := .ref (yP y a0 15)) G hP h_a0 iCk rfl 15 (by decide) rfl q666 rfl rfl d_Ck_go_106 ?_
                    refine lv_bipush (v := 20) G.1 G.2.1 d_Ck_go_109 (by decide) ?_
                    refine lv_iload G.1 G.2.1 d_Ck_go_111 (lv_at hl 7 rfl) ?_
                    refine lv_iadd G.1 G.2.1 d_Ck_go_113 ?_
                    refine uiald G hP (kdp h_a0 rfl) (typ h_a0 rfl) h d_Ck_go_114 (fun x_14 h => ?_)
                    exact J_115 s_h71 x1h71 x2h71 x3h71 x4h71 x5h71 x6h71 x7h71 x_11 x_14 H locs h hP hD hS ls (lv_sub hl [0, 1, 2, 3, 4, 5, 6, 7] rfl)
                  · skip
                    have h := h.2 c98
                    refine lv_iload_n G.1 G.2.1 d_Ck_go_101 rfl (lv_at hl 2 rfl) ?_
                    refine lv_goto (tgt := 115) G.1 G.2.1 d_Ck_go_102 (by decide) ?_
                    exact J_115 s_h71 x1h71 x2h71 x3h71 x4h71 x5h71 x6h71 x7h71 x_11 x2h71 H locs h hP hD hS ls (lv_sub hl [0, 1, 2, 3, 4, 5, 6, 7] rfl)
          exact L_71 _ s_j68 x1j68 x2j68 x3j68 x4j68 x5j68 x6j68 0 (Nat.lt_succ_self _) hI_71 H locs hP hD hS ls (lv_sub hl [1, 2, 3, 4, 5, 6, 7, 0] rfl)
        refine lv_if_ne (tgt := 68) G.1 G.2.1 d_Ck_go_51 (by decide) (fun c51 => ?_) (fun c51 => ?_)
        · skip
          have h := h.1 c51
          exact J_68 s_j47 x1j47 x2j47 x3j47 x4j47 x5j47 z0j47 H locs h hP hD hS ls (lv_sub hl [1, 2, 3, 4, 5, 6, 0] rfl)
        · skip
          have h := h.2 c51
          refine lv_aload_n G.1 G.2.1 d_Ck_go_54 rfl (lv_at hl 1 rfl) ?_
          refine ugf (v := .ref (yP y a0 19)) G hP h_a0 iCk rfl 19 (by decide) rfl q670 rfl rfl d_Ck_go_55 ?_
          refine lv_iload_n G.1 G.2.1 d_Ck_go_58 rfl (lv_at hl 2 rfl) ?_
          refine uiald G hP (kdp h_a0 rfl) (typ h_a0 rfl) h d_Ck_go_59 (fun x_15 h => ?_)
          refine lv_iload G.1 G.2.1 d_Ck_go_60 (lv_at hl 6 rfl) ?_
          refine lv_icmp_eq (tgt := 68) G.1 G.2.1 d_Ck_go_62 (by decide) (fun c62 => ?_) (fun c62 => ?_)
          · skip
            have h := h.1 c62
            exact J_68 s_j47 x1j47 x2j47 x3j47 x4j47 x5j47 z0j47 H locs h hP hD hS ls (lv_sub hl [1, 2, 3, 4, 5, 6, 0] rfl)
          · skip
            have h := h.2 c62
            refine lv_bipush (v := 37) G.1 G.2.1 d_Ck_go_65 (by decide) ?_
            exact hret _ _ _ _ _ _ _ ls h hP hD hS (Nat.le_refl _) (Nat.le_refl _) d_Ck_go_67
      refine lv_if_ge (tgt := 46) G.1 G.2.1 d_Ck_go_39 (by decide) (fun c39 => ?_) (fun c39 => ?_)
      · skip
        have h := h.1 c39
        refine lv_iconst (v := 0) G.1 G.2.1 d_Ck_go_46 (by decide) ?_
        exact J_47 s_j31 x1j31 x2j31 x3j31 x4j31 z0j31 0 H locs h hP hD hS ls (lv_sub hl [1, 2, 3, 4, 5, 0] rfl)
      · skip
        have h := h.2 c39
        refine lv_iconst (v := 1) G.1 G.2.1 d_Ck_go_42 (by decide) ?_
        refine lv_goto (tgt := 47) G.1 G.2.1 d_Ck_go_43 (by decide) ?_
        exact J_47 s_j31 x1j31 x2j31 x3j31 x4j31 z0j31 1 H locs h hP hD hS ls (lv_sub hl [1, 2, 3, 4, 5, 0] rfl)
    refine lv_if_eq (tgt := 27) G.1 G.2.1 d_Ck_go_20 (by decide) (fun c20 => ?_) (fun c20 => ?_)
    · skip
      have h := h.1 c20
      refine lv_aload_n G.1 G.2.1 d_Ck_go_27 rfl (lv_at hl 1 rfl) ?_
      refine ugf (v := .int (sV s_j16 a0 16)) G hP h_a0 iCk rfl 16 (by decide) rfl q667 rfl rfl d_Ck_go_28 ?_
      exact J_31 s_j16 x1j16 x2j16 x3j16 z0j16 (sV s_j16 a0 16) H locs h hP hD hS ls (lv_sub hl [1, 2, 3, 4, 0] rfl)
    · skip
      have h := h.2 c20
      refine lv_iconst (v := 1) G.1 G.2.1 d_Ck_go_23 (by decide) ?_
      refine lv_goto (tgt := 31) G.1 G.2.1 d_Ck_go_24 (by decide) ?_
      exact J_31 s_j16 x1j16 x2j16 x3j16 z0j16 1 H locs h hP hD hS ls (lv_sub hl [1, 2, 3, 4, 0] rfl)
  refine lv_icmp_eq (tgt := 15) G.1 G.2.1 d_Ck_go_8 (by decide) (fun c8 => ?_) (fun c8 => ?_)
  · skip
    have h := h.1 c8
    refine lv_iconst (v := 0) G.1 G.2.1 d_Ck_go_15 (by decide) ?_
    exact J_16 σ v1 v2 (v1 * 40) 0 H locs h hP hD hS ls (lv_sub hl [1, 2, 3, 0] rfl)
  · skip
    have h := h.2 c8
    refine lv_iconst (v := 1) G.1 G.2.1 d_Ck_go_11 (by decide) ?_
    refine lv_goto (tgt := 16) G.1 G.2.1 d_Ck_go_12 (by decide) ?_
    exact J_16 σ v1 v2 (v1 * 40) 1 H locs h hP hD hS ls (lv_sub hl [1, 2, 3, 0] rfl)
