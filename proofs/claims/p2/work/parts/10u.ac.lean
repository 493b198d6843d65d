def y_Cw_place : MethodName := ⟨"ClassWorks", "place", "()I"⟩
abbrev b_Cw_place : ByteArray := prog_1_method_11_code
theorem q1142 : Cond.fieldLink "ClassWorks" 25 "ClassWorks" "refusedAt" "I" ∈ lw_ok := lw_okmem (List.mem_of_getElem? (i := 1142) (by decide +kernel)) rfl
theorem d_Cw_place_0 : decode b_Cw_place 0 = .ok (.aload_n 0, 1) := by decide +kernel
theorem d_Cw_place_1 : decode b_Cw_place 1 = .ok (.getfield 25, 3) := by decide +kernel
theorem d_Cw_place_4 : decode b_Cw_place 4 = .ok (.ireturn, 1) := by decide +kernel
abbrev ru_Cw_place : Room := { frames := 0, cells := 0, slots := 0, locals := 0 }
def wu_Cw_place (y : Ly) (Post : St → Int32 → Prop) (σ : St) (a0 : Nat) : Prop := Post σ (sV σ a0 8)
set_option maxHeartbeats 4000000 in
set_option maxRecDepth 100000 in
theorem cu_Cw_place (l : Launch) (D : va_G) (g : Nat → ClassId) (ad : Nat → Nat) (y : Ly) (Post : St → Int32 → Prop) (σ : St) (a0 : Nat) (sz : Nat) (h_a0 : cl a0 = 11) (h : wu_Cw_place y Post σ a0) : Met l y_Cw_place (mw y_Cw_place b_Cw_place 1 (some .int)) ru_Cw_place (PC g D [] [.ref (ad a0)] sz (ws g ad y σ)) (va_Qi (fun (r : Int32) (u : St) => Post u r) (QW D (va_A (ws g ad y σ) sz) (fun u => ws g ad y u)) (va_A (ws g ad y σ) sz)) 0 0 (va_A (ws g ad y σ) sz) := by
  refine ofI (by decide +kernel) (Nat.le_of_ble_eq_true rfl) ?_
  intro p e s m args below meth c A Q ls H locs G hsz hP hD hS hl hret
  subst hsz
  have hl : lv_has ls 1 [(0, .ref (ad a0))] := hl
  unfold wu_Cw_place at h
  refine lv_aload_n G.1 G.2.1 d_Cw_place_0 rfl (lv_at hl 0 rfl) ?_
  refine ugf (v := .int (sV σ a0 8)) G hP h_a0 iCw rfl 8 (by decide) rfl q1142 rfl rfl d_Cw_place_1 ?_
  exact hret _ _ _ _ _ _ _ ls h hP hD hS (Nat.le_refl _) (Nat.le_refl _) d_Cw_place_4
def y_Cw_classes : MethodName := ⟨"ClassWorks", "classes", "(I)I"⟩
abbrev b_Cw_classes : ByteArray := prog_1_method_12_code
theorem d_Cw_classes_0 : decode b_Cw_classes 0 = .ok (.aload_n 0, 1) := by decide +kernel
theorem d_Cw_classes_1 : decode b_Cw_classes 1 = .ok (.iload_n 1, 1) := by decide +kernel
theorem d_Cw_classes_2 : decode b_Cw_classes 2 = .ok (.invokevirtual 133, 3) := by decide +kernel
theorem d_Cw_classes_5 : decode b_Cw_classes 5 = .ok (.astore_n 2, 1) := by decide +kernel
theorem d_Cw_classes_6 : decode b_Cw_classes 6 = .ok (.aload_n 2, 1) := by decide +kernel
theorem d_Cw_classes_7 : decode b_Cw_classes 7 = .ok (.ifnonnull 7, 3) := by decide +kernel
theorem d_Cw_classes_10 : decode b_Cw_classes 10 = .ok (.iconst (-1), 1) := by decide +kernel
theorem d_Cw_classes_11 : decode b_Cw_classes 11 = .ok (.goto 10, 3) := by decide +kernel
theorem d_Cw_classes_14 : decode b_Cw_classes 14 = .ok (.aload_n 2, 1) := by decide +kernel
theorem d_Cw_classes_15 : decode b_Cw_classes 15 = .ok (.getfield 137, 3) := by decide +kernel
theorem d_Cw_classes_18 : decode b_Cw_classes 18 = .ok (.bipush 21, 2) := by decide +kernel
theorem d_Cw_classes_20 : decode b_Cw_classes 20 = .ok (.isub, 1) := by decide +kernel
theorem d_Cw_classes_21 : decode b_Cw_classes 21 = .ok (.ireturn, 1) := by decide +kernel
abbrev ru_Cw_classes : Room := { frames := 2, cells := 0, slots := 0, locals := 43 }
def wj_Cw_classes_21 (y : Ly) (Post : St → Int32 → Prop) (a0 : Nat) (s_j21 : St) (z0j21 : Int32) : Prop := Post s_j21 z0j21
def wu_Cw_classes (y : Ly) (Post : St → Int32 → Prop) (σ : St) (a0 : Nat) (v1 : Int32) : Prop := wu_Cw_worldOf y (fun (s_2 : St) (r_1 : Option Nat) => ((r_1 = none → wj_Cw_classes_21 y Post a0 s_2 (-1)) ∧ (∀ r_1b : Nat, r_1 = some r_1b → (cl r_1b = 9 ∧ wj_Cw_classes_21 y Post a0 s_2 ((sV s_2 r_1b 2) - 21))))) σ a0 v1
set_option maxHeartbeats 4000000 in
set_option maxRecDepth 100000 in
theorem cu_Cw_classes (l : Launch) (D : va_G) (g : Nat → ClassId) (ad : Nat → Nat) (y : Ly) (Post : St → Int32 → Prop) (σ : St) (a0 : Nat) (v1 : Int32) (sz : Nat) (h_a0 : cl a0 = 11) (h : wu_Cw_classes y Post σ a0 v1) : Met l y_Cw_classes (mw y_Cw_classes b_Cw_classes 3 (some .int)) ru_Cw_classes (PC g D [] [.ref (ad a0), .int v1] sz (ws g ad y σ)) (va_Qi (fun (r : Int32) (u : St) => Post u r) (QW D (va_A (ws g ad y σ) sz) (fun u => ws g ad y u)) (va_A (ws g ad y σ) sz)) 0 0 (va_A (ws g ad y σ) sz) := by
  refine ofI (by decide +kernel) (Nat.le_of_ble_eq_true rfl) ?_
  intro p e s m args below meth c A Q ls H locs G hsz hP hD hS hl hret
  subst hsz
  have hl : lv_has ls 3 [(0, .ref (ad a0)), (1, .int v1)] := hl
  unfold wu_Cw_classes at h
  refine lv_aload_n G.1 G.2.1 d_Cw_classes_0 rfl (lv_at hl 0 rfl) ?_
  refine lv_iload_n G.1 G.2.1 d_Cw_classes_1 rfl (lv_at hl 1 rfl) ?_
  refine ucVq (As := [.int v1]) (rest := []) G hP hD hS (cu_Cw_worldOf l D g ad y _ σ a0 v1 H.size h_a0 h) w9_Cw_worldOf q1244 ⟨Nat.le_of_ble_eq_true rfl, Nat.le_of_ble_eq_true rfl⟩ rfl rfl h_a0 (q := (RCw, TCw, 20)) rfl rfl hl.1 rfl (Nat.le_of_ble_eq_true rfl) rfl ⟨Nat.le_refl _, Nat.le_refl _⟩ d_Cw_classes_2 (fun r_1 s_2 H locs h hP hD hS => ?_)
  rcases r_1 with _ | r_1b
  · skip
    have h := h.1 rfl
    show W p l e ru_Cw_classes s m args below meth c H locs 0 0 Q (F0 m 5 ls [.null])
    refine lv_astore_nN (lv' := [(2, .null), (0, .ref (ad a0)), (1, .int v1)]) G.1 G.2.1 d_Cw_classes_5 rfl hl (by decide) rfl (fun ls hl => ?_)
    refine lv_aload_nN G.1 G.2.1 d_Cw_classes_6 rfl (lv_at hl 0 rfl) ?_
    have J_21 : ∀ (s_j21 : St) (z0j21 : Int32) (H : Heap) (locs : List Loc), wj_Cw_classes_21 y Post a0 s_j21 z0j21 → va_P D CL (ws g ad y s_j21) H → va_D A (ws g ad y s_j21) → va_S A s.heap H locs → ∀ ls, lv_has ls 3 [] → W p l e ru_Cw_classes s m args below meth c H locs 0 0 Q (F0 m 21 ls [.int z0j21]) := by
      intro s_j21 z0j21 H locs h hP hD hS ls hl
      unfold wj_Cw_classes_21 at h
      exact hret _ _ _ _ _ _ _ ls h hP hD hS (Nat.le_refl _) (Nat.le_refl _) d_Cw_classes_21
    refine lv_ifnonnullN G.1 G.2.1 d_Cw_classes_7 ?_
    refine lv_iconst (v := (-1)) G.1 G.2.1 d_Cw_classes_10 (by decide) ?_
    refine lv_goto (tgt := 21) G.1 G.2.1 d_Cw_classes_11 (by decide) ?_
    exact J_21 s_2 (-1) H locs h hP hD hS ls (lv_sub hl [] rfl)
  · skip
    obtain ⟨c_r_1b, h⟩ := h.2 _ rfl
    show W p l e ru_Cw_classes s m args below meth c H locs 0 0 Q (F0 m 5 ls [.ref (ad r_1b)])
    refine lv_astore_n (lv' := [(2, .ref (ad r_1b)), (0, .ref (ad a0)), (1, .int v1)]) G.1 G.2.1 d_Cw_classes_5 rfl hl (by decide) rfl (fun ls hl => ?_)
    refine lv_aload_n G.1 G.2.1 d_Cw_classes_6 rfl (lv_at hl 0 rfl) ?_
    have J_21 : ∀ (s_j21 : St) (z0j21 : Int32) (H : Heap) (locs : List Loc), wj_Cw_classes_21 y Post a0 s_j21 z0j21 → va_P D CL (ws g ad y s_j21) H → va_D A (ws g ad y s_j21) → va_S A s.heap H locs → ∀ ls, lv_has ls 3 [] → W p l e ru_Cw_classes s m args below meth c H locs 0 0 Q (F0 m 21 ls [.int z0j21]) := by
      intro s_j21 z0j21 H locs h hP hD hS ls hl
      unfold wj_Cw_classes_21 at h
      exact hret _ _ _ _ _ _ _ ls h hP hD hS (Nat.le_refl _) (Nat.le_refl _) d_Cw_classes_21
    refine lv_ifnonnull (tgt := 14) G.1 G.2.1 d_Cw_classes_7 (by decide) ?_
    refine lv_aload_n G.1 G.2.1 d_Cw_classes_14 rfl (lv_at hl 0 rfl) ?_
    refine ugf (v := .int (sV s_2 r_1b 2)) G hP c_r_1b iWd rfl 2 (by decide) rfl q819 rfl rfl d_Cw_classes_15 ?_
    refine lv_bipush (v := 21) G.1 G.2.1 d_Cw_classes_18 (by decide) ?_
    refine lv_isub G.1 G.2.1 d_Cw_classes_20 ?_
    exact J_21 s_2 ((sV s_2 r_1b 2) - 21) H locs h hP hD hS ls (lv_sub hl [] rfl)
def y_Cw_worldWith : MethodName := ⟨"ClassWorks", "worldWith", "(II)LClassWorks$World;"⟩
abbrev b_Cw_worldWith : ByteArray := prog_1_method_8_code
theorem d_Cw_worldWith_0 : decode b_Cw_worldWith 0 = .ok (.aload_n 0, 1) := by decide +kernel
theorem d_Cw_worldWith_1 : decode b_Cw_worldWith 1 = .ok (.iload_n 1, 1) := by decide +kernel
theorem d_Cw_worldWith_2 : decode b_Cw_worldWith 2 = .ok (.invokevirtual 133, 3) := by decide +kernel
theorem d_Cw_worldWith_5 : decode b_Cw_worldWith 5 = .ok (.astore_n 3, 1) := by decide +kernel
theorem d_Cw_worldWith_6 : decode b_Cw_worldWith 6 = .ok (.aload_n 3, 1) := by decide +kernel
theorem d_Cw_worldWith_7 : decode b_Cw_worldWith 7 = .ok (.ifnull 15, 3) := by decide +kernel
theorem d_Cw_worldWith_10 : decode b_Cw_worldWith 10 = .ok (.iload_n 2, 1) := by decide +kernel
theorem d_Cw_worldWith_11 : decode b_Cw_worldWith 11 = .ok (.ifCond .lt 11, 3) := by decide +kernel
theorem d_Cw_worldWith_14 : decode b_Cw_worldWith 14 = .ok (.iload_n 2, 1) := by decide +kernel
theorem d_Cw_worldWith_15 : decode b_Cw_worldWith 15 = .ok (.aload_n 3, 1) := by decide +kernel
theorem d_Cw_worldWith_16 : decode b_Cw_worldWith 16 = .ok (.getfield 137, 3) := by decide +kernel
theorem d_Cw_worldWith_19 : decode b_Cw_worldWith 19 = .ok (.if_icmp .lt 7, 3) := by decide +kernel
theorem d_Cw_worldWith_22 : decode b_Cw_worldWith 22 = .ok (.aconst_null, 1) := by decide +kernel
theorem d_Cw_worldWith_23 : decode b_Cw_worldWith 23 = .ok (.goto 4, 3) := by decide +kernel
theorem d_Cw_worldWith_26 : decode b_Cw_worldWith 26 = .ok (.aload_n 3, 1) := by decide +kernel
theorem d_Cw_worldWith_27 : decode b_Cw_worldWith 27 = .ok (.areturn, 1) := by decide +kernel
abbrev ru_Cw_worldWith : Room := { frames := 2, cells := 0, slots := 0, locals := 43 }
def wj_Cw_worldWith_27 (y : Ly) (Post : St → Option Nat → Prop) (a0 : Nat) (s_j27 : St) (z0j27 : Option Nat) : Prop := ((z0j27 = none → Post s_j27 (none)) ∧ (∀ z0j27b : Nat, z0j27 = some z0j27b → (cl z0j27b = 9 ∧ Post s_j27 (some z0j27b))))
def wj_Cw_worldWith_22 (y : Ly) (Post : St → Option Nat → Prop) (a0 : Nat) (s_j22 : St) : Prop := wj_Cw_worldWith_27 y Post a0 s_j22 none
def wu_Cw_worldWith (y : Ly) (Post : St → Option Nat → Prop) (σ : St) (a0 : Nat) (v1 : Int32) (v2 : Int32) : Prop := wu_Cw_worldOf y (fun (s_2 : St) (r_1 : Option Nat) => ((r_1 = none → wj_Cw_worldWith_22 y Post a0 s_2) ∧ (∀ r_1b : Nat, r_1 = some r_1b → (cl r_1b = 9 ∧ ((v2 < 0 → wj_Cw_worldWith_22 y Post a0 s_2) ∧ (¬ (v2 < 0) → ((v2 < (sV s_2 r_1b 2) → wj_Cw_worldWith_27 y Post a0 s_2 (some r_1b)) ∧ (¬ (v2 < (sV s_2 r_1b 2)) → wj_Cw_worldWith_22 y Post a0 s_2)))))))) σ a0 v1
set_option maxHeartbeats 4000000 in
set_option maxRecDepth 100000 in
theorem cu_Cw_worldWith (l : Launch) (D : va_G) (g : Nat → ClassId) (ad : Nat → Nat) (y : Ly) (Post : St → Option Nat → Prop) (σ : St) (a0 : Nat) (v1 : Int32) (v2 : Int32) (sz : Nat) (h_a0 : cl a0 = 11) (h : wu_Cw_worldWith y Post σ a0 v1 v2) : Met l y_Cw_worldWith (mw y_Cw_worldWith b_Cw_worldWith 4 (some ((.object "ClassWorks$World")))) ru_Cw_worldWith (PC g D [] [.ref (ad a0), .int v1, .int v2] sz (ws g ad y σ)) (va_Qq (fun (r : Option Nat) (u : St) => ∃ o : Option Nat, r = o.map ad ∧ Post u o) (QW D (va_A (ws g ad y σ) sz) (fun u => ws g ad y u)) (va_A (ws g ad y σ) sz)) 0 0 (va_A (ws g ad y σ) sz) := by
  refine ofQ (Or.inl ⟨_, rfl⟩) (by decide +kernel) (Nat.le_of_ble_eq_true rfl) ?_
  intro p e s m args below meth c A Q ls H locs G hsz hP hD hS hl hret
  subst hsz
  have hl : lv_has ls 4 [(0, .ref (ad a0)), (1, .int v1), (2, .int v2)] := hl
  unfold wu_Cw_worldWith at h
  refine lv_aload_n G.1 G.2.1 d_Cw_worldWith_0 rfl (lv_at hl 0 rfl) ?_
  refine lv_iload_n G.1 G.2.1 d_Cw_worldWith_1 rfl (lv_at hl 1 rfl) ?_
  refine ucVq (As := [.int v1]) (rest := []) G hP hD hS (cu_Cw_worldOf l D g ad y _ σ a0 v1 H.size h_a0 h) w9_Cw_worldOf q1244 ⟨Nat.le_of_ble_eq_true rfl, Nat.le_of_ble_eq_true rfl⟩ rfl rfl h_a0 (q := (RCw, TCw, 20)) rfl rfl hl.1 rfl (Nat.le_of_ble_eq_true rfl) rfl ⟨Nat.le_refl _, Nat.le_refl _⟩ d_Cw_worldWith_2 (fun r_1 s_2 H locs h hP hD hS => ?_)
  rcases r_1 with _ | r_1b
  · skip
    have h := h.1 rfl
    show W p l e ru_Cw_worldWith s m args below meth c H locs 0 0 Q (F0 m 5 ls [.null])
    refine lv_astore_nN (lv' := [(3, .null), (0, .ref (ad a0)), (1, .int v1), (2, .int v2)]) G.1 G.2.1 d_Cw_worldWith_5 rfl hl (by decide) rfl (fun ls hl => ?_)
    refine lv_aload_nN G.1 G.2.1 d_Cw_worldWith_6 rfl (lv_at hl 0 rfl) ?_
    have J_27 : ∀ (s_j27 : St) (z0j27 : Option Nat) (H : Heap) (locs : List Loc), wj_Cw_worldWith_27 y Post a0 s_j27 z0j27 → va_P D CL (ws g ad y s_j27) H → va_D A (ws g ad y s_j27) → va_S A s.heap H locs → ∀ ls, lv_has ls 4 [] → W p l e ru_Cw_worldWith s m args below meth c H locs 0 0 Q (F0 m 27 ls [va_rf (Option.map ad z0j27)]) := by
      intro s_j27 z0j27 H locs h hP hD hS ls hl
      unfold wj_Cw_worldWith_27 at h
      rcases z0j27 with _ | z0j27b
      · skip
        have h := h.1 rfl
        have hl : lv_has ls 4 [] := hl
        show W p l e ru_Cw_worldWith s m args below meth c H locs 0 0 Q (F0 m 27 ls [.null])
        exact hret (none) _ _ _ _ _ _ ls ⟨none, rfl, h⟩ hP hD hS (Nat.le_refl _) (Nat.le_refl _) d_Cw_worldWith_27
      · skip
        obtain ⟨c_z0j27b, h⟩ := h.2 _ rfl
        have hl : lv_has ls 4 [] := hl
        show W p l e ru_Cw_worldWith s m args below meth c H locs 0 0 Q (F0 m 27 ls [.ref (ad z0j27b)])
        exact hret (some (ad z0j27b)) _ _ _ _ _ _ ls ⟨some z0j27b, rfl, h⟩ hP hD hS (Nat.le_refl _) (Nat.le_refl _) d_Cw_worldWith_27
    have J_22 : ∀ (s_j22 : St) (H : Heap) (locs : List Loc), wj_Cw_worldWith_22 y Post a0 s_j22 → va_P D CL (ws g ad y s_j22) H → va_D A (ws g ad y s_j22) → va_S A s.heap H locs → ∀ ls, lv_has ls 4 [] → W p l e ru_Cw_worldWith s m args below meth c H locs 0 0 Q (F0 m 22 ls []) := by
      intro s_j22 H locs h hP hD hS ls hl
      unfold wj_Cw_worldWith_22 at h
      refine lv_null G.1 G.2.1 d_Cw_worldWith_22 ?_
      refine lv_goto (tgt := 27) G.1 G.2.1 d_Cw_worldWith_23 (by decide) ?_
      exact J_27 s_j22 none H locs h hP hD hS ls (lv_sub hl [] rfl)
    refine lv_ifnullN (tgt := 22) G.1 G.2.1 d_Cw_worldWith_7 (by decide) ?_
    exact J_22 s_2 H locs h hP hD hS ls (lv_sub hl [] rfl)
  · skip
    obtain ⟨c_r_1b, h⟩ := h.2 _ rfl
    show W p l e ru_Cw_worldWith s m args below meth c H locs 0 0 Q (F0 m 5 ls [.ref (ad r_1b)])
    refine lv_astore_n (lv' := [(3, .ref (ad r_1b)), (0, .ref (ad a0)), (1, .int v1), (2, .int v2)]) G.1 G.2.1 d_Cw_worldWith_5 rfl hl (by decide) rfl (fun ls hl => ?_)
    refine lv_aload_n G.1 G.2.1 d_Cw_worldWith_6 rfl (lv_at hl 0 rfl) ?_
    have J_27 : ∀ (s_j27 : St) (z0j27 : Option Nat) (H : Heap) (locs : List Loc), wj_Cw_worldWith_27 y Post a0 s_j27 z0j27 → va_P D CL (ws g ad y s_j27) H → va_D A (ws g ad y s_j27) → va_S A s.heap H locs → ∀ ls, lv_has ls 4 [] → W p l e ru_Cw_worldWith s m args below meth c H locs 0 0 Q (F0 m 27 ls [va_rf (Option.map ad z0j27)]) := by
      intro s_j27 z0j27 H locs h hP hD hS ls hl
      unfold wj_Cw_worldWith_27 at h
      rcases z0j27 with _ | z0j27b
      · skip
        have h := h.1 rfl
        have hl : lv_has ls 4 [] := hl
        show W p l e ru_Cw_worldWith s m args below meth c H locs 0 0 Q (F0 m 27 ls [.null])
        exact hret (none) _ _ _ _ _ _ ls ⟨none, rfl, h⟩ hP hD hS (Nat.le_refl _) (Nat.le_refl _) d_Cw_worldWith_27
      · skip
        obtain ⟨c_z0j27b, h⟩ := h.2 _ rfl
        have hl : lv_has ls 4 [] := hl
        show W p l e ru_Cw_worldWith s m args below meth c H locs 0 0 Q (F0 m 27 ls [.ref (ad z0j27b)])
        exact hret (some (ad z0j27b)) _ _ _ _ _ _ ls ⟨some z0j27b, rfl, h⟩ hP hD hS (Nat.le_refl _) (Nat.le_refl _) d_Cw_worldWith_27
    have J_22 : ∀ (s_j22 : St) (H : Heap) (locs : List Loc), wj_Cw_worldWith_22 y Post a0 s_j22 → va_P D CL (ws g ad y s_j22) H → va_D A (ws g ad y s_j22) → va_S A s.heap H locs → ∀ ls, lv_has ls 4 [] → W p l e ru_Cw_worldWith s m args below meth c H locs 0 0 Q (F0 m 22 ls []) := by
      intro s_j22 H locs h hP hD hS ls hl
      unfold wj_Cw_worldWith_22 at h
      refine lv_null G.1 G.2.1 d_Cw_worldWith_22 ?_
      refine lv_goto (tgt := 27) G.1 G.2.1 d_Cw_worldWith_23 (by decide) ?_
      exact J_27 s_j22 none H locs h hP hD hS ls (lv_sub hl [] rfl)
    refine lv_ifnull G.1 G.2.1 d_Cw_worldWith_7 ?_
    refine lv_iload_n G.1 G.2.1 d_Cw_worldWith_10 rfl (lv_at hl 3 rfl) ?_
    refine lv_if_lt (tgt := 22) G.1 G.2.1 d_Cw_worldWith_11 (by decide) (fun c11 => ?_) (fun c11 => ?_)
    · skip
      have h := h.1 c11
      exact J_22 s_2 H locs h hP hD hS ls (lv_sub hl [] rfl)
    · skip
      have h := h.2 c11
      refine lv_iload_n G.1 G.2.1 d_Cw_worldWith_14 rfl (lv_at hl 3 rfl) ?_
      refine lv_aload_n G.1 G.2.1 d_Cw_worldWith_15 rfl (lv_at hl 0 rfl) ?_
      refine ugf (v := .int (sV s_2 r_1b 2)) G hP c_r_1b iWd rfl 2 (by decide) rfl q819 rfl rfl d_Cw_worldWith_16 ?_
      refine W.eq (g2 := F0 m 19 ls [.int (sV s_2 r_1b 2), .int v2]) rfl ?_
      refine lv_icmp_lt (tgt := 26) G.1 G.2.1 d_Cw_worldWith_19 (by decide) (fun c19 => ?_) (fun c19 => ?_)
      · skip
        have h := h.1 c19
        refine lv_aload_n G.1 G.2.1 d_Cw_worldWith_26 rfl (lv_at hl 0 rfl) ?_
        exact J_27 s_2 (some r_1b) H locs h hP hD hS ls (lv_sub hl [] rfl)
      · skip
        have h := h.2 c19
        exact J_22 s_2 H locs h hP hD hS ls (lv_sub hl [] rfl)
def y_Wd_toldParent : MethodName := ⟨"ClassWorks$World", "toldParent", "(I)I"⟩
abbrev b_Wd_toldParent : ByteArray := prog_11_method_10_code
theorem d_Wd_toldParent_0 : decode b_Wd_toldParent 0 = .ok (.aload_n 0, 1) := by decide +kernel
theorem d_Wd_toldParent_1 : decode b_Wd_toldParent 1 = .ok (.getfield 28, 3) := by decide +kernel
theorem d_Wd_toldParent_4 : decode b_Wd_toldParent 4 = .ok (.iload_n 1, 1) := by decide +kernel
theorem d_Wd_toldParent_5 : decode b_Wd_toldParent 5 = .ok (.bipush 19, 2) := by decide +kernel
theorem d_Wd_toldParent_7 : decode b_Wd_toldParent 7 = .ok (.imul, 1) := by decide +kernel
theorem d_Wd_toldParent_8 : decode b_Wd_toldParent 8 = .ok (.iconst 2, 1) := by decide +kernel
theorem d_Wd_toldParent_9 : decode b_Wd_toldParent 9 = .ok (.iadd, 1) := by decide +kernel
theorem d_Wd_toldParent_10 : decode b_Wd_toldParent 10 = .ok (.iaload, 1) := by decide +kernel
theorem d_Wd_toldParent_11 : decode b_Wd_toldParent 11 = .ok (.istore_n 2, 1) := by decide +kernel
theorem d_Wd_toldParent_12 : decode b_Wd_toldParent 12 = .ok (.iload_n 2, 1) := by decide +kernel
theorem d_Wd_toldParent_13 : decode b_Wd_toldParent 13 = .ok (.ifCond .lt 28, 3) := by decide +kernel
theorem d_Wd_toldParent_16 : decode b_Wd_toldParent 16 = .ok (.iload_n 2, 1) := by decide +kernel
theorem d_Wd_toldParent_17 : decode b_Wd_toldParent 17 = .ok (.aload_n 0, 1) := by decide +kernel
theorem d_Wd_toldParent_18 : decode b_Wd_toldParent 18 = .ok (.getfield 60, 3) := by decide +kernel
theorem d_Wd_toldParent_21 : decode b_Wd_toldParent 21 = .ok (.getfield 91, 3) := by decide +kernel
theorem d_Wd_toldParent_24 : decode b_Wd_toldParent 24 = .ok (.if_icmp .ge 17, 3) := by decide +kernel
theorem d_Wd_toldParent_27 : decode b_Wd_toldParent 27 = .ok (.aload_n 0, 1) := by decide +kernel
theorem d_Wd_toldParent_28 : decode b_Wd_toldParent 28 = .ok (.getfield 60, 3) := by decide +kernel
theorem d_Wd_toldParent_31 : decode b_Wd_toldParent 31 = .ok (.getfield 98, 3) := by decide +kernel
theorem d_Wd_toldParent_34 : decode b_Wd_toldParent 34 = .ok (.iload_n 2, 1) := by decide +kernel
theorem d_Wd_toldParent_35 : decode b_Wd_toldParent 35 = .ok (.iaload, 1) := by decide +kernel
theorem d_Wd_toldParent_36 : decode b_Wd_toldParent 36 = .ok (.iconst 1, 1) := by decide +kernel
theorem d_Wd_toldParent_37 : decode b_Wd_toldParent 37 = .ok (.isub, 1) := by decide +kernel
theorem d_Wd_toldParent_38 : decode b_Wd_toldParent 38 = .ok (.goto 4, 3) := by decide +kernel
theorem d_Wd_toldParent_41 : decode b_Wd_toldParent 41 = .ok (.iconst (-1), 1) := by decide +kernel
theorem d_Wd_toldParent_42 : decode b_Wd_toldParent 42 = .ok (.ireturn, 1) := by decide +kernel
abbrev ru_Wd_toldParent : Room := { frames := 0, cells := 0, slots := 0, locals := 0 }
def wj_Wd_toldParent_42 (y : Ly) (Post : St → Int32 → Prop) (a0 : Nat) (s_j42 : St) (z0j42 : Int32) : Prop := Post s_j42 z0j42
def wj_Wd_toldParent_41 (y : Ly) (Post : St → Int32 → Prop) (a0 : Nat) (s_j41 : St) : Prop := wj_Wd_toldParent_42 y Post a0 s_j41 (-1)
def wu_Wd_toldParent (y : Ly) (Post : St → Int32 → Prop) (σ : St) (a0 : Nat) (v1 : Int32) : Prop := xA y σ a0 6 ((v1 * 19) + 2) (fun x_1 : Int32 => ((x_1 < 0 → wj_Wd_toldParent_41 y Post a0 σ) ∧ (¬ (x_1 < 0) → (((sV σ (lk a0 14) 1) ≤ x_1 → wj_Wd_toldParent_41 y Post a0 σ) ∧ (¬ ((sV σ (lk a0 14) 1) ≤ x_1) → xA y σ (lk a0 14) 0 x_1 (fun x_2 : Int32 => wj_Wd_toldParent_42 y Post a0 σ (x_2 - 1)))))))
set_option maxHeartbeats 4000000 in
set_option maxRecDepth 100000 in
theorem cu_Wd_toldParent (l : Launch) (D : va_G) (g : Nat → ClassId) (ad : Nat → Nat) (y : Ly) (Post : St → Int32 → Prop) (σ : St) (a0 : Nat) (v1 : Int32) (sz : Nat) (h_a0 : cl a0 = 9) (h : wu_Wd_toldParent y Post σ a0 v1) : Met l y_Wd_toldParent (mw y_Wd_toldParent b_Wd_toldParent 3 (some .int)) ru_Wd_toldParent (PC g D [] [.ref (ad a0), .int v1] sz (ws g ad y σ)) (va_Qi (fun (r : Int32) (u : St) => Post u r) (QW D (va_A (ws g ad y σ) sz) (fun u => ws g ad y u)) (va_A (ws g ad y σ) sz)) 0 0 (va_A (ws g ad y σ) sz) := by
  refine ofI (by decide +kernel) (Nat.le_of_ble_eq_true rfl) ?_
  intro p e s m args below meth c A Q ls H locs G hsz hP hD hS hl hret
  subst hsz
  have hl : lv_has ls 3 [(0, .ref (ad a0)), (1, .int v1)] := hl
  unfold wu_Wd_toldParent at h
  refine lv_aload_n G.1 G.2.1 d_Wd_toldParent_0 rfl (lv_at hl 0 rfl) ?_
  refine ugf (v := .ref (yP y a0 6)) G hP h_a0 iWd rfl 6 (by decide) rfl q831 rfl rfl d_Wd_toldParent_1 ?_
  refine lv_iload_n G.1 G.2.1 d_Wd_toldParent_4 rfl (lv_at hl 1 rfl) ?_
  refine lv_bipush (v := 19) G.1 G.2.1 d_Wd_toldParent_5 (by decide) ?_
  refine lv_imul G.1 G.2.1 d_Wd_toldParent_7 ?_
  refine lv_iconst (v := 2) G.1 G.2.1 d_Wd_toldParent_8 (by decide) ?_
  refine lv_iadd G.1 G.2.1 d_Wd_toldParent_9 ?_
  refine uiald G hP (kdp h_a0 rfl) (typ h_a0 rfl) h d_Wd_toldParent_10 (fun x_1 h => ?_)
  refine lv_istore_n (lv' := [(2, .int x_1), (0, .ref (ad a0)), (1, .int v1)]) G.1 G.2.1 d_Wd_toldParent_11 rfl hl (by decide) rfl (fun ls hl => ?_)
  refine lv_iload_n G.1 G.2.1 d_Wd_toldParent_12 rfl (lv_at hl 0 rfl) ?_
  have J_42 : ∀ (s_j42 : St) (z0j42 : Int32) (H : Heap) (locs : List Loc), wj_Wd_toldParent_42 y Post a0 s_j42 z0j42 → va_P D CL (ws g ad y s_j42) H → va_D A (ws g ad y s_j42) → va_S A s.heap H locs → ∀ ls, lv_has ls 3 [] → W p l e ru_Wd_toldParent s m args below meth c H locs 0 0 Q (F0 m 42 ls [.int z0j42]) := by
    intro s_j42 z0j42 H locs h hP hD hS ls hl
    unfold wj_Wd_toldParent_42 at h
    exact hret _ _ _ _ _ _ _ ls h hP hD hS (Nat.le_refl _) (Nat.le_refl _) d_Wd_toldParent_42
  have J_41 : ∀ (s_j41 : St) (H : Heap) (locs : List Loc), wj_Wd_toldParent_41 y Post a0 s_j41 → va_P D CL (ws g ad y s_j41) H → va_D A (ws g ad y s_j41) → va_S A s.heap H locs → ∀ ls, lv_has ls 3 [] → W p l e ru_Wd_toldParent s m args below meth c H locs 0 0 Q (F0 m 41 ls []) := by
    intro s_j41 H locs h hP hD hS ls hl
    unfold wj_Wd_toldParent_41 at h
    refine lv_iconst (v := (-1)) G.1 G.2.1 d_Wd_toldParent_41 (by decide) ?_
    exact J_42 s_j41 (-1) H locs h hP hD hS ls (lv_sub hl [] rfl)
  refine lv_if_lt (tgt := 41) G.1 G.2.1 d_Wd_toldParent_13 (by decide) (fun c13 => ?_) (fun c13 => ?_)
  · skip
    have h := h.1 c13
    exact J_41 σ H locs h hP hD hS ls (lv_sub hl [] rfl)
  · skip
    have h := h.2 c13
    refine W.eq (g2 := F0 m 16 ls []) rfl ?_
    refine lv_iload_n G.1 G.2.1 d_Wd_toldParent_16 rfl (lv_at hl 0 rfl) ?_
    refine lv_aload_n G.1 G.2.1 d_Wd_toldParent_17 rfl (lv_at hl 1 rfl) ?_
    refine ugf (v := .ref (ad (lk a0 14))) G hP h_a0 iWd rfl 14 (by decide) rfl q860 rfl rfl d_Wd_toldParent_18 ?_
    refine ugf (v := .int (sV σ (lk a0 14) 1)) G hP (lk_9_14 h_a0) iIn rfl 1 (by decide) rfl q391 rfl rfl d_Wd_toldParent_21 ?_
    refine lv_icmp_ge (tgt := 41) G.1 G.2.1 d_Wd_toldParent_24 (by decide) (fun c24 => ?_) (fun c24 => ?_)
    · skip
      have h := h.1 c24
      exact J_41 σ H locs h hP hD hS ls (lv_sub hl [] rfl)
    · skip
      have h := h.2 c24
      refine lv_aload_n G.1 G.2.1 d_Wd_toldParent_27 rfl (lv_at hl 1 rfl) ?_
      refine ugf (v := .ref (ad (lk a0 14))) G hP h_a0 iWd rfl 14 (by decide) rfl q860 rfl rfl d_Wd_toldParent_28 ?_
      refine ugf (v := .ref (yP y (lk a0 14) 0)) G hP (lk_9_14 h_a0) iIn rfl 0 (by decide) rfl q384 rfl rfl d_Wd_toldParent_31 ?_
      refine lv_iload_n G.1 G.2.1 d_Wd_toldParent_34 rfl (lv_at hl 0 rfl) ?_
      refine uiald G hP (kdp (lk_9_14 h_a0) rfl) (typ (lk_9_14 h_a0) rfl) h d_Wd_toldParent_35 (fun x_2 h => ?_)
      refine lv_iconst (v := 1) G.1 G.2.1 d_Wd_toldParent_36 (by decide) ?_
      refine lv_isub G.1 G.2.1 d_Wd_toldParent_37 ?_
      refine W.eq (g2 := F0 m 38 ls [.int (x_2 - 1)]) rfl ?_
      refine lv_goto (tgt := 42) G.1 G.2.1 d_Wd_toldParent_38 (by decide) ?_
      exact J_42 σ (x_2 - 1) H locs h hP hD hS ls (lv_sub hl [] rfl)
theorem q1489 : Cond.methodLink "ClassWorks" 162 y_Wd_toldParent ∈ lw_ok := lw_okmem (List.mem_of_getElem? (i := 1489) (by decide +kernel)) rfl
theorem q1492 : Cond.code y_Wd_toldParent b_Wd_toldParent 3 (some .int) ∈ lw_ok := lw_okmem (List.mem_of_getElem? (i := 1492) (by decide +kernel)) rfl
theorem q1490 : Cond.instanceMethod y_Wd_toldParent ∈ lw_ok := lw_okmem (List.mem_of_getElem? (i := 1490) (by decide +kernel)) rfl
theorem q1491 : Cond.selects y_Wd_toldParent.cls y_Wd_toldParent y_Wd_toldParent ∈ lw_ok := lw_okmem (List.mem_of_getElem? (i := 1491) (by decide +kernel)) rfl
theorem w9_Wd_toldParent : CWv y_Wd_toldParent b_Wd_toldParent 3 (some .int) 1 ∧ Cond.instanceMethod y_Wd_toldParent ∈ lw_ok ∧ Cond.selects y_Wd_toldParent.cls y_Wd_toldParent y_Wd_toldParent ∈ lw_ok := ⟨⟨q1492, q345, by decide +kernel, by decide +kernel, by decide +kernel⟩, q1490, q1491⟩
def y_Cw_toldParent : MethodName := ⟨"ClassWorks", "toldParent", "(LClassWorks$World;I)I"⟩
abbrev b_Cw_toldParent : ByteArray := prog_1_method_14_code
theorem d_Cw_toldParent_0 : decode b_Cw_toldParent 0 = .ok (.aload_n 1, 1) := by decide +kernel
theorem d_Cw_toldParent_1 : decode b_Cw_toldParent 1 = .ok (.iload_n 2, 1) := by decide +kernel
theorem d_Cw_toldParent_2 : decode b_Cw_toldParent 2 = .ok (.invokevirtual 162, 3) := by decide +kernel
theorem d_Cw_toldParent_5 : decode b_Cw_toldParent 5 = .ok (.istore_n 3, 1) := by decide +kernel
theorem d_Cw_toldParent_6 : decode b_Cw_toldParent 6 = .ok (.iload_n 3, 1) := by decide +kernel
theorem d_Cw_toldParent_7 : decode b_Cw_toldParent 7 = .ok (.ifCond .ge 8, 3) := by decide +kernel
theorem d_Cw_toldParent_10 : decode b_Cw_toldParent 10 = .ok (.bipush (-2), 2) := by decide +kernel
theorem d_Cw_toldParent_12 : decode b_Cw_toldParent 12 = .ok (.goto 4, 3) := by decide +kernel
theorem d_Cw_toldParent_15 : decode b_Cw_toldParent 15 = .ok (.iload_n 3, 1) := by decide +kernel
theorem d_Cw_toldParent_16 : decode b_Cw_toldParent 16 = .ok (.ireturn, 1) := by decide +kernel
abbrev ru_Cw_toldParent : Room := { frames := 1, cells := 0, slots := 0, locals := 22 }
def wj_Cw_toldParent_16 (y : Ly) (Post : St → Int32 → Prop) (a0 : Nat) (a1 : Nat) (s_j16 : St) (z0j16 : Int32) : Prop := Post s_j16 z0j16
def wu_Cw_toldParent (y : Ly) (Post : St → Int32 → Prop) (σ : St) (a0 : Nat) (a1 : Nat) (v2 : Int32) : Prop := wu_Wd_toldParent y (fun (s_2 : St) (r_1 : Int32) => ((0 ≤ r_1 → wj_Cw_toldParent_16 y Post a0 a1 s_2 r_1) ∧ (¬ (0 ≤ r_1) → wj_Cw_toldParent_16 y Post a0 a1 s_2 (-2)))) σ a1 v2
set_option maxHeartbeats 4000000 in
set_option maxRecDepth 100000 in
theorem cu_Cw_toldParent (l : Launch) (D : va_G) (g : Nat → ClassId) (ad : Nat → Nat) (y : Ly) (Post : St → Int32 → Prop) (σ : St) (a0 : Nat) (a1 : Nat) (v2 : Int32) (sz : Nat) (h_a0 : cl a0 = 11) (h_a1 : cl a1 = 9) (h : wu_Cw_toldParent y Post σ a0 a1 v2) : Met l y_Cw_toldParent (mw y_Cw_toldParent b_Cw_toldParent 4 (some .int)) ru_Cw_toldParent (PC g D [] [.ref (ad a0), .ref (ad a1), .int v2] sz (ws g ad y σ)) (va_Qi (fun (r : Int32) (u : St) => Post u r) (QW D (va_A (ws g ad y σ) sz) (fun u => ws g ad y u)) (va_A (ws g ad y σ) sz)) 0 0 (va_A (ws g ad y σ) sz) := by
  refine ofI (by decide +kernel) (Nat.le_of_ble_eq_true rfl) ?_
  intro p e s m args below meth c A Q ls H locs G hsz hP hD hS hl hret
  subst hsz
  have hl : lv_has ls 4 [(0, .ref (ad a0)), (1, .ref (ad a1)), (2, .int v2)] := hl
  unfold wu_Cw_toldParent at h
  refine lv_aload_n G.1 G.2.1 d_Cw_toldParent_0 rfl (lv_at hl 1 rfl) ?_
  refine lv_iload_n G.1 G.2.1 d_Cw_toldParent_1 rfl (lv_at hl 2 rfl) ?_
  refine ucVi (As := [.int v2]) (rest := []) G hP hD hS (cu_Wd_toldParent l D g ad y _ σ a1 v2 H.size h_a1 h) w9_Wd_toldParent q1489 ⟨Nat.le_of_ble_eq_true rfl, Nat.le_of_ble_eq_true rfl⟩ rfl rfl h_a1 (q := (RWd, TWd, 17)) rfl rfl hl.1 rfl (Nat.le_of_ble_eq_true rfl) rfl ⟨Nat.le_refl _, Nat.le_refl _⟩ d_Cw_toldParent_2 (fun r_1 s_2 H locs h hP hD hS => ?_)
  refine lv_istore_n (lv' := [(3, .int r_1), (0, .ref (ad a0)), (1, .ref (ad a1)), (2, .int v2)]) G.1 G.2.1 d_Cw_toldParent_5 rfl hl (by decide) rfl (fun ls hl => ?_)
  refine lv_iload_n G.1 G.2.1 d_Cw_toldParent_6 rfl (lv_at hl 0 rfl) ?_
  have J_16 : ∀ (s_j16 : St) (z0j16 : Int32) (H : Heap) (locs : List Loc), wj_Cw_toldParent_16 y Post a0 a1 s_j16 z0j16 → va_P D CL (ws g ad y s_j16) H → va_D A (ws g ad y s_j16) → va_S A s.heap H locs → ∀ ls, lv_has ls 4 [] → W p l e ru_Cw_toldParent s m args below meth c H locs 0 0 Q (F0 m 16 ls [.int z0j16]) := by
    intro s_j16 z0j16 H locs h hP hD hS ls hl
    unfold wj_Cw_toldParent_16 at h
    exact hret _ _ _ _ _ _ _ ls h hP hD hS (Nat.le_refl _) (Nat.le_refl _) d_Cw_toldParent_16
  refine lv_if_ge (tgt := 15) G.1 G.2.1 d_Cw_toldParent_7 (by decide) (fun c7 => ?_) (fun c7 => ?_)
  · skip
    have h := h.1 c7
    refine lv_iload_n G.1 G.2.1 d_Cw_toldParent_15 rfl (lv_at hl 0 rfl) ?_
    exact J_16 s_2 r_1 H locs h hP hD hS ls (lv_sub hl [] rfl)
  · skip
    have h := h.2 c7
    refine lv_bipush (v := (-2)) G.1 G.2.1 d_Cw_toldParent_10 (by decide) ?_
    refine lv_goto (tgt := 16) G.1 G.2.1 d_Cw_toldParent_12 (by decide) ?_
    exact J_16 s_2 (-2) H locs h hP hD hS ls (lv_sub hl [] rfl)
theorem q1481 : Cond.methodLink "ClassWorks" 150 y_Cw_worldWith ∈ lw_ok := lw_okmem (List.mem_of_getElem? (i := 1481) (by decide +kernel)) rfl
theorem q1484 : Cond.code y_Cw_worldWith b_Cw_worldWith 4 (some ((.object "ClassWorks$World"))) ∈ lw_ok := lw_okmem (List.mem_of_getElem? (i := 1484) (by decide +kernel)) rfl
theorem q1483 : Cond.instanceMethod y_Cw_worldWith ∈ lw_ok := lw_okmem (List.mem_of_getElem? (i := 1483) (by decide +kernel)) rfl
theorem q44 : Cond.selects y_Cw_worldWith.cls y_Cw_worldWith y_Cw_worldWith ∈ lw_ok := lw_okmem (List.mem_of_getElem? (i := 44) (by decide +kernel)) rfl
theorem w9_Cw_worldWith : CWv y_Cw_worldWith b_Cw_worldWith 4 (some ((.object "ClassWorks$World"))) 2 ∧ Cond.instanceMethod y_Cw_worldWith ∈ lw_ok ∧ Cond.selects y_Cw_worldWith.cls y_Cw_worldWith y_Cw_worldWith ∈ lw_ok := ⟨⟨q1484, q329, by decide +kernel, by decide +kernel, by decide +kernel⟩, q1483, q44⟩
theorem q1485 : Cond.methodLink "ClassWorks" 154 y_Cw_toldParent ∈ lw_ok := lw_okmem (List.mem_of_getElem? (i := 1485) (by decide +kernel)) rfl
theorem q1488 : Cond.code y_Cw_toldParent b_Cw_toldParent 4 (some .int) ∈ lw_ok := lw_okmem (List.mem_of_getElem? (i := 1488) (by decide +kernel)) rfl
theorem q1487 : Cond.instanceMethod y_Cw_toldParent ∈ lw_ok := lw_okmem (List.mem_of_getElem? (i := 1487) (by decide +kernel)) rfl
theorem q45 : Cond.selects y_Cw_toldParent.cls y_Cw_toldParent y_Cw_toldParent ∈ lw_ok := lw_okmem (List.mem_of_getElem? (i := 45) (by decide +kernel)) rfl
theorem w9_Cw_toldParent : CWv y_Cw_toldParent b_Cw_toldParent 4 (some .int) 2 ∧ Cond.instanceMethod y_Cw_toldParent ∈ lw_ok ∧ Cond.selects y_Cw_toldParent.cls y_Cw_toldParent y_Cw_toldParent ∈ lw_ok := ⟨⟨q1488, q329, by decide +kernel, by decide +kernel, by decide +kernel⟩, q1487, q45⟩
def y_Cw_told : MethodName := ⟨"ClassWorks", "told", "(III)I"⟩
abbrev b_Cw_told : ByteArray := prog_1_method_13_code
theorem q1493 : Cond.methodLink "ClassWorks" 158 y_Wd_of ∈ lw_ok := lw_okmem (List.mem_of_getElem? (i := 1493) (by decide +kernel)) rfl
theorem d_Cw_told_0 : decode b_Cw_told 0 = .ok (.aload_n 0, 1) := by decide +kernel
theorem d_Cw_told_1 : decode b_Cw_told 1 = .ok (.iload_n 1, 1) := by decide +kernel
theorem d_Cw_told_2 : decode b_Cw_told 2 = .ok (.iload_n 2, 1) := by decide +kernel
theorem d_Cw_told_3 : decode b_Cw_told 3 = .ok (.invokevirtual 150, 3) := by decide +kernel
theorem d_Cw_told_6 : decode b_Cw_told 6 = .ok (.astore 4, 2) := by decide +kernel
theorem d_Cw_told_8 : decode b_Cw_told 8 = .ok (.aload 4, 2) := by decide +kernel
theorem d_Cw_told_10 : decode b_Cw_told 10 = .ok (.ifnonnull 5, 3) := by decide +kernel
theorem d_Cw_told_13 : decode b_Cw_told 13 = .ok (.iconst (-1), 1) := by decide +kernel
theorem d_Cw_told_14 : decode b_Cw_told 14 = .ok (.ireturn, 1) := by decide +kernel
theorem d_Cw_told_15 : decode b_Cw_told 15 = .ok (.iload_n 3, 1) := by decide +kernel
theorem d_Cw_told_16 : decode b_Cw_told 16 = .ok (.tableswitch 104 0 6 #[44, 52, 60, 69, 78, 86, 95], 44) := by decide +kernel
theorem d_Cw_told_60 : decode b_Cw_told 60 = .ok (.aload_n 0, 1) := by decide +kernel
theorem d_Cw_told_61 : decode b_Cw_told 61 = .ok (.aload 4, 2) := by decide +kernel
theorem d_Cw_told_63 : decode b_Cw_told 63 = .ok (.iload_n 2, 1) := by decide +kernel
theorem d_Cw_told_64 : decode b_Cw_told 64 = .ok (.invokevirtual 154, 3) := by decide +kernel
theorem d_Cw_told_67 : decode b_Cw_told 67 = .ok (.ireturn, 1) := by decide +kernel
theorem d_Cw_told_68 : decode b_Cw_told 68 = .ok (.aload 4, 2) := by decide +kernel
theorem d_Cw_told_70 : decode b_Cw_told 70 = .ok (.iload_n 2, 1) := by decide +kernel
theorem d_Cw_told_71 : decode b_Cw_told 71 = .ok (.iconst 3, 1) := by decide +kernel
theorem d_Cw_told_72 : decode b_Cw_told 72 = .ok (.invokevirtual 158, 3) := by decide +kernel
theorem d_Cw_told_75 : decode b_Cw_told 75 = .ok (.ireturn, 1) := by decide +kernel
theorem d_Cw_told_76 : decode b_Cw_told 76 = .ok (.aload 4, 2) := by decide +kernel
theorem d_Cw_told_78 : decode b_Cw_told 78 = .ok (.iload_n 2, 1) := by decide +kernel
theorem d_Cw_told_79 : decode b_Cw_told 79 = .ok (.bipush 9, 2) := by decide +kernel
theorem d_Cw_told_81 : decode b_Cw_told 81 = .ok (.invokevirtual 158, 3) := by decide +kernel
theorem d_Cw_told_84 : decode b_Cw_told 84 = .ok (.ireturn, 1) := by decide +kernel
theorem d_Cw_told_85 : decode b_Cw_told 85 = .ok (.aload 4, 2) := by decide +kernel
theorem d_Cw_told_87 : decode b_Cw_told 87 = .ok (.iload_n 2, 1) := by decide +kernel
theorem d_Cw_told_88 : decode b_Cw_told 88 = .ok (.bipush 11, 2) := by decide +kernel
theorem d_Cw_told_90 : decode b_Cw_told 90 = .ok (.invokevirtual 158, 3) := by decide +kernel
theorem d_Cw_told_93 : decode b_Cw_told 93 = .ok (.ireturn, 1) := by decide +kernel
theorem d_Cw_told_94 : decode b_Cw_told 94 = .ok (.aload 4, 2) := by decide +kernel
theorem d_Cw_told_96 : decode b_Cw_told 96 = .ok (.iload_n 2, 1) := by decide +kernel
theorem d_Cw_told_97 : decode b_Cw_told 97 = .ok (.iconst 1, 1) := by decide +kernel
theorem d_Cw_told_98 : decode b_Cw_told 98 = .ok (.invokevirtual 158, 3) := by decide +kernel
theorem d_Cw_told_101 : decode b_Cw_told 101 = .ok (.ireturn, 1) := by decide +kernel
theorem d_Cw_told_102 : decode b_Cw_told 102 = .ok (.aload 4, 2) := by decide +kernel
theorem d_Cw_told_104 : decode b_Cw_told 104 = .ok (.iload_n 2, 1) := by decide +kernel
theorem d_Cw_told_105 : decode b_Cw_told 105 = .ok (.bipush 13, 2) := by decide +kernel
theorem d_Cw_told_107 : decode b_Cw_told 107 = .ok (.invokevirtual 158, 3) := by decide +kernel
theorem d_Cw_told_110 : decode b_Cw_told 110 = .ok (.ireturn, 1) := by decide +kernel
theorem d_Cw_told_111 : decode b_Cw_told 111 = .ok (.aload 4, 2) := by decide +kernel
theorem d_Cw_told_113 : decode b_Cw_told 113 = .ok (.iload_n 2, 1) := by decide +kernel
theorem d_Cw_told_114 : decode b_Cw_told 114 = .ok (.bipush 12, 2) := by decide +kernel
theorem d_Cw_told_116 : decode b_Cw_told 116 = .ok (.invokevirtual 158, 3) := by decide +kernel
theorem d_Cw_told_119 : decode b_Cw_told 119 = .ok (.ireturn, 1) := by decide +kernel
theorem d_Cw_told_120 : decode b_Cw_told 120 = .ok (.iconst (-1), 1) := by decide +kernel
theorem d_Cw_told_121 : decode b_Cw_told 121 = .ok (.ireturn, 1) := by decide +kernel
abbrev ru_Cw_told : Room := { frames := 3, cells := 0, slots := 0, locals := 66 }
def wu_Cw_told (y : Ly) (Post : St → Int32 → Prop) (σ : St) (a0 : Nat) (v1 : Int32) (v2 : Int32) (v3 : Int32) : Prop := wu_Cw_worldWith y (fun (s_2 : St) (r_1 : Option Nat) => ((r_1 = none → Post s_2 (-1)) ∧ (∀ r_1b : Nat, r_1 = some r_1b → (cl r_1b = 9 ∧ ((v3 = 0 → wu_Cw_toldParent y (fun (s_4 : St) (r_3 : Int32) => Post s_4 r_3) s_2 a0 r_1b v2) ∧ (¬ (v3 = 0) → ((v3 = 1 → wu_Wd_of y (fun (s_6 : St) (r_5 : Int32) => Post s_6 r_5) s_2 r_1b v2 3) ∧ (¬ (v3 = 1) → ((v3 = 2 → wu_Wd_of y (fun (s_8 : St) (r_7 : Int32) => Post s_8 r_7) s_2 r_1b v2 9) ∧ (¬ (v3 = 2) → ((v3 = 3 → wu_Wd_of y (fun (s_10 : St) (r_9 : Int32) => Post s_10 r_9) s_2 r_1b v2 11) ∧ (¬ (v3 = 3) → ((v3 = 4 → wu_Wd_of y (fun (s_12 : St) (r_11 : Int32) => Post s_12 r_11) s_2 r_1b v2 1) ∧ (¬ (v3 = 4) → ((v3 = 5 → wu_Wd_of y (fun (s_14 : St) (r_13 : Int32) => Post s_14 r_13) s_2 r_1b v2 13) ∧ (¬ (v3 = 5) → ((v3 = 6 → wu_Wd_of y (fun (s_16 : St) (r_15 : Int32) => Post s_16 r_15) s_2 r_1b v2 12) ∧ (¬ (v3 = 6) → Post s_2 (-1))))))))))))))))))) σ a0 v1 v2
set_option maxHeartbeats 4000000 in
set_option maxRecDepth 100000 in
theorem cu_Cw_told (l : Launch) (D : va_G) (g : Nat → ClassId) (ad : Nat → Nat) (y : Ly) (Post : St → Int32 → Prop) (σ : St) (a0 : Nat) (v1 : Int32) (v2 : Int32) (v3 : Int32) (sz : Nat) (h_a0 : cl a0 = 11) (h : wu_Cw_told y Post σ a0 v1 v2 v3) : Met l y_Cw_told (mw y_Cw_told b_Cw_told 5 (some .int)) ru_Cw_told (PC g D [] [.ref (ad a0), .int v1, .int v2, .int v3] sz (ws g ad y σ)) (va_Qi (fun (r : Int32) (u : St) => Post u r) (QW D (va_A (ws g ad y σ) sz) (fun u => ws g ad y u)) (va_A (ws g ad y σ) sz)) 0 0 (va_A (ws g ad y σ) sz) := by
  refine ofI (by decide +kernel) (Nat.le_of_ble_eq_true rfl) ?_
  intro p e s m args below meth c A Q ls H locs G hsz hP hD hS hl hret
  subst hsz
  have hl : lv_has ls 5 [(0, .ref (ad a0)), (1, .int v1), (2, .int v2), (3, .int v3)] := hl
  unfold wu_Cw_told at h
  refine lv_aload_n G.1 G.2.1 d_Cw_told_0 rfl (lv_at hl 0 rfl) ?_
  refine lv_iload_n G.1 G.2.1 d_Cw_told_1 rfl (lv_at hl 1 rfl) ?_
  refine lv_iload_n G.1 G.2.1 d_Cw_told_2 rfl (lv_at hl 2 rfl) ?_
  refine ucVq (As := [.int v1, .int v2]) (rest := []) G hP hD hS (cu_Cw_worldWith l D g ad y _ σ a0 v1 v2 H.size h_a0 h) w9_Cw_worldWith q1481 ⟨Nat.le_of_ble_eq_true rfl, Nat.le_of_ble_eq_true rfl⟩ rfl rfl h_a0 (q := (RCw, TCw, 20)) rfl rfl hl.1 rfl (Nat.le_of_ble_eq_true rfl) rfl ⟨Nat.le_refl _, Nat.le_refl _⟩ d_Cw_told_3 (fun r_1 s_2 H locs h hP hD hS => ?_)
  rcases r_1 with _ | r_1b
  · skip
    have h := h.1 rfl
    show W p l e ru_Cw_told s m args below meth c H locs 0 0 Q (F0 m 6 ls [.null])
    refine lv_astoreN (lv' := [(4, .null), (0, .ref (ad a0)), (1, .int v1), (2, .int v2), (3, .int v3)]) G.1 G.2.1 d_Cw_told_6 hl (by decide) rfl (fun ls hl => ?_)
    refine lv_aloadN G.1 G.2.1 d_Cw_told_8 (lv_at hl 0 rfl) ?_
    refine lv_ifnonnullN G.1 G.2.1 d_Cw_told_10 ?_
    refine lv_iconst (v := (-1)) G.1 G.2.1 d_Cw_told_13 (by decide) ?_
    exact hret _ _ _ _ _ _ _ ls h hP hD hS (Nat.le_refl _) (Nat.le_refl _) d_Cw_told_14
  · skip
    obtain ⟨c_r_1b, h⟩ := h.2 _ rfl
    show W p l e ru_Cw_told s m args below meth c H locs 0 0 Q (F0 m 6 ls [.ref (ad r_1b)])
    refine lv_astore (lv' := [(4, .ref (ad r_1b)), (0, .ref (ad a0)), (1, .int v1), (2, .int v2), (3, .int v3)]) G.1 G.2.1 d_Cw_told_6 hl (by decide) rfl (fun ls hl => ?_)
    refine lv_aload G.1 G.2.1 d_Cw_told_8 (lv_at hl 0 rfl) ?_
    refine lv_ifnonnull (tgt := 15) G.1 G.2.1 d_Cw_told_10 (by decide) ?_
    refine lv_iload_n G.1 G.2.1 d_Cw_told_15 rfl (lv_at hl 4 rfl) ?_
    by_cases e16_0 : v3 = 0
    · skip
      have h := h.1 e16_0
      refine lv_tableIn (off := 44) (tgt := 60) G.1 G.2.1 d_Cw_told_16 (by rw [e16_0]; decide) (by rw [e16_0]; decide) (by rw [e16_0]; rfl) (by decide) ?_
      refine lv_aload_n G.1 G.2.1 d_Cw_told_60 rfl (lv_at hl 1 rfl) ?_
      refine lv_aload G.1 G.2.1 d_Cw_told_61 (lv_at hl 0 rfl) ?_
      refine W.eq (g2 := F0 m 63 ls [.ref (ad r_1b), .ref (ad a0)]) rfl ?_
      refine lv_iload_n G.1 G.2.1 d_Cw_told_63 rfl (lv_at hl 3 rfl) ?_
      refine ucVi (As := [.ref (ad r_1b), .int v2]) (rest := []) G hP hD hS (cu_Cw_toldParent l D g ad y _ s_2 a0 r_1b v2 H.size h_a0 c_r_1b h) w9_Cw_toldParent q1485 ⟨Nat.le_of_ble_eq_true rfl, Nat.le_of_ble_eq_true rfl⟩ rfl rfl h_a0 (q := (RCw, TCw, 20)) rfl rfl hl.1 rfl (Nat.le_of_ble_eq_true rfl) rfl ⟨Nat.le_refl _, Nat.le_refl _⟩ d_Cw_told_64 (fun r_3 s_4 H locs h hP hD hS => ?_)
      exact hret _ _ _ _ _ _ _ ls h hP hD hS (Nat.le_refl _) (Nat.le_refl _) d_Cw_told_67
    replace h := h.2 e16_0
    by_cases e16_1 : v3 = 1
    · skip
      have h := h.1 e16_1
      refine lv_tableIn (off := 52) (tgt := 68) G.1 G.2.1 d_Cw_told_16 (by rw [e16_1]; decide) (by rw [e16_1]; decide) (by rw [e16_1]; rfl) (by decide) ?_
      refine lv_aload G.1 G.2.1 d_Cw_told_68 (lv_at hl 0 rfl) ?_
      refine lv_iload_n G.1 G.2.1 d_Cw_told_70 rfl (lv_at hl 3 rfl) ?_
      refine W.eq (g2 := F0 m 71 ls [.int v2, .ref (ad r_1b)]) rfl ?_
      refine lv_iconst (v := 3) G.1 G.2.1 d_Cw_told_71 (by decide) ?_
      refine ucVi (As := [.int v2, .int 3]) (rest := []) G hP hD hS (cu_Wd_of l D g ad y _ s_2 r_1b v2 3 H.size c_r_1b h) w9_Wd_of q1493 ⟨Nat.le_of_ble_eq_true rfl, Nat.le_of_ble_eq_true rfl⟩ rfl rfl c_r_1b (q := (RWd, TWd, 17)) rfl rfl hl.1 rfl (Nat.le_of_ble_eq_true rfl) rfl ⟨Nat.le_refl _, Nat.le_refl _⟩ d_Cw_told_72 (fun r_5 s_6 H locs h hP hD hS => ?_)
      exact hret _ _ _ _ _ _ _ ls h hP hD hS (Nat.le_refl _) (Nat.le_refl _) d_Cw_told_75
    replace h := h.2 e16_1
    by_cases e16_2 : v3 = 2
    · skip
      have h := h.1 e16_2
      refine lv_tableIn (off := 60) (tgt := 76) G.1 G.2.1 d_Cw_told_16 (by rw [e16_2]; decide) (by rw [e16_2]; decide) (by rw [e16_2]; rfl) (by decide) ?_
      refine lv_aload G.1 G.2.1 d_Cw_told_76 (lv_at hl 0 rfl) ?_
      refine lv_iload_n G.1 G.2.1 d_Cw_told_78 rfl (lv_at hl 3 rfl) ?_
      refine W.eq (g2 := F0 m 79 ls [.int v2, .ref (ad r_1b)]) rfl ?_
      refine lv_bipush (v := 9) G.1 G.2.1 d_Cw_told_79 (by decide) ?_
      refine ucVi (As := [.int v2, .int 9]) (rest := []) G hP hD hS (cu_Wd_of l D g ad y _ s_2 r_1b v2 9 H.size c_r_1b h) w9_Wd_of q1493 ⟨Nat.le_of_ble_eq_true rfl, Nat.le_of_ble_eq_true rfl⟩ rfl rfl c_r_1b (q := (RWd, TWd, 17)) rfl rfl hl.1 rfl (Nat.le_of_ble_eq_true rfl) rfl ⟨Nat.le_refl _, Nat.le_refl _⟩ d_Cw_told_81 (fun r_7 s_8 H locs h hP hD hS => ?_)
      exact hret _ _ _ _ _ _ _ ls h hP hD hS (Nat.le_refl _) (Nat.le_refl _) d_Cw_told_84
    replace h := h.2 e16_2
    by_cases e16_3 : v3 = 3
    · skip
      have h := h.1 e16_3
      refine lv_tableIn (off := 69) (tgt := 85) G.1 G.2.1 d_Cw_told_16 (by rw [e16_3]; decide) (by rw [e16_3]; decide) (by rw [e16_3]; rfl) (by decide) ?_
      refine lv_aload G.1 G.2.1 d_Cw_told_85 (lv_at hl 0 rfl) ?_
      refine lv_iload_n G.1 G.2.1 d_Cw_told_87 rfl (lv_at hl 3 rfl) ?_
      refine W.eq (g2 := F0 m 88 ls [.int v2, .ref (ad r_1b)]) rfl ?_
      refine lv_bipush (v := 11) G.1 G.2.1 d_Cw_told_88 (by decide) ?_
      refine ucVi (As := [.int v2, .int 11]) (rest := []) G hP hD hS (cu_Wd_of l D g ad y _ s_2 r_1b v2 11 H.size c_r_1b h) w9_Wd_of q1493 ⟨Nat.le_of_ble_eq_true rfl, Nat.le_of_ble_eq_true rfl⟩ rfl rfl c_r_1b (q := (RWd, TWd, 17)) rfl rfl hl.1 rfl (Nat.le_of_ble_eq_true rfl) rfl ⟨Nat.le_refl _, Nat.le_refl _⟩ d_Cw_told_90 (fun r_9 s_10 H locs h hP hD hS => ?_)
      exact hret _ _ _ _ _ _ _ ls h hP hD hS (Nat.le_refl _) (Nat.le_refl _) d_Cw_told_93
    replace h := h.2 e16_3
    by_cases e16_4 : v3 = 4
    · skip
      have h := h.1 e16_4
      refine lv_tableIn (off := 78) (tgt := 94) G.1 G.2.1 d_Cw_told_16 (by rw [e16_4]; decide) (by rw [e16_4]; decide) (by rw [e16_4]; rfl) (by decide) ?_
      refine lv_aload G.1 G.2.1 d_Cw_told_94 (lv_at hl 0 rfl) ?_
      refine lv_iload_n G.1 G.2.1 d_Cw_told_96 rfl (lv_at hl 3 rfl) ?_
      refine W.eq (g2 := F0 m 97 ls [.int v2, .ref (ad r_1b)]) rfl ?_
      refine lv_iconst (v := 1) G.1 G.2.1 d_Cw_told_97 (by decide) ?_
      refine ucVi (As := [.int v2, .int 1]) (rest := []) G hP hD hS (cu_Wd_of l D g ad y _ s_2 r_1b v2 1 H.size c_r_1b h) w9_Wd_of q1493 ⟨Nat.le_of_ble_eq_true rfl, Nat.le_of_ble_eq_true rfl⟩ rfl rfl c_r_1b (q := (RWd, TWd, 17)) rfl rfl hl.1 rfl (Nat.le_of_ble_eq_true rfl) rfl ⟨Nat.le_refl _, Nat.le_refl _⟩ d_Cw_told_98 (fun r_11 s_12 H locs h hP hD hS => ?_)
      exact hret _ _ _ _ _ _ _ ls h hP hD hS (Nat.le_refl _) (Nat.le_refl _) d_Cw_told_101
    replace h := h.2 e16_4
    by_cases e16_5 : v3 = 5
    · skip
      have h := h.1 e16_5
      refine lv_tableIn (off := 86) (tgt := 102) G.1 G.2.1 d_Cw_told_16 (by rw [e16_5]; decide) (by rw [e16_5]; decide) (by rw [e16_5]; rfl) (by decide) ?_
      refine lv_aload G.1 G.2.1 d_Cw_told_102 (lv_at hl 0 rfl) ?_
      refine lv_iload_n G.1 G.2.1 d_Cw_told_104 rfl (lv_at hl 3 rfl) ?_
      refine W.eq (g2 := F0 m 105 ls [.int v2, .ref (ad r_1b)]) rfl ?_
      refine lv_bipush (v := 13) G.1 G.2.1 d_Cw_told_105 (by decide) ?_
      refine ucVi (As := [.int v2, .int 13]) (rest := []) G hP hD hS (cu_Wd_of l D g ad y _ s_2 r_1b v2 13 H.size c_r_1b h) w9_Wd_of q1493 ⟨Nat.le_of_ble_eq_true rfl, Nat.le_of_ble_eq_true rfl⟩ rfl rfl c_r_1b (q := (RWd, TWd, 17)) rfl rfl hl.1 rfl (Nat.le_of_ble_eq_true rfl) rfl ⟨Nat.le_refl _, Nat.le_refl _⟩ d_Cw_told_107 (fun r_13 s_14 H locs h hP hD hS => ?_)
      exact hret _ _ _ _ _ _ _ ls h hP hD hS (Nat.le_refl _) (Nat.le_refl _) d_Cw_told_110
    replace h := h.2 e16_5
    by_cases e16_6 : v3 = 6
    · skip
      have h := h.1 e16_6
      refine lv_tableIn (off := 95) (tgt := 111) G.1 G.2.1 d_Cw_told_16 (by rw [e16_6]; decide) (by rw [e16_6]; decide) (by rw [e16_6]; rfl) (by decide) ?_
      refine lv_aload G.1 G.2.1 d_Cw_told_111 (lv_at hl 0 rfl) ?_
      refine lv_iload_n G.1 G.2.1 d_Cw_told_113 rfl (lv_at hl 3 rfl) ?_
      refine W.eq (g2 := F0 m 114 ls [.int v2, .ref (ad r_1b)]) rfl ?_
      refine lv_bipush (v := 12) G.1 G.2.1 d_Cw_told_114 (by decide) ?_
      refine ucVi (As := [.int v2, .int 12]) (rest := []) G hP hD hS (cu_Wd_of l D g ad y _ s_2 r_1b v2 12 H.size c_r_1b h) w9_Wd_of q1493 ⟨Nat.le_of_ble_eq_true rfl, Nat.le_of_ble_eq_true rfl⟩ rfl rfl c_r_1b (q := (RWd, TWd, 17)) rfl rfl hl.1 rfl (Nat.le_of_ble_eq_true rfl) rfl ⟨Nat.le_refl _, Nat.le_refl _⟩ d_Cw_told_116 (fun r_15 s_16 H locs h hP hD hS => ?_)
      exact hret _ _ _ _ _ _ _ ls h hP hD hS (Nat.le_refl _) (Nat.le_refl _) d_Cw_told_119
    replace h := h.2 e16_6
    have te16_0 := lv_neT (a := 0) e16_0 (by decide)
    have te16_1 := lv_neT (a := 1) e16_1 (by decide)
    have te16_2 := lv_neT (a := 2) e16_2 (by decide)
    have te16_3 := lv_neT (a := 3) e16_3 (by decide)
    have te16_4 := lv_neT (a := 4) e16_4 (by decide)
    have te16_5 := lv_neT (a := 5) e16_5 (by decide)
    have te16_6 := lv_neT (a := 6) e16_6 (by decide)
    refine lv_tableOut (tgt := 120) G.1 G.2.1 d_Cw_told_16 (by omega) (by decide) ?_
    refine lv_iconst (v := (-1)) G.1 G.2.1 d_Cw_told_120 (by decide) ?_
    exact hret _ _ _ _ _ _ _ ls h hP hD hS (Nat.le_refl _) (Nat.le_refl _) d_Cw_told_121
def y_Na_length : MethodName := ⟨"ClassWorks$Names", "length", "(I)I"⟩
abbrev b_Na_length : ByteArray := prog_7_method_5_code
theorem d_Na_length_0 : decode b_Na_length 0 = .ok (.aload_n 0, 1) := by decide +kernel
theorem d_Na_length_1 : decode b_Na_length 1 = .ok (.getfield 23, 3) := by decide +kernel
theorem d_Na_length_4 : decode b_Na_length 4 = .ok (.getfield 101, 3) := by decide +kernel
theorem d_Na_length_7 : decode b_Na_length 7 = .ok (.iload_n 1, 1) := by decide +kernel
theorem d_Na_length_8 : decode b_Na_length 8 = .ok (.iaload, 1) := by decide +kernel
theorem d_Na_length_9 : decode b_Na_length 9 = .ok (.ireturn, 1) := by decide +kernel
abbrev ru_Na_length : Room := { frames := 0, cells := 0, slots := 0, locals := 0 }
def wu_Na_length (y : Ly) (Post : St → Int32 → Prop) (σ : St) (a0 : Nat) (v1 : Int32) : Prop := xA y σ (lk a0 2) 0 v1 (fun x_1 : Int32 => Post σ x_1)
set_option maxHeartbeats 4000000 in
set_option maxRecDepth 100000 in
theorem cu_Na_length (l : Launch) (D : va_G) (g : Nat → ClassId) (ad : Nat → Nat) (y : Ly) (Post : St → Int32 → Prop) (σ : St) (a0 : Nat) (v1 : Int32) (sz : Nat) (h_a0 : cl a0 = 5) (h : wu_Na_length y Post σ a0 v1) : Met l y_Na_length (mw y_Na_length b_Na_length 2 (some .int)) ru_Na_length (PC g D [] [.ref (ad a0), .int v1] sz (ws g ad y σ)) (va_Qi (fun (r : Int32) (u : St) => Post u r) (QW D (va_A (ws g ad y σ) sz) (fun u => ws g ad y u)) (va_A (ws g ad y σ) sz)) 0 0 (va_A (ws g ad y σ) sz) := by
  refine ofI (by decide +kernel) (Nat.le_of_ble_eq_true rfl) ?_
  intro p e s m args below meth c A Q ls H locs G hsz hP hD hS hl hret
  subst hsz
  have hl : lv_has ls 2 [(0, .ref (ad a0)), (1, .int v1)] := hl
  unfold wu_Na_length at h
  refine lv_aload_n G.1 G.2.1 d_Na_length_0 rfl (lv_at hl 0 rfl) ?_
  refine ugf (v := .ref (ad (lk a0 2))) G hP h_a0 iNa rfl 2 (by decide) rfl q506 rfl rfl d_Na_length_1 ?_
  refine ugf (v := .ref (yP y (lk a0 2) 0)) G hP (lk_5_2 h_a0) iIn rfl 0 (by decide) rfl q381 rfl rfl d_Na_length_4 ?_
  refine lv_iload_n G.1 G.2.1 d_Na_length_7 rfl (lv_at hl 1 rfl) ?_
  refine uiald G hP (kdp (lk_5_2 h_a0) rfl) (typ (lk_5_2 h_a0) rfl) h d_Na_length_8 (fun x_1 h => ?_)
  exact hret _ _ _ _ _ _ _ ls h hP hD hS (Nat.le_refl _) (Nat.le_refl _) d_Na_length_9
theorem q1502 : Cond.methodLink "ClassWorks$Names" 110 y_Na_length ∈ lw_ok := lw_okmem (List.mem_of_getElem? (i := 1502) (by decide +kernel)) rfl
theorem q1505 : Cond.code y_Na_length b_Na_length 2 (some .int) ∈ lw_ok := lw_okmem (List.mem_of_getElem? (i := 1505) (by decide +kernel)) rfl
theorem q1503 : Cond.instanceMethod y_Na_length ∈ lw_ok := lw_okmem (List.mem_of_getElem? (i := 1503) (by decide +kernel)) rfl
theorem q1504 : Cond.selects y_Na_length.cls y_Na_length y_Na_length ∈ lw_ok := lw_okmem (List.mem_of_getElem? (i := 1504) (by decide +kernel)) rfl
theorem w9_Na_length : CWv y_Na_length b_Na_length 2 (some .int) 1 ∧ Cond.instanceMethod y_Na_length ∈ lw_ok ∧ Cond.selects y_Na_length.cls y_Na_length y_Na_length ∈ lw_ok := ⟨⟨q1505, q330, by decide +kernel, by decide +kernel, by decide +kernel⟩, q1503, q1504⟩
def y_Na_letter : MethodName := ⟨"ClassWorks$Names", "letter", "(II)I"⟩
abbrev b_Na_letter : ByteArray := prog_7_method_6_code
theorem d_Na_letter_0 : decode b_Na_letter 0 = .ok (.iload_n 2, 1) := by decide +kernel
theorem d_Na_letter_1 : decode b_Na_letter 1 = .ok (.ifCond .lt 12, 3) := by decide +kernel
theorem d_Na_letter_4 : decode b_Na_letter 4 = .ok (.iload_n 2, 1) := by decide +kernel
theorem d_Na_letter_5 : decode b_Na_letter 5 = .ok (.aload_n 0, 1) := by decide +kernel
theorem d_Na_letter_6 : decode b_Na_letter 6 = .ok (.iload_n 1, 1) := by decide +kernel
theorem d_Na_letter_7 : decode b_Na_letter 7 = .ok (.invokevirtual 110, 3) := by decide +kernel
theorem d_Na_letter_10 : decode b_Na_letter 10 = .ok (.if_icmp .lt 7, 3) := by decide +kernel
theorem d_Na_letter_13 : decode b_Na_letter 13 = .ok (.iconst (-1), 1) := by decide +kernel
theorem d_Na_letter_14 : decode b_Na_letter 14 = .ok (.goto 22, 3) := by decide +kernel
theorem d_Na_letter_17 : decode b_Na_letter 17 = .ok (.aload_n 0, 1) := by decide +kernel
theorem d_Na_letter_18 : decode b_Na_letter 18 = .ok (.getfield 14, 3) := by decide +kernel
theorem d_Na_letter_21 : decode b_Na_letter 21 = .ok (.getfield 101, 3) := by decide +kernel
theorem d_Na_letter_24 : decode b_Na_letter 24 = .ok (.aload_n 0, 1) := by decide +kernel
theorem d_Na_letter_25 : decode b_Na_letter 25 = .ok (.getfield 20, 3) := by decide +kernel
theorem d_Na_letter_28 : decode b_Na_letter 28 = .ok (.getfield 101, 3) := by decide +kernel
theorem d_Na_letter_31 : decode b_Na_letter 31 = .ok (.iload_n 1, 1) := by decide +kernel
theorem d_Na_letter_32 : decode b_Na_letter 32 = .ok (.iaload, 1) := by decide +kernel
theorem d_Na_letter_33 : decode b_Na_letter 33 = .ok (.iload_n 2, 1) := by decide +kernel
theorem d_Na_letter_34 : decode b_Na_letter 34 = .ok (.iadd, 1) := by decide +kernel
theorem d_Na_letter_35 : decode b_Na_letter 35 = .ok (.iaload, 1) := by decide +kernel
theorem d_Na_letter_36 : decode b_Na_letter 36 = .ok (.ireturn, 1) := by decide +kernel
abbrev ru_Na_letter : Room := { frames := 1, cells := 0, slots := 0, locals := 21 }
def wj_Na_letter_36 (y : Ly) (Post : St → Int32 → Prop) (a0 : Nat) (s_j36 : St) (z0j36 : Int32) : Prop := Post s_j36 z0j36
def wj_Na_letter_13 (y : Ly) (Post : St → Int32 → Prop) (a0 : Nat) (s_j13 : St) : Prop := wj_Na_letter_36 y Post a0 s_j13 (-1)
def wu_Na_letter (y : Ly) (Post : St → Int32 → Prop) (σ : St) (a0 : Nat) (v1 : Int32) (v2 : Int32) : Prop := ((v2 < 0 → wj_Na_letter_13 y Post a0 σ) ∧ (¬ (v2 < 0) → wu_Na_length y (fun (s_2 : St) (r_1 : Int32) => ((v2 < r_1 → xA y s_2 (lk a0 1) 0 v1 (fun x_3 : Int32 => xA y s_2 (lk a0 0) 0 (x_3 + v2) (fun x_4 : Int32 => wj_Na_letter_36 y Post a0 s_2 x_4))) ∧ (¬ (v2 < r_1) → wj_Na_letter_13 y Post a0 s_2))) σ a0 v1))
set_option maxHeartbeats 4000000 in
set_option maxRecDepth 100000 in
theorem cu_Na_letter (l : Launch) (D : va_G) (g : Nat → ClassId) (ad : Nat → Nat) (y : Ly) (Post : St → Int32 → Prop) (σ : St) (a0 : Nat) (v1 : Int32) (v2 : Int32) (sz : Nat) (h_a0 : cl a0 = 5) (h : wu_Na_letter y Post σ a0 v1 v2) : Met l y_Na_letter (mw y_Na_letter b_Na_letter 3 (some .int)) ru_Na_letter (PC g D [] [.ref (ad a0), .int v1, .int v2] sz (ws g ad y σ)) (va_Qi (fun (r : Int32) (u : St) => Post u r) (QW D (va_A (ws g ad y σ) sz) (fun u => ws g ad y u)) (va_A (ws g ad y σ) sz)) 0 0 (va_A (ws g ad y σ) sz) := by
  refine ofI (by decide +kernel) (Nat.le_of_ble_eq_true rfl) ?_
  intro p e s m args below meth c A Q ls H locs G hsz hP hD hS hl hret
  subst hsz
  have hl : lv_has ls 3 [(0, .ref (ad a0)), (1, .int v1), (2, .int v2)] := hl
  unfold wu_Na_letter at h
  refine lv_iload_n G.1 G.2.1 d_Na_letter_0 rfl (lv_at hl 2 rfl) ?_
  have J_36 : ∀ (s_j36 : St) (z0j36 : Int32) (H : Heap) (locs : List Loc), wj_Na_letter_36 y Post a0 s_j36 z0j36 → va_P D CL (ws g ad y s_j36) H → va_D A (ws g ad y s_j36) → va_S A s.heap H locs → ∀ ls, lv_has ls 3 [] → W p l e ru_Na_letter s m args below meth c H locs 0 0 Q (F0 m 36 ls [.int z0j36]) := by
    intro s_j36 z0j36 H locs h hP hD hS ls hl
    unfold wj_Na_letter_36 at h
    exact hret _ _ _ _ _ _ _ ls h hP hD hS (Nat.le_refl _) (Nat.le_refl _) d_Na_letter_36
  have J_13 : ∀ (s_j13 : St) (H : Heap) (locs : List Loc), wj_Na_letter_13 y Post a0 s_j13 → va_P D CL (ws g ad y s_j13) H → va_D A (ws g ad y s_j13) → va_S A s.heap H locs → ∀ ls, lv_has ls 3 [] → W p l e ru_Na_letter s m args below meth c H locs 0 0 Q (F0 m 13 ls []) := by
    intro s_j13 H locs h hP hD hS ls hl
    unfold wj_Na_letter_13 at h
    refine lv_iconst (v := (-1)) G.1 G.2.1 d_Na_letter_13 (by decide) ?_
    refine lv_goto (tgt := 36) G.1 G.2.1 d_Na_letter_14 (by decide) ?_
    exact J_36 s_j13 (-1) H locs h hP hD hS ls (lv_sub hl [] rfl)
  refine lv_if_lt (tgt := 13) G.1 G.2.1 d_Na_letter_1 (by decide) (fun c1 => ?_) (fun c1 => ?_)
  · skip
    have h := h.1 c1
    exact J_13 σ H locs h hP hD hS ls (lv_sub hl [] rfl)
  · skip
    have h := h.2 c1
    refine lv_iload_n G.1 G.2.1 d_Na_letter_4 rfl (lv_at hl 2 rfl) ?_
    refine lv_aload_n G.1 G.2.1 d_Na_letter_5 rfl (lv_at hl 0 rfl) ?_
    refine lv_iload_n G.1 G.2.1 d_Na_letter_6 rfl (lv_at hl 1 rfl) ?_
    refine ucVi (As := [.int v1]) (rest := [.int v2]) G hP hD hS (cu_Na_length l D g ad y _ σ a0 v1 H.size h_a0 h) w9_Na_length q1502 ⟨Nat.le_of_ble_eq_true rfl, Nat.le_of_ble_eq_true rfl⟩ rfl rfl h_a0 (q := (RNa, TNa, 11)) rfl rfl hl.1 rfl (Nat.le_of_ble_eq_true rfl) rfl ⟨Nat.le_refl _, Nat.le_refl _⟩ d_Na_letter_7 (fun r_1 s_2 H locs h hP hD hS => ?_)
    refine lv_icmp_lt (tgt := 17) G.1 G.2.1 d_Na_letter_10 (by decide) (fun c10 => ?_) (fun c10 => ?_)
    · skip
      have h := h.1 c10
      refine lv_aload_n G.1 G.2.1 d_Na_letter_17 rfl (lv_at hl 0 rfl) ?_
      refine ugf (v := .ref (ad (lk a0 0))) G hP h_a0 iNa rfl 0 (by decide) rfl q504 rfl rfl d_Na_letter_18 ?_
      refine ugf (v := .ref (yP y (lk a0 0) 0)) G hP (lk_5_0 h_a0) iIn rfl 0 (by decide) rfl q381 rfl rfl d_Na_letter_21 ?_
      refine lv_aload_n G.1 G.2.1 d_Na_letter_24 rfl (lv_at hl 0 rfl) ?_
      refine W.eq (g2 := F0 m 25 ls [.ref (ad a0), .ref (yP y (lk a0 0) 0)]) rfl ?_
      refine ugf (v := .ref (ad (lk a0 1))) G hP h_a0 iNa rfl 1 (by decide) rfl q505 rfl rfl d_Na_letter_25 ?_
      refine ugf (v := .ref (yP y (lk a0 1) 0)) G hP (lk_5_1 h_a0) iIn rfl 0 (by decide) rfl q381 rfl rfl d_Na_letter_28 ?_
      refine lv_iload_n G.1 G.2.1 d_Na_letter_31 rfl (lv_at hl 1 rfl) ?_
      refine uiald G hP (kdp (lk_5_1 h_a0) rfl) (typ (lk_5_1 h_a0) rfl) h d_Na_letter_32 (fun x_3 h => ?_)
      refine lv_iload_n G.1 G.2.1 d_Na_letter_33 rfl (lv_at hl 2 rfl) ?_
      refine lv_iadd G.1 G.2.1 d_Na_letter_34 ?_
      refine uiald G hP (kdp (lk_5_0 h_a0) rfl) (typ (lk_5_0 h_a0) rfl) h d_Na_letter_35 (fun x_4 h => ?_)
      exact J_36 s_2 x_4 H locs h hP hD hS ls (lv_sub hl [] rfl)
    · skip
      have h := h.2 c10
      exact J_13 s_2 H locs h hP hD hS ls (lv_sub hl [] rfl)
def y_Wd_field : MethodName := ⟨"ClassWorks$World", "field", "(III)I"⟩
abbrev b_Wd_field : ByteArray := prog_11_method_14_code
theorem d_Wd_field_0 : decode b_Wd_field 0 = .ok (.aload_n 0, 1) := by decide +kernel
theorem d_Wd_field_1 : decode b_Wd_field 1 = .ok (.getfield 41, 3) := by decide +kernel
theorem d_Wd_field_4 : decode b_Wd_field 4 = .ok (.getfield 98, 3) := by decide +kernel
theorem d_Wd_field_7 : decode b_Wd_field 7 = .ok (.aload_n 0, 1) := by decide +kernel
theorem d_Wd_field_8 : decode b_Wd_field 8 = .ok (.getfield 28, 3) := by decide +kernel
theorem d_Wd_field_11 : decode b_Wd_field 11 = .ok (.iload_n 1, 1) := by decide +kernel
theorem d_Wd_field_12 : decode b_Wd_field 12 = .ok (.bipush 19, 2) := by decide +kernel
theorem d_Wd_field_14 : decode b_Wd_field 14 = .ok (.imul, 1) := by decide +kernel
theorem d_Wd_field_15 : decode b_Wd_field 15 = .ok (.bipush 8, 2) := by decide +kernel
theorem d_Wd_field_17 : decode b_Wd_field 17 = .ok (.iadd, 1) := by decide +kernel
theorem d_Wd_field_18 : decode b_Wd_field 18 = .ok (.iaload, 1) := by decide +kernel
theorem d_Wd_field_19 : decode b_Wd_field 19 = .ok (.iload_n 2, 1) := by decide +kernel
theorem d_Wd_field_20 : decode b_Wd_field 20 = .ok (.bipush 7, 2) := by decide +kernel
theorem d_Wd_field_22 : decode b_Wd_field 22 = .ok (.imul, 1) := by decide +kernel
theorem d_Wd_field_23 : decode b_Wd_field 23 = .ok (.iadd, 1) := by decide +kernel
theorem d_Wd_field_24 : decode b_Wd_field 24 = .ok (.iload_n 3, 1) := by decide +kernel
theorem d_Wd_field_25 : decode b_Wd_field 25 = .ok (.iadd, 1) := by decide +kernel
theorem d_Wd_field_26 : decode b_Wd_field 26 = .ok (.iaload, 1) := by decide +kernel
theorem d_Wd_field_27 : decode b_Wd_field 27 = .ok (.ireturn, 1) := by decide +kernel
abbrev ru_Wd_field : Room := { frames := 0, cells := 0, slots := 0, locals := 0 }
def wu_Wd_field (y : Ly) (Post : St → Int32 → Prop) (σ : St) (a0 : Nat) (v1 : Int32) (v2 : Int32) (v3 : Int32) : Prop := xA y σ a0 6 ((v1 * 19) + 8) (fun x_1 : Int32 => xA y σ (lk a0 8) 0 ((x_1 + (v2 * 7)) + v3) (fun x_2 : Int32 => Post σ x_2))
set_option maxHeartbeats 4000000 in
set_option maxRecDepth 100000 in
theorem cu_Wd_field (l : Launch) (D : va_G) (g : Nat → ClassId) (ad : Nat → Nat) (y : Ly) (Post : St → Int32 → Prop) (σ : St) (a0 : Nat) (v1 : Int32) (v2 : Int32) (v3 : Int32) (sz : Nat) (h_a0 : cl a0 = 9) (h : wu_Wd_field y Post σ a0 v1 v2 v3) : Met l y_Wd_field (mw y_Wd_field b_Wd_field 4 (some .int)) ru_Wd_field (PC g D [] [.ref (ad a0), .int v1, .int v2, .int v3] sz (ws g ad y σ)) (va_Qi (fun (r : Int32) (u : St) => Post u r) (QW D (va_A (ws g ad y σ) sz) (fun u => ws g ad y u)) (va_A (ws g ad y σ) sz)) 0 0 (va_A (ws g ad y σ) sz) := by
  refine ofI (by decide +kernel) (Nat.le_of_ble_eq_true rfl) ?_
  intro p e s m args below meth c A Q ls H locs G hsz hP hD hS hl hret
  subst hsz
  have hl : lv_has ls 4 [(0, .ref (ad a0)), (1, .int v1), (2, .int v2), (3, .int v3)] := hl
  unfold wu_Wd_field at h
  refine lv_aload_n G.1 G.2.1 d_Wd_field_0 rfl (lv_at hl 0 rfl) ?_
  refine ugf (v := .ref (ad (lk a0 8))) G hP h_a0 iWd rfl 8 (by decide) rfl q835 rfl rfl d_Wd_field_1 ?_
  refine ugf (v := .ref (yP y (lk a0 8) 0)) G hP (lk_9_8 h_a0) iIn rfl 0 (by decide) rfl q384 rfl rfl d_Wd_field_4 ?_
  refine lv_aload_n G.1 G.2.1 d_Wd_field_7 rfl (lv_at hl 0 rfl) ?_
  refine ugf (v := .ref (yP y a0 6)) G hP h_a0 iWd rfl 6 (by decide) rfl q831 rfl rfl d_Wd_field_8 ?_
  refine lv_iload_n G.1 G.2.1 d_Wd_field_11 rfl (lv_at hl 1 rfl) ?_
  refine lv_bipush (v := 19) G.1 G.2.1 d_Wd_field_12 (by decide) ?_
  refine lv_imul G.1 G.2.1 d_Wd_field_14 ?_
  refine lv_bipush (v := 8) G.1 G.2.1 d_Wd_field_15 (by decide) ?_
  refine lv_iadd G.1 G.2.1 d_Wd_field_17 ?_
  refine uiald G hP (kdp h_a0 rfl) (typ h_a0 rfl) h d_Wd_field_18 (fun x_1 h => ?_)
  refine W.eq (g2 := F0 m 19 ls [.int x_1, .ref (yP y (lk a0 8) 0)]) rfl ?_
  refine lv_iload_n G.1 G.2.1 d_Wd_field_19 rfl (lv_at hl 2 rfl) ?_
  refine lv_bipush (v := 7) G.1 G.2.1 d_Wd_field_20 (by decide) ?_
  refine lv_imul G.1 G.2.1 d_Wd_field_22 ?_
  refine lv_iadd G.1 G.2.1 d_Wd_field_23 ?_
  refine lv_iload_n G.1 G.2.1 d_Wd_field_24 rfl (lv_at hl 3 rfl) ?_
  refine lv_iadd G.1 G.2.1 d_Wd_field_25 ?_
  refine uiald G hP (kdp (lk_9_8 h_a0) rfl) (typ (lk_9_8 h_a0) rfl) h d_Wd_field_26 (fun x_2 h => ?_)
  exact hret _ _ _ _ _ _ _ ls h hP hD hS (Nat.le_refl _) (Nat.le_refl _) d_Wd_field_27
def y_Wd_method : MethodName := ⟨"ClassWorks$World", "method", "(III)I"⟩
abbrev b_Wd_method : ByteArray := prog_11_method_15_code
theorem d_Wd_method_0 : decode b_Wd_method 0 = .ok (.aload_n 0, 1) := by decide +kernel
theorem d_Wd_method_1 : decode b_Wd_method 1 = .ok (.getfield 45, 3) := by decide +kernel
theorem d_Wd_method_4 : decode b_Wd_method 4 = .ok (.getfield 98, 3) := by decide +kernel
theorem d_Wd_method_7 : decode b_Wd_method 7 = .ok (.aload_n 0, 1) := by decide +kernel
theorem d_Wd_method_8 : decode b_Wd_method 8 = .ok (.getfield 28, 3) := by decide +kernel
theorem d_Wd_method_11 : decode b_Wd_method 11 = .ok (.iload_n 1, 1) := by decide +kernel
theorem d_Wd_method_12 : decode b_Wd_method 12 = .ok (.bipush 19, 2) := by decide +kernel
theorem d_Wd_method_14 : decode b_Wd_method 14 = .ok (.imul, 1) := by decide +kernel
theorem d_Wd_method_15 : decode b_Wd_method 15 = .ok (.bipush 10, 2) := by decide +kernel
theorem d_Wd_method_17 : decode b_Wd_method 17 = .ok (.iadd, 1) := by decide +kernel
theorem d_Wd_method_18 : decode b_Wd_method 18 = .ok (.iaload, 1) := by decide +kernel
theorem d_Wd_method_19 : decode b_Wd_method 19 = .ok (.iload_n 2, 1) := by decide +kernel
theorem d_Wd_method_20 : decode b_Wd_method 20 = .ok (.bipush 8, 2) := by decide +kernel
theorem d_Wd_method_22 : decode b_Wd_method 22 = .ok (.imul, 1) := by decide +kernel
theorem d_Wd_method_23 : decode b_Wd_method 23 = .ok (.iadd, 1) := by decide +kernel
theorem d_Wd_method_24 : decode b_Wd_method 24 = .ok (.iload_n 3, 1) := by decide +kernel
theorem d_Wd_method_25 : decode b_Wd_method 25 = .ok (.iadd, 1) := by decide +kernel
theorem d_Wd_method_26 : decode b_Wd_method 26 = .ok (.iaload, 1) := by decide +kernel
theorem d_Wd_method_27 : decode b_Wd_method 27 = .ok (.ireturn, 1) := by decide +kernel
abbrev ru_Wd_method : Room := { frames := 0, cells := 0, slots := 0, locals := 0 }
def wu_Wd_method (y : Ly) (Post : St → Int32 → Prop) (σ : St) (a0 : Nat) (v1 : Int32) (v2 : Int32) (v3 : Int32) : Prop := xA y σ a0 6 ((v1 * 19) + 10) (fun x_1 : Int32 => xA y σ (lk a0 9) 0 ((x_1 + (v2 * 8)) + v3) (fun x_2 : Int32 => Post σ x_2))
set_option maxHeartbeats 4000000 in
set_option maxRecDepth 100000 in
theorem cu_Wd_method (l : Launch) (D : va_G) (g : Nat → ClassId) (ad : Nat → Nat) (y : Ly) (Post : St → Int32 → Prop) (σ : St) (a0 : Nat) (v1 : Int32) (v2 : Int32) (v3 : Int32) (sz : Nat) (h_a0 : cl a0 = 9) (h : wu_Wd_method y Post σ a0 v1 v2 v3) : Met l y_Wd_method (mw y_Wd_method b_Wd_method 4 (some .int)) ru_Wd_method (PC g D [] [.ref (ad a0), .int v1, .int v2, .int v3] sz (ws g ad y σ)) (va_Qi (fun (r : Int32) (u : St) => Post u r) (QW D (va_A (ws g ad y σ) sz) (fun u => ws g ad y u)) (va_A (ws g ad y σ) sz)) 0 0 (va_A (ws g ad y σ) sz) := by
  refine ofI (by decide +kernel) (Nat.le_of_ble_eq_true rfl) ?_
  intro p e s m args below meth c A Q ls H locs G hsz hP hD hS hl hret
  subst hsz
  have hl : lv_has ls 4 [(0, .ref (ad a0)), (1, .int v1), (2, .int v2), (3, .int v3)] := hl
  unfold wu_Wd_method at h
  refine lv_aload_n G.1 G.2.1 d_Wd_method_0 rfl (lv_at hl 0 rfl) ?_
  refine ugf (v := .ref (ad (lk a0 9))) G hP h_a0 iWd rfl 9 (by decide) rfl q839 rfl rfl d_Wd_method_1 ?_
  refine ugf (v := .ref (yP y (lk a0 9) 0)) G hP (lk_9_9 h_a0) iIn rfl 0 (by decide) rfl q384 rfl rfl d_Wd_method_4 ?_
  refine lv_aload_n G.1 G.2.1 d_Wd_method_7 rfl (lv_at hl 0 rfl) ?_
  refine ugf (v := .ref (yP y a0 6)) G hP h_a0 iWd rfl 6 (by decide) rfl q831 rfl rfl d_Wd_method_8 ?_
  refine lv_iload_n G.1 G.2.1 d_Wd_method_11 rfl (lv_at hl 1 rfl) ?_
  refine lv_bipush (v := 19) G.1 G.2.1 d_Wd_method_12 (by decide) ?_
  refine lv_imul G.1 G.2.1 d_Wd_method_14 ?_
  refine lv_bipush (v := 10) G.1 G.2.1 d_Wd_method_15 (by decide) ?_
  refine lv_iadd G.1 G.2.1 d_Wd_method_17 ?_
  refine uiald G hP (kdp h_a0 rfl) (typ h_a0 rfl) h d_Wd_method_18 (fun x_1 h => ?_)
  refine W.eq (g2 := F0 m 19 ls [.int x_1, .ref (yP y (lk a0 9) 0)]) rfl ?_
  refine lv_iload_n G.1 G.2.1 d_Wd_method_19 rfl (lv_at hl 2 rfl) ?_
  refine lv_bipush (v := 8) G.1 G.2.1 d_Wd_method_20 (by decide) ?_
  refine lv_imul G.1 G.2.1 d_Wd_method_22 ?_
  refine lv_iadd G.1 G.2.1 d_Wd_method_23 ?_
  refine lv_iload_n G.1 G.2.1 d_Wd_method_24 rfl (lv_at hl 3 rfl) ?_
  refine lv_iadd G.1 G.2.1 d_Wd_method_25 ?_
  refine uiald G hP (kdp (lk_9_9 h_a0) rfl) (typ (lk_9_9 h_a0) rfl) h d_Wd_method_26 (fun x_2 h => ?_)
  exact hret _ _ _ _ _ _ _ ls h hP hD hS (Nat.le_refl _) (Nat.le_refl _) d_Wd_method_27
def y_Na_nameOf : MethodName := ⟨"ClassWorks$Names", "nameOf", "(I)I"⟩
abbrev b_Na_nameOf : ByteArray := prog_7_method_10_code
theorem d_Na_nameOf_0 : decode b_Na_nameOf 0 = .ok (.aload_n 0, 1) := by decide +kernel
theorem d_Na_nameOf_1 : decode b_Na_nameOf 1 = .ok (.getfield 33, 3) := by decide +kernel
theorem d_Na_nameOf_4 : decode b_Na_nameOf 4 = .ok (.getfield 101, 3) := by decide +kernel
theorem d_Na_nameOf_7 : decode b_Na_nameOf 7 = .ok (.iload_n 1, 1) := by decide +kernel
theorem d_Na_nameOf_8 : decode b_Na_nameOf 8 = .ok (.iconst 1, 1) := by decide +kernel
theorem d_Na_nameOf_9 : decode b_Na_nameOf 9 = .ok (.iadd, 1) := by decide +kernel
theorem d_Na_nameOf_10 : decode b_Na_nameOf 10 = .ok (.iaload, 1) := by decide +kernel
theorem d_Na_nameOf_11 : decode b_Na_nameOf 11 = .ok (.ireturn, 1) := by decide +kernel
abbrev ru_Na_nameOf : Room := { frames := 0, cells := 0, slots := 0, locals := 0 }
def wu_Na_nameOf (y : Ly) (Post : St → Int32 → Prop) (σ : St) (a0 : Nat) (v1 : Int32) : Prop := xA y σ (lk a0 5) 0 (v1 + 1) (fun x_1 : Int32 => Post σ x_1)
set_option maxHeartbeats 4000000 in
set_option maxRecDepth 100000 in
theorem cu_Na_nameOf (l : Launch) (D : va_G) (g : Nat → ClassId) (ad : Nat → Nat) (y : Ly) (Post : St → Int32 → Prop) (σ : St) (a0 : Nat) (v1 : Int32) (sz : Nat) (h_a0 : cl a0 = 5) (h : wu_Na_nameOf y Post σ a0 v1) : Met l y_Na_nameOf (mw y_Na_nameOf b_Na_nameOf 2 (some .int)) ru_Na_nameOf (PC g D [] [.ref (ad a0), .int v1] sz (ws g ad y σ)) (va_Qi (fun (r : Int32) (u : St) => Post u r) (QW D (va_A (ws g ad y σ) sz) (fun u => ws g ad y u)) (va_A (ws g ad y σ) sz)) 0 0 (va_A (ws g ad y σ) sz) := by
  refine ofI (by decide +kernel) (Nat.le_of_ble_eq_true rfl) ?_
  intro p e s m args below meth c A Q ls H locs G hsz hP hD hS hl hret
  subst hsz
  have hl : lv_has ls 2 [(0, .ref (ad a0)), (1, .int v1)] := hl
  unfold wu_Na_nameOf at h
  refine lv_aload_n G.1 G.2.1 d_Na_nameOf_0 rfl (lv_at hl 0 rfl) ?_
  refine ugf (v := .ref (ad (lk a0 5))) G hP h_a0 iNa rfl 5 (by decide) rfl q509 rfl rfl d_Na_nameOf_1 ?_
  refine ugf (v := .ref (yP y (lk a0 5) 0)) G hP (lk_5_5 h_a0) iIn rfl 0 (by decide) rfl q381 rfl rfl d_Na_nameOf_4 ?_
  refine lv_iload_n G.1 G.2.1 d_Na_nameOf_7 rfl (lv_at hl 1 rfl) ?_
  refine lv_iconst (v := 1) G.1 G.2.1 d_Na_nameOf_8 (by decide) ?_
  refine lv_iadd G.1 G.2.1 d_Na_nameOf_9 ?_
  refine uiald G hP (kdp (lk_5_5 h_a0) rfl) (typ (lk_5_5 h_a0) rfl) h d_Na_nameOf_10 (fun x_1 h => ?_)
  exact hret _ _ _ _ _ _ _ ls h hP hD hS (Nat.le_refl _) (Nat.le_refl _) d_Na_nameOf_11
theorem q814 : Cond.fieldLink "ClassWorks" 165 "ClassWorks$World" "names" "LClassWorks$Names;" ∈ lw_ok := lw_okmem (List.mem_of_getElem? (i := 814) (by decide +kernel)) rfl
theorem q1510 : Cond.methodLink "ClassWorks" 176 y_Wd_method ∈ lw_ok := lw_okmem (List.mem_of_getElem? (i := 1510) (by decide +kernel)) rfl
theorem q1513 : Cond.code y_Wd_method b_Wd_method 4 (some .int) ∈ lw_ok := lw_okmem (List.mem_of_getElem? (i := 1513) (by decide +kernel)) rfl
theorem q1511 : Cond.instanceMethod y_Wd_method ∈ lw_ok := lw_okmem (List.mem_of_getElem? (i := 1511) (by decide +kernel)) rfl
theorem q1512 : Cond.selects y_Wd_method.cls y_Wd_method y_Wd_method ∈ lw_ok := lw_okmem (List.mem_of_getElem? (i := 1512) (by decide +kernel)) rfl
theorem w9_Wd_method : CWv y_Wd_method b_Wd_method 4 (some .int) 3 ∧ Cond.instanceMethod y_Wd_method ∈ lw_ok ∧ Cond.selects y_Wd_method.cls y_Wd_method y_Wd_method ∈ lw_ok := ⟨⟨q1513, q345, by decide +kernel, by decide +kernel, by decide +kernel⟩, q1511, q1512⟩
theorem q1514 : Cond.methodLink "ClassWorks" 179 y_Na_nameOf ∈ lw_ok := lw_okmem (List.mem_of_getElem? (i := 1514) (by decide +kernel)) rfl
theorem q1517 : Cond.code y_Na_nameOf b_Na_nameOf 2 (some .int) ∈ lw_ok := lw_okmem (List.mem_of_getElem? (i := 1517) (by decide +kernel)) rfl
theorem q1515 : Cond.instanceMethod y_Na_nameOf ∈ lw_ok := lw_okmem (List.mem_of_getElem? (i := 1515) (by decide +kernel)) rfl
theorem q1516 : Cond.selects y_Na_nameOf.cls y_Na_nameOf y_Na_nameOf ∈ lw_ok := lw_okmem (List.mem_of_getElem? (i := 1516) (by decide +kernel)) rfl
theorem w9_Na_nameOf : CWv y_Na_nameOf b_Na_nameOf 2 (some .int) 1 ∧ Cond.instanceMethod y_Na_nameOf ∈ lw_ok ∧ Cond.selects y_Na_nameOf.cls y_Na_nameOf y_Na_nameOf ∈ lw_ok := ⟨⟨q1517, q330, by decide +kernel, by decide +kernel, by decide +kernel⟩, q1515, q1516⟩
theorem q1498 : Cond.methodLink "ClassWorks" 169 y_Na_letter ∈ lw_ok := lw_okmem (List.mem_of_getElem? (i := 1498) (by decide +kernel)) rfl
theorem q1501 : Cond.code y_Na_letter b_Na_letter 3 (some .int) ∈ lw_ok := lw_okmem (List.mem_of_getElem? (i := 1501) (by decide +kernel)) rfl
theorem q1499 : Cond.instanceMethod y_Na_letter ∈ lw_ok := lw_okmem (List.mem_of_getElem? (i := 1499) (by decide +kernel)) rfl
theorem q1500 : Cond.selects y_Na_letter.cls y_Na_letter y_Na_letter ∈ lw_ok := lw_okmem (List.mem_of_getElem? (i := 1500) (by decide +kernel)) rfl
theorem w9_Na_letter : CWv y_Na_letter b_Na_letter 3 (some .int) 2 ∧ Cond.instanceMethod y_Na_letter ∈ lw_ok ∧ Cond.selects y_Na_letter.cls y_Na_letter y_Na_letter ∈ lw_ok := ⟨⟨q1501, q330, by decide +kernel, by decide +kernel, by decide +kernel⟩, q1499, q1500⟩
theorem q1506 : Cond.methodLink "ClassWorks" 172 y_Wd_field ∈ lw_ok := lw_okmem (List.mem_of_getElem? (i := 1506) (by decide +kernel)) rfl
theorem q1509 : Cond.code y_Wd_field b_Wd_field 4 (some .int) ∈ lw_ok := lw_okmem (List.mem_of_getElem? (i := 1509) (by decide +kernel)) rfl
theorem q1507 : Cond.instanceMethod y_Wd_field ∈ lw_ok := lw_okmem (List.mem_of_getElem? (i := 1507) (by decide +kernel)) rfl
theorem q1508 : Cond.selects y_Wd_field.cls y_Wd_field y_Wd_field ∈ lw_ok := lw_okmem (List.mem_of_getElem? (i := 1508) (by decide +kernel)) rfl
theorem w9_Wd_field : CWv y_Wd_field b_Wd_field 4 (some .int) 3 ∧ Cond.instanceMethod y_Wd_field ∈ lw_ok ∧ Cond.selects y_Wd_field.cls y_Wd_field y_Wd_field ∈ lw_ok := ⟨⟨q1509, q345, by decide +kernel, by decide +kernel, by decide +kernel⟩, q1507, q1508⟩
def y_Cw_name : MethodName := ⟨"ClassWorks", "name", "(IIIII)I"⟩
abbrev b_Cw_name : ByteArray := prog_1_method_15_code
theorem d_Cw_name_0 : decode b_Cw_name 0 = .ok (.aload_n 0, 1) := by decide +kernel
theorem d_Cw_name_1 : decode b_Cw_name 1 = .ok (.iload_n 1, 1) := by decide +kernel
theorem d_Cw_name_2 : decode b_Cw_name 2 = .ok (.iload_n 2, 1) := by decide +kernel
theorem d_Cw_name_3 : decode b_Cw_name 3 = .ok (.invokevirtual 150, 3) := by decide +kernel
theorem d_Cw_name_6 : decode b_Cw_name 6 = .ok (.astore 6, 2) := by decide +kernel
theorem d_Cw_name_8 : decode b_Cw_name 8 = .ok (.aload 6, 2) := by decide +kernel
theorem d_Cw_name_10 : decode b_Cw_name 10 = .ok (.ifnull 18, 3) := by decide +kernel
theorem d_Cw_name_13 : decode b_Cw_name 13 = .ok (.iload_n 3, 1) := by decide +kernel
theorem d_Cw_name_14 : decode b_Cw_name 14 = .ok (.ifCond .lt 14, 3) := by decide +kernel
theorem d_Cw_name_17 : decode b_Cw_name 17 = .ok (.iload_n 3, 1) := by decide +kernel
theorem d_Cw_name_18 : decode b_Cw_name 18 = .ok (.iconst 1, 1) := by decide +kernel
theorem d_Cw_name_19 : decode b_Cw_name 19 = .ok (.if_icmp .gt 9, 3) := by decide +kernel
theorem d_Cw_name_22 : decode b_Cw_name 22 = .ok (.iload 4, 2) := by decide +kernel
theorem d_Cw_name_24 : decode b_Cw_name 24 = .ok (.iconst (-1), 1) := by decide +kernel
theorem d_Cw_name_25 : decode b_Cw_name 25 = .ok (.if_icmp .ge 5, 3) := by decide +kernel
theorem d_Cw_name_28 : decode b_Cw_name 28 = .ok (.iconst (-1), 1) := by decide +kernel
theorem d_Cw_name_29 : decode b_Cw_name 29 = .ok (.ireturn, 1) := by decide +kernel
theorem d_Cw_name_30 : decode b_Cw_name 30 = .ok (.iload 4, 2) := by decide +kernel
theorem d_Cw_name_32 : decode b_Cw_name 32 = .ok (.iconst (-1), 1) := by decide +kernel
theorem d_Cw_name_33 : decode b_Cw_name 33 = .ok (.if_icmp .ne 21, 3) := by decide +kernel
theorem d_Cw_name_36 : decode b_Cw_name 36 = .ok (.aload 6, 2) := by decide +kernel
theorem d_Cw_name_38 : decode b_Cw_name 38 = .ok (.getfield 165, 3) := by decide +kernel
theorem d_Cw_name_41 : decode b_Cw_name 41 = .ok (.aload 6, 2) := by decide +kernel
theorem d_Cw_name_43 : decode b_Cw_name 43 = .ok (.iload_n 2, 1) := by decide +kernel
theorem d_Cw_name_44 : decode b_Cw_name 44 = .ok (.iconst 0, 1) := by decide +kernel
theorem d_Cw_name_45 : decode b_Cw_name 45 = .ok (.invokevirtual 158, 3) := by decide +kernel
theorem d_Cw_name_48 : decode b_Cw_name 48 = .ok (.iload 5, 2) := by decide +kernel
theorem d_Cw_name_50 : decode b_Cw_name 50 = .ok (.invokevirtual 169, 3) := by decide +kernel
theorem d_Cw_name_53 : decode b_Cw_name 53 = .ok (.ireturn, 1) := by decide +kernel
theorem d_Cw_name_54 : decode b_Cw_name 54 = .ok (.iload_n 3, 1) := by decide +kernel
theorem d_Cw_name_55 : decode b_Cw_name 55 = .ok (.ifCond .ne 40, 3) := by decide +kernel
theorem d_Cw_name_58 : decode b_Cw_name 58 = .ok (.iload 4, 2) := by decide +kernel
theorem d_Cw_name_60 : decode b_Cw_name 60 = .ok (.aload 6, 2) := by decide +kernel
theorem d_Cw_name_62 : decode b_Cw_name 62 = .ok (.iload_n 2, 1) := by decide +kernel
theorem d_Cw_name_63 : decode b_Cw_name 63 = .ok (.bipush 9, 2) := by decide +kernel
theorem d_Cw_name_65 : decode b_Cw_name 65 = .ok (.invokevirtual 158, 3) := by decide +kernel
theorem d_Cw_name_68 : decode b_Cw_name 68 = .ok (.if_icmp .lt 7, 3) := by decide +kernel
theorem d_Cw_name_71 : decode b_Cw_name 71 = .ok (.iconst (-1), 1) := by decide +kernel
theorem d_Cw_name_72 : decode b_Cw_name 72 = .ok (.goto 22, 3) := by decide +kernel
theorem d_Cw_name_75 : decode b_Cw_name 75 = .ok (.aload 6, 2) := by decide +kernel
theorem d_Cw_name_77 : decode b_Cw_name 77 = .ok (.getfield 165, 3) := by decide +kernel
theorem d_Cw_name_80 : decode b_Cw_name 80 = .ok (.aload 6, 2) := by decide +kernel
theorem d_Cw_name_82 : decode b_Cw_name 82 = .ok (.iload_n 2, 1) := by decide +kernel
theorem d_Cw_name_83 : decode b_Cw_name 83 = .ok (.iload 4, 2) := by decide +kernel
theorem d_Cw_name_85 : decode b_Cw_name 85 = .ok (.iconst 0, 1) := by decide +kernel
theorem d_Cw_name_86 : decode b_Cw_name 86 = .ok (.invokevirtual 172, 3) := by decide +kernel
theorem d_Cw_name_89 : decode b_Cw_name 89 = .ok (.iload 5, 2) := by decide +kernel
theorem d_Cw_name_91 : decode b_Cw_name 91 = .ok (.invokevirtual 169, 3) := by decide +kernel
theorem d_Cw_name_94 : decode b_Cw_name 94 = .ok (.ireturn, 1) := by decide +kernel
theorem d_Cw_name_95 : decode b_Cw_name 95 = .ok (.iload 4, 2) := by decide +kernel
theorem d_Cw_name_97 : decode b_Cw_name 97 = .ok (.aload 6, 2) := by decide +kernel
theorem d_Cw_name_99 : decode b_Cw_name 99 = .ok (.iload_n 2, 1) := by decide +kernel
theorem d_Cw_name_100 : decode b_Cw_name 100 = .ok (.bipush 11, 2) := by decide +kernel
theorem d_Cw_name_102 : decode b_Cw_name 102 = .ok (.invokevirtual 158, 3) := by decide +kernel
theorem d_Cw_name_105 : decode b_Cw_name 105 = .ok (.if_icmp .lt 5, 3) := by decide +kernel
theorem d_Cw_name_108 : decode b_Cw_name 108 = .ok (.iconst (-1), 1) := by decide +kernel
theorem d_Cw_name_109 : decode b_Cw_name 109 = .ok (.ireturn, 1) := by decide +kernel
theorem d_Cw_name_110 : decode b_Cw_name 110 = .ok (.aload 6, 2) := by decide +kernel
theorem d_Cw_name_112 : decode b_Cw_name 112 = .ok (.getfield 165, 3) := by decide +kernel
theorem d_Cw_name_115 : decode b_Cw_name 115 = .ok (.aload 6, 2) := by decide +kernel
theorem d_Cw_name_117 : decode b_Cw_name 117 = .ok (.getfield 165, 3) := by decide +kernel
theorem d_Cw_name_120 : decode b_Cw_name 120 = .ok (.aload 6, 2) := by decide +kernel
theorem d_Cw_name_122 : decode b_Cw_name 122 = .ok (.iload_n 2, 1) := by decide +kernel
theorem d_Cw_name_123 : decode b_Cw_name 123 = .ok (.iload 4, 2) := by decide +kernel
theorem d_Cw_name_125 : decode b_Cw_name 125 = .ok (.iconst 0, 1) := by decide +kernel
theorem d_Cw_name_126 : decode b_Cw_name 126 = .ok (.invokevirtual 176, 3) := by decide +kernel
theorem d_Cw_name_129 : decode b_Cw_name 129 = .ok (.invokevirtual 179, 3) := by decide +kernel
theorem d_Cw_name_132 : decode b_Cw_name 132 = .ok (.iload 5, 2) := by decide +kernel
theorem d_Cw_name_134 : decode b_Cw_name 134 = .ok (.invokevirtual 169, 3) := by decide +kernel
theorem d_Cw_name_137 : decode b_Cw_name 137 = .ok (.ireturn, 1) := by decide +kernel
abbrev ru_Cw_name : Room := { frames := 3, cells := 0, slots := 0, locals := 66 }
def wj_Cw_name_28 (y : Ly) (Post : St → Int32 → Prop) (a0 : Nat) (s_j28 : St) : Prop := Post s_j28 (-1)
def wj_Cw_name_94 (y : Ly) (Post : St → Int32 → Prop) (a0 : Nat) (s_j94 : St) (z0j94 : Int32) : Prop := Post s_j94 z0j94
def wu_Cw_name (y : Ly) (Post : St → Int32 → Prop) (σ : St) (a0 : Nat) (v1 : Int32) (v2 : Int32) (v3 : Int32) (v4 : Int32) (v5 : Int32) : Prop := wu_Cw_worldWith y (fun (s_2 : St) (r_1 : Option Nat) => ((r_1 = none → wj_Cw_name_28 y Post a0 s_2) ∧ (∀ r_1b : Nat, r_1 = some r_1b → (cl r_1b = 9 ∧ ((v3 < 0 → wj_Cw_name_28 y Post a0 s_2) ∧ (¬ (v3 < 0) → ((1 < v3 → wj_Cw_name_28 y Post a0 s_2) ∧ (¬ (1 < v3) → (((-1) ≤ v4 → ((¬ v4 = (-1) → ((¬ v3 = 0 → wu_Wd_of y (fun (s_4 : St) (r_3 : Int32) => ((v4 < r_3 → wu_Wd_method y (fun (s_6 : St) (r_5 : Int32) => wu_Na_nameOf y (fun (s_8 : St) (r_7 : Int32) => wu_Na_letter y (fun (s_10 : St) (r_9 : Int32) => Post s_10 r_9) s_8 (lk r_1b 0) r_7 v5) s_6 (lk r_1b 0) r_5) s_4 r_1b v2 v4 0) ∧ (¬ (v4 < r_3) → Post s_4 (-1)))) s_2 r_1b v2 11) ∧ (v3 = 0 → wu_Wd_of y (fun (s_12 : St) (r_11 : Int32) => ((v4 < r_11 → wu_Wd_field y (fun (s_14 : St) (r_13 : Int32) => wu_Na_letter y (fun (s_16 : St) (r_15 : Int32) => wj_Cw_name_94 y Post a0 s_16 r_15) s_14 (lk r_1b 0) r_13 v5) s_12 r_1b v2 v4 0) ∧ (¬ (v4 < r_11) → wj_Cw_name_94 y Post a0 s_12 (-1)))) s_2 r_1b v2 9))) ∧ (v4 = (-1) → wu_Wd_of y (fun (s_18 : St) (r_17 : Int32) => wu_Na_letter y (fun (s_20 : St) (r_19 : Int32) => Post s_20 r_19) s_18 (lk r_1b 0) r_17 v5) s_2 r_1b v2 0))) ∧ (¬ ((-1) ≤ v4) → wj_Cw_name_28 y Post a0 s_2)))))))))) σ a0 v1 v2
set_option maxHeartbeats 4000000 in
set_option maxRecDepth 100000 in
theorem cu_Cw_name (l : Launch) (D : va_G) (g : Nat → ClassId) (ad : Nat → Nat) (y : Ly) (Post : St → Int32 → Prop) (σ : St) (a0 : Nat) (v1 : Int32) (v2 : Int32) (v3 : Int32) (v4 : Int32) (v5 : Int32) (sz : Nat) (h_a0 : cl a0 = 11) (h : wu_Cw_name y Post σ a0 v1 v2 v3 v4 v5) : Met l y_Cw_name (mw y_Cw_name b_Cw_name 7 (some .int)) ru_Cw_name (PC g D [] [.ref (ad a0), .int v1, .int v2, .int v3, .int v4, .int v5] sz (ws g ad y σ)) (va_Qi (fun (r : Int32) (u : St) => Post u r) (QW D (va_A (ws g ad y σ) sz) (fun u => ws g ad y u)) (va_A (ws g ad y σ) sz)) 0 0 (va_A (ws g ad y σ) sz) := by
  refine ofI (by decide +kernel) (Nat.le_of_ble_eq_true rfl) ?_
  intro p e s m args below meth c A Q ls H locs G hsz hP hD hS hl hret
  subst hsz
  have hl : lv_has ls 7 [(0, .ref (ad a0)), (1, .int v1), (2, .int v2), (3, .int v3), (4, .int v4), (5, .int v5)] := hl
  unfold wu_Cw_name at h
  refine lv_aload_n G.1 G.2.1 d_Cw_name_0 rfl (lv_at hl 0 rfl) ?_
  refine lv_iload_n G.1 G.2.1 d_Cw_name_1 rfl (lv_at hl 1 rfl) ?_
  refine lv_iload_n G.1 G.2.1 d_Cw_name_2 rfl (lv_at hl 2 rfl) ?_
  refine ucVq (As := [.int v1, .int v2]) (rest := []) G hP hD hS (cu_Cw_worldWith l D g ad y _ σ a0 v1 v2 H.size h_a0 h) w9_Cw_worldWith q1481 ⟨Nat.le_of_ble_eq_true rfl, Nat.le_of_ble_eq_true rfl⟩ rfl rfl h_a0 (q := (RCw, TCw, 20)) rfl rfl hl.1 rfl (Nat.le_of_ble_eq_true rfl) rfl ⟨Nat.le_refl _, Nat.le_refl _⟩ d_Cw_name_3 (fun r_1 s_2 H locs h hP hD hS => ?_)
  rcases r_1 with _ | r_1b
  · skip
    have h := h.1 rfl
    show W p l e ru_Cw_name s m args below meth c H locs 0 0 Q (F0 m 6 ls [.null])
    refine lv_astoreN (lv' := [(6, .null), (0, .ref (ad a0)), (1, .int v1), (2, .int v2), (3, .int v3), (4, .int v4), (5, .int v5)]) G.1 G.2.1 d_Cw_name_6 hl (by decide) rfl (fun ls hl => ?_)
    refine lv_aloadN G.1 G.2.1 d_Cw_name_8 (lv_at hl 0 rfl) ?_
    have J_28 : ∀ (s_j28 : St) (H : Heap) (locs : List Loc), wj_Cw_name_28 y Post a0 s_j28 → va_P D CL (ws g ad y s_j28) H → va_D A (ws g ad y s_j28) → va_S A s.heap H locs → ∀ ls, lv_has ls 7 [] → W p l e ru_Cw_name s m args below meth c H locs 0 0 Q (F0 m 28 ls []) := by
      intro s_j28 H locs h hP hD hS ls hl
      unfold wj_Cw_name_28 at h
      refine lv_iconst (v := (-1)) G.1 G.2.1 d_Cw_name_28 (by decide) ?_
      exact hret _ _ _ _ _ _ _ ls h hP hD hS (Nat.le_refl _) (Nat.le_refl _) d_Cw_name_29
    refine lv_ifnullN (tgt := 28) G.1 G.2.1 d_Cw_name_10 (by decide) ?_
    exact J_28 s_2 H locs h hP hD hS ls (lv_sub hl [] rfl)
  · skip
    obtain ⟨c_r_1b, h⟩ := h.2 _ rfl
    show W p l e ru_Cw_name s m args below meth c H locs 0 0 Q (F0 m 6 ls [.ref (ad r_1b)])
    refine lv_astore (lv' := [(6, .ref (ad r_1b)), (0, .ref (ad a0)), (1, .int v1), (2, .int v2), (3, .int v3), (4, .int v4), (5, .int v5)]) G.1 G.2.1 d_Cw_name_6 hl (by decide) rfl (fun ls hl => ?_)
    refine lv_aload G.1 G.2.1 d_Cw_name_8 (lv_at hl 0 rfl) ?_
    have J_28 : ∀ (s_j28 : St) (H : Heap) (locs : List Loc), wj_Cw_name_28 y Post a0 s_j28 → va_P D CL (ws g ad y s_j28) H → va_D A (ws g ad y s_j28) → va_S A s.heap H locs → ∀ ls, lv_has ls 7 [] → W p l e ru_Cw_name s m args below meth c H locs 0 0 Q (F0 m 28 ls []) := by
      intro s_j28 H locs h hP hD hS ls hl
      unfold wj_Cw_name_28 at h
      refine lv_iconst (v := (-1)) G.1 G.2.1 d_Cw_name_28 (by decide) ?_
      exact hret _ _ _ _ _ _ _ ls h hP hD hS (Nat.le_refl _) (Nat.le_refl _) d_Cw_name_29
    refine lv_ifnull G.1 G.2.1 d_Cw_name_10 ?_
    refine lv_iload_n G.1 G.2.1 d_Cw_name_13 rfl (lv_at hl 4 rfl) ?_
    refine lv_if_lt (tgt := 28) G.1 G.2.1 d_Cw_name_14 (by decide) (fun c14 => ?_) (fun c14 => ?_)
    · skip
      have h := h.1 c14
      exact J_28 s_2 H locs h hP hD hS ls (lv_sub hl [] rfl)
    · skip
      have h := h.2 c14
      refine lv_iload_n G.1 G.2.1 d_Cw_name_17 rfl (lv_at hl 4 rfl) ?_
      refine lv_iconst (v := 1) G.1 G.2.1 d_Cw_name_18 (by decide) ?_
      refine W.eq (g2 := F0 m 19 ls [.int 1, .int v3]) rfl ?_
      refine lv_icmp_gt (tgt := 28) G.1 G.2.1 d_Cw_name_19 (by decide) (fun c19 => ?_) (fun c19 => ?_)
      · skip
        have h := h.1 c19
        exact J_28 s_2 H locs h hP hD hS ls (lv_sub hl [] rfl)
      · skip
        have h := h.2 c19
        refine lv_iload G.1 G.2.1 d_Cw_name_22 (lv_at hl 5 rfl) ?_
        refine lv_iconst (v := (-1)) G.1 G.2.1 d_Cw_name_24 (by decide) ?_
        refine lv_icmp_ge (tgt := 30) G.1 G.2.1 d_Cw_name_25 (by decide) (fun c25 => ?_) (fun c25 => ?_)
        · skip
          have h := h.1 c25
          refine lv_iload G.1 G.2.1 d_Cw_name_30 (lv_at hl 5 rfl) ?_
          refine lv_iconst (v := (-1)) G.1 G.2.1 d_Cw_name_32 (by decide) ?_
          refine lv_icmp_ne (tgt := 54) G.1 G.2.1 d_Cw_name_33 (by decide) (fun c33 => ?_) (fun c33 => ?_)
          · skip
            have h := h.1 c33
            refine lv_iload_n G.1 G.2.1 d_Cw_name_54 rfl (lv_at hl 4 rfl) ?_
            refine lv_if_ne (tgt := 95) G.1 G.2.1 d_Cw_name_55 (by decide) (fun c55 => ?_) (fun c55 => ?_)
            · skip
              have h := h.1 c55
              refine lv_iload G.1 G.2.1 d_Cw_name_95 (lv_at hl 5 rfl) ?_
              refine lv_aload G.1 G.2.1 d_Cw_name_97 (lv_at hl 0 rfl) ?_
              refine lv_iload_n G.1 G.2.1 d_Cw_name_99 rfl (lv_at hl 3 rfl) ?_
              refine W.eq (g2 := F0 m 100 ls [.int v2, .ref (ad r_1b), .int v4]) rfl ?_
              refine lv_bipush (v := 11) G.1 G.2.1 d_Cw_name_100 (by decide) ?_
              refine ucVi (As := [.int v2, .int 11]) (rest := [.int v4]) G hP hD hS (cu_Wd_of l D g ad y _ s_2 r_1b v2 11 H.size c_r_1b h) w9_Wd_of q1493 ⟨Nat.le_of_ble_eq_true rfl, Nat.le_of_ble_eq_true rfl⟩ rfl rfl c_r_1b (q := (RWd, TWd, 17)) rfl rfl hl.1 rfl (Nat.le_of_ble_eq_true rfl) rfl ⟨Nat.le_refl _, Nat.le_refl _⟩ d_Cw_name_102 (fun r_3 s_4 H locs h hP hD hS => ?_)
              refine lv_icmp_lt (tgt := 110) G.1 G.2.1 d_Cw_name_105 (by decide) (fun c105 => ?_) (fun c105 => ?_)
              · skip
                have h := h.1 c105
                refine lv_aload G.1 G.2.1 d_Cw_name_110 (lv_at hl 0 rfl) ?_
                refine ugf (v := .ref (ad (lk r_1b 0))) G hP c_r_1b iWd rfl 0 (by decide) rfl q814 rfl rfl d_Cw_name_112 ?_
                refine lv_aload G.1 G.2.1 d_Cw_name_115 (lv_at hl 0 rfl) ?_
                refine ugf (v := .ref (ad (lk r_1b 0))) G hP c_r_1b iWd rfl 0 (by decide) rfl q814 rfl rfl d_Cw_name_117 ?_
                refine lv_aload G.1 G.2.1 d_Cw_name_120 (lv_at hl 0 rfl) ?_
                refine lv_iload_n G.1 G.2.1 d_Cw_name_122 rfl (lv_at hl 3 rfl) ?_
                refine lv_iload G.1 G.2.1 d_Cw_name_123 (lv_at hl 5 rfl) ?_
                refine lv_iconst (v := 0) G.1 G.2.1 d_Cw_name_125 (by decide) ?_
                refine ucVi (As := [.int v2, .int v4, .int 0]) (rest := [.ref (ad (lk r_1b 0)), .ref (ad (lk r_1b 0))]) G hP hD hS (cu_Wd_method l D g ad y _ s_4 r_1b v2 v4 0 H.size c_r_1b h) w9_Wd_method q1510 ⟨Nat.le_of_ble_eq_true rfl, Nat.le_of_ble_eq_true rfl⟩ rfl rfl c_r_1b (q := (RWd, TWd, 17)) rfl rfl hl.1 rfl (Nat.le_of_ble_eq_true rfl) rfl ⟨Nat.le_refl _, Nat.le_refl _⟩ d_Cw_name_126 (fun r_5 s_6 H locs h hP hD hS => ?_)
                refine W.eq (g2 := F0 m 129 ls [.int r_5, .ref (ad (lk r_1b 0)), .ref (ad (lk r_1b 0))]) rfl ?_
                refine ucVi (As := [.int r_5]) (rest := [.ref (ad (lk r_1b 0))]) G hP hD hS (cu_Na_nameOf l D g ad y _ s_6 (lk r_1b 0) r_5 H.size (lk_9_0 c_r_1b) h) w9_Na_nameOf q1514 ⟨Nat.le_of_ble_eq_true rfl, Nat.le_of_ble_eq_true rfl⟩ rfl rfl (lk_9_0 c_r_1b) (q := (RNa, TNa, 11)) rfl rfl hl.1 rfl (Nat.le_of_ble_eq_true rfl) rfl ⟨Nat.le_refl _, Nat.le_refl _⟩ d_Cw_name_129 (fun r_7 s_8 H locs h hP hD hS => ?_)
                refine lv_iload G.1 G.2.1 d_Cw_name_132 (lv_at hl 6 rfl) ?_
                refine ucVi (As := [.int r_7, .int v5]) (rest := []) G hP hD hS (cu_Na_letter l D g ad y _ s_8 (lk r_1b 0) r_7 v5 H.size (lk_9_0 c_r_1b) h) w9_Na_letter q1498 ⟨Nat.le_of_ble_eq_true rfl, Nat.le_of_ble_eq_true rfl⟩ rfl rfl (lk_9_0 c_r_1b) (q := (RNa, TNa, 11)) rfl rfl hl.1 rfl (Nat.le_of_ble_eq_true rfl) rfl ⟨Nat.le_refl _, Nat.le_refl _⟩ d_Cw_name_134 (fun r_9 s_10 H locs h hP hD hS => ?_)
                exact hret _ _ _ _ _ _ _ ls h hP hD hS (Nat.le_refl _) (Nat.le_refl _) d_Cw_name_137
              · skip
                have h := h.2 c105
                refine lv_iconst (v := (-1)) G.1 G.2.1 d_Cw_name_108 (by decide) ?_
                exact hret _ _ _ _ _ _ _ ls h hP hD hS (Nat.le_refl _) (Nat.le_refl _) d_Cw_name_109
            · skip
              have h := h.2 c55
              refine lv_iload G.1 G.2.1 d_Cw_name_58 (lv_at hl 5 rfl) ?_
              refine lv_aload G.1 G.2.1 d_Cw_name_60 (lv_at hl 0 rfl) ?_
              refine lv_iload_n G.1 G.2.1 d_Cw_name_62 rfl (lv_at hl 3 rfl) ?_
              refine W.eq (g2 := F0 m 63 ls [.int v2, .ref (ad r_1b), .int v4]) rfl ?_
              refine lv_bipush (v := 9) G.1 G.2.1 d_Cw_name_63 (by decide) ?_
              refine ucVi (As := [.int v2, .int 9]) (rest := [.int v4]) G hP hD hS (cu_Wd_of l D g ad y _ s_2 r_1b v2 9 H.size c_r_1b h) w9_Wd_of q1493 ⟨Nat.le_of_ble_eq_true rfl, Nat.le_of_ble_eq_true rfl⟩ rfl rfl c_r_1b (q := (RWd, TWd, 17)) rfl rfl hl.1 rfl (Nat.le_of_ble_eq_true rfl) rfl ⟨Nat.le_refl _, Nat.le_refl _⟩ d_Cw_name_65 (fun r_11 s_12 H locs h hP hD hS => ?_)
              have J_94 : ∀ (s_j94 : St) (z0j94 : Int32) (H : Heap) (locs : List Loc), wj_Cw_name_94 y Post a0 s_j94 z0j94 → va_P D CL (ws g ad y s_j94) H → va_D A (ws g ad y s_j94) → va_S A s.heap H locs → ∀ ls, lv_has ls 7 [] → W p l e ru_Cw_name s m args below meth c H locs 0 0 Q (F0 m 94 ls [.int z0j94]) := by
                intro s_j94 z0j94 H locs h hP hD hS ls hl
                unfold wj_Cw_name_94 at h
                exact hret _ _ _ _ _ _ _ ls h hP hD hS (Nat.le_refl _) (Nat.le_refl _) d_Cw_name_94
              refine lv_icmp_lt (tgt := 75) G.1 G.2.1 d_Cw_name_68 (by decide) (fun c68 => ?_) (fun c68 => ?_)
              · skip
                have h := h.1 c68
                refine lv_aload G.1 G.2.1 d_Cw_name_75 (lv_at hl 0 rfl) ?_
                refine ugf (v := .ref (ad (lk r_1b 0))) G hP c_r_1b iWd rfl 0 (by decide) rfl q814 rfl rfl d_Cw_name_77 ?_
                refine lv_aload G.1 G.2.1 d_Cw_name_80 (lv_at hl 0 rfl) ?_
                refine lv_iload_n G.1 G.2.1 d_Cw_name_82 rfl (lv_at hl 3 rfl) ?_
                refine lv_iload G.1 G.2.1 d_Cw_name_83 (lv_at hl 5 rfl) ?_
                refine lv_iconst (v := 0) G.1 G.2.1 d_Cw_name_85 (by decide) ?_
                refine ucVi (As := [.int v2, .int v4, .int 0]) (rest := [.ref (ad (lk r_1b 0))]) G hP hD hS (cu_Wd_field l D g ad y _ s_12 r_1b v2 v4 0 H.size c_r_1b h) w9_Wd_field q1506 ⟨Nat.le_of_ble_eq_true rfl, Nat.le_of_ble_eq_true rfl⟩ rfl rfl c_r_1b (q := (RWd, TWd, 17)) rfl rfl hl.1 rfl (Nat.le_of_ble_eq_true rfl) rfl ⟨Nat.le_refl _, Nat.le_refl _⟩ d_Cw_name_86 (fun r_13 s_14 H locs h hP hD hS => ?_)
                refine lv_iload G.1 G.2.1 d_Cw_name_89 (lv_at hl 6 rfl) ?_
                refine ucVi (As := [.int r_13, .int v5]) (rest := []) G hP hD hS (cu_Na_letter l D g ad y _ s_14 (lk r_1b 0) r_13 v5 H.size (lk_9_0 c_r_1b) h) w9_Na_letter q1498 ⟨Nat.le_of_ble_eq_true rfl, Nat.le_of_ble_eq_true rfl⟩ rfl rfl (lk_9_0 c_r_1b) (q := (RNa, TNa, 11)) rfl rfl hl.1 rfl (Nat.le_of_ble_eq_true rfl) rfl ⟨Nat.le_refl _, Nat.le_refl _⟩ d_Cw_name_91 (fun r_15 s_16 H locs h hP hD hS => ?_)
                exact J_94 s_16 r_15 H locs h hP hD hS ls (lv_sub hl [] rfl)
              · skip
                have h := h.2 c68
                refine lv_iconst (v := (-1)) G.1 G.2.1 d_Cw_name_71 (by decide) ?_
                refine lv_goto (tgt := 94) G.1 G.2.1 d_Cw_name_72 (by decide) ?_
                exact J_94 s_12 (-1) H locs h hP hD hS ls (lv_sub hl [] rfl)
          · skip
            have h := h.2 c33
            refine lv_aload G.1 G.2.1 d_Cw_name_36 (lv_at hl 0 rfl) ?_
            refine ugf (v := .ref (ad (lk r_1b 0))) G hP c_r_1b iWd rfl 0 (by decide) rfl q814 rfl rfl d_Cw_name_38 ?_
            refine lv_aload G.1 G.2.1 d_Cw_name_41 (lv_at hl 0 rfl) ?_
            refine lv_iload_n G.1 G.2.1 d_Cw_name_43 rfl (lv_at hl 3 rfl) ?_
            refine lv_iconst (v := 0) G.1 G.2.1 d_Cw_name_44 (by decide) ?_
            refine W.eq (g2 := F0 m 45 ls [.int 0, .int v2, .ref (ad r_1b), .ref (ad (lk r_1b 0))]) rfl ?_
            refine ucVi (As := [.int v2, .int 0]) (rest := [.ref (ad (lk r_1b 0))]) G hP hD hS (cu_Wd_of l D g ad y _ s_2 r_1b v2 0 H.size c_r_1b h) w9_Wd_of q1493 ⟨Nat.le_of_ble_eq_true rfl, Nat.le_of_ble_eq_true rfl⟩ rfl rfl c_r_1b (q := (RWd, TWd, 17)) rfl rfl hl.1 rfl (Nat.le_of_ble_eq_true rfl) rfl ⟨Nat.le_refl _, Nat.le_refl _⟩ d_Cw_name_45 (fun r_17 s_18 H locs h hP hD hS => ?_)
            refine lv_iload G.1 G.2.1 d_Cw_name_48 (lv_at hl 6 rfl) ?_
            refine ucVi (As := [.int r_17, .int v5]) (rest := []) G hP hD hS (cu_Na_letter l D g ad y _ s_18 (lk r_1b 0) r_17 v5 H.size (lk_9_0 c_r_1b) h) w9_Na_letter q1498 ⟨Nat.le_of_ble_eq_true rfl, Nat.le_of_ble_eq_true rfl⟩ rfl rfl (lk_9_0 c_r_1b) (q := (RNa, TNa, 11)) rfl rfl hl.1 rfl (Nat.le_of_ble_eq_true rfl) rfl ⟨Nat.le_refl _, Nat.le_refl _⟩ d_Cw_name_50 (fun r_19 s_20 H locs h hP hD hS => ?_)
            exact hret _ _ _ _ _ _ _ ls h hP hD hS (Nat.le_refl _) (Nat.le_refl _) d_Cw_name_53
        · skip
          have h := h.2 c25
          exact J_28 s_2 H locs h hP hD hS ls (lv_sub hl [] rfl)
def y_Cw_member : MethodName := ⟨"ClassWorks", "member", "(IIII)I"⟩
abbrev b_Cw_member : ByteArray := prog_1_method_16_code
theorem q1522 : Cond.methodLink "ClassWorks" 182 y_Na_argumentsOf ∈ lw_ok := lw_okmem (List.mem_of_getElem? (i := 1522) (by decide +kernel)) rfl
theorem q1523 : Cond.methodLink "ClassWorks" 185 Lib.Math.min.name ∈ lw_ok := lw_okmem (List.mem_of_getElem? (i := 1523) (by decide +kernel)) rfl
theorem d_Cw_member_0 : decode b_Cw_member 0 = .ok (.aload_n 0, 1) := by decide +kernel
theorem d_Cw_member_1 : decode b_Cw_member 1 = .ok (.iload_n 1, 1) := by decide +kernel
theorem d_Cw_member_2 : decode b_Cw_member 2 = .ok (.iload_n 2, 1) := by decide +kernel
theorem d_Cw_member_3 : decode b_Cw_member 3 = .ok (.invokevirtual 150, 3) := by decide +kernel
theorem d_Cw_member_6 : decode b_Cw_member 6 = .ok (.astore 5, 2) := by decide +kernel
theorem d_Cw_member_8 : decode b_Cw_member 8 = .ok (.aload 5, 2) := by decide +kernel
theorem d_Cw_member_10 : decode b_Cw_member 10 = .ok (.ifnull 19, 3) := by decide +kernel
theorem d_Cw_member_13 : decode b_Cw_member 13 = .ok (.iload_n 3, 1) := by decide +kernel
theorem d_Cw_member_14 : decode b_Cw_member 14 = .ok (.ifCond .lt 15, 3) := by decide +kernel
theorem d_Cw_member_17 : decode b_Cw_member 17 = .ok (.iload 4, 2) := by decide +kernel
theorem d_Cw_member_19 : decode b_Cw_member 19 = .ok (.ifCond .lt 10, 3) := by decide +kernel
theorem d_Cw_member_22 : decode b_Cw_member 22 = .ok (.iload 4, 2) := by decide +kernel
theorem d_Cw_member_24 : decode b_Cw_member 24 = .ok (.bipush 6, 2) := by decide +kernel
theorem d_Cw_member_26 : decode b_Cw_member 26 = .ok (.if_icmp .le 5, 3) := by decide +kernel
theorem d_Cw_member_29 : decode b_Cw_member 29 = .ok (.iconst (-1), 1) := by decide +kernel
theorem d_Cw_member_30 : decode b_Cw_member 30 = .ok (.ireturn, 1) := by decide +kernel
theorem d_Cw_member_31 : decode b_Cw_member 31 = .ok (.iload_n 3, 1) := by decide +kernel
theorem d_Cw_member_32 : decode b_Cw_member 32 = .ok (.aload 5, 2) := by decide +kernel
theorem d_Cw_member_34 : decode b_Cw_member 34 = .ok (.iload_n 2, 1) := by decide +kernel
theorem d_Cw_member_35 : decode b_Cw_member 35 = .ok (.iload 4, 2) := by decide +kernel
theorem d_Cw_member_37 : decode b_Cw_member 37 = .ok (.iconst 5, 1) := by decide +kernel
theorem d_Cw_member_38 : decode b_Cw_member 38 = .ok (.if_icmp .ge 8, 3) := by decide +kernel
theorem d_Cw_member_41 : decode b_Cw_member 41 = .ok (.bipush 11, 2) := by decide +kernel
theorem d_Cw_member_43 : decode b_Cw_member 43 = .ok (.goto 5, 3) := by decide +kernel
theorem d_Cw_member_46 : decode b_Cw_member 46 = .ok (.bipush 9, 2) := by decide +kernel
theorem d_Cw_member_48 : decode b_Cw_member 48 = .ok (.invokevirtual 158, 3) := by decide +kernel
theorem d_Cw_member_51 : decode b_Cw_member 51 = .ok (.if_icmp .lt 5, 3) := by decide +kernel
theorem d_Cw_member_54 : decode b_Cw_member 54 = .ok (.iconst (-1), 1) := by decide +kernel
theorem d_Cw_member_55 : decode b_Cw_member 55 = .ok (.ireturn, 1) := by decide +kernel
theorem d_Cw_member_56 : decode b_Cw_member 56 = .ok (.iload 4, 2) := by decide +kernel
theorem d_Cw_member_58 : decode b_Cw_member 58 = .ok (.tableswitch 100 0 5 #[38, 47, 64, 73, 82, 91], 38) := by decide +kernel
theorem d_Cw_member_96 : decode b_Cw_member 96 = .ok (.aload 5, 2) := by decide +kernel
theorem d_Cw_member_98 : decode b_Cw_member 98 = .ok (.iload_n 2, 1) := by decide +kernel
theorem d_Cw_member_99 : decode b_Cw_member 99 = .ok (.iload_n 3, 1) := by decide +kernel
theorem d_Cw_member_100 : decode b_Cw_member 100 = .ok (.iconst 1, 1) := by decide +kernel
theorem d_Cw_member_101 : decode b_Cw_member 101 = .ok (.invokevirtual 176, 3) := by decide +kernel
theorem d_Cw_member_104 : decode b_Cw_member 104 = .ok (.ireturn, 1) := by decide +kernel
theorem d_Cw_member_105 : decode b_Cw_member 105 = .ok (.aload 5, 2) := by decide +kernel
theorem d_Cw_member_107 : decode b_Cw_member 107 = .ok (.getfield 165, 3) := by decide +kernel
theorem d_Cw_member_110 : decode b_Cw_member 110 = .ok (.aload 5, 2) := by decide +kernel
theorem d_Cw_member_112 : decode b_Cw_member 112 = .ok (.iload_n 2, 1) := by decide +kernel
theorem d_Cw_member_113 : decode b_Cw_member 113 = .ok (.iload_n 3, 1) := by decide +kernel
theorem d_Cw_member_114 : decode b_Cw_member 114 = .ok (.iconst 0, 1) := by decide +kernel
theorem d_Cw_member_115 : decode b_Cw_member 115 = .ok (.invokevirtual 176, 3) := by decide +kernel
theorem d_Cw_member_118 : decode b_Cw_member 118 = .ok (.invokevirtual 182, 3) := by decide +kernel
theorem d_Cw_member_121 : decode b_Cw_member 121 = .ok (.ireturn, 1) := by decide +kernel
theorem d_Cw_member_122 : decode b_Cw_member 122 = .ok (.aload 5, 2) := by decide +kernel
theorem d_Cw_member_124 : decode b_Cw_member 124 = .ok (.iload_n 2, 1) := by decide +kernel
theorem d_Cw_member_125 : decode b_Cw_member 125 = .ok (.iload_n 3, 1) := by decide +kernel
theorem d_Cw_member_126 : decode b_Cw_member 126 = .ok (.iconst 2, 1) := by decide +kernel
theorem d_Cw_member_127 : decode b_Cw_member 127 = .ok (.invokevirtual 176, 3) := by decide +kernel
theorem d_Cw_member_130 : decode b_Cw_member 130 = .ok (.ireturn, 1) := by decide +kernel
theorem d_Cw_member_131 : decode b_Cw_member 131 = .ok (.aload 5, 2) := by decide +kernel
theorem d_Cw_member_133 : decode b_Cw_member 133 = .ok (.iload_n 2, 1) := by decide +kernel
theorem d_Cw_member_134 : decode b_Cw_member 134 = .ok (.iload_n 3, 1) := by decide +kernel
theorem d_Cw_member_135 : decode b_Cw_member 135 = .ok (.iconst 3, 1) := by decide +kernel
theorem d_Cw_member_136 : decode b_Cw_member 136 = .ok (.invokevirtual 176, 3) := by decide +kernel
theorem d_Cw_member_139 : decode b_Cw_member 139 = .ok (.ireturn, 1) := by decide +kernel
theorem d_Cw_member_140 : decode b_Cw_member 140 = .ok (.aload 5, 2) := by decide +kernel
theorem d_Cw_member_142 : decode b_Cw_member 142 = .ok (.iload_n 2, 1) := by decide +kernel
theorem d_Cw_member_143 : decode b_Cw_member 143 = .ok (.iload_n 3, 1) := by decide +kernel
theorem d_Cw_member_144 : decode b_Cw_member 144 = .ok (.iconst 5, 1) := by decide +kernel
theorem d_Cw_member_145 : decode b_Cw_member 145 = .ok (.invokevirtual 176, 3) := by decide +kernel
theorem d_Cw_member_148 : decode b_Cw_member 148 = .ok (.ireturn, 1) := by decide +kernel
theorem d_Cw_member_149 : decode b_Cw_member 149 = .ok (.aload 5, 2) := by decide +kernel
theorem d_Cw_member_151 : decode b_Cw_member 151 = .ok (.iload_n 2, 1) := by decide +kernel
theorem d_Cw_member_152 : decode b_Cw_member 152 = .ok (.iload_n 3, 1) := by decide +kernel
theorem d_Cw_member_153 : decode b_Cw_member 153 = .ok (.iconst 2, 1) := by decide +kernel
theorem d_Cw_member_154 : decode b_Cw_member 154 = .ok (.invokevirtual 172, 3) := by decide +kernel
theorem d_Cw_member_157 : decode b_Cw_member 157 = .ok (.ireturn, 1) := by decide +kernel
theorem d_Cw_member_158 : decode b_Cw_member 158 = .ok (.aload 5, 2) := by decide +kernel
theorem d_Cw_member_160 : decode b_Cw_member 160 = .ok (.iload_n 2, 1) := by decide +kernel
theorem d_Cw_member_161 : decode b_Cw_member 161 = .ok (.iload_n 3, 1) := by decide +kernel
theorem d_Cw_member_162 : decode b_Cw_member 162 = .ok (.iconst 1, 1) := by decide +kernel
theorem d_Cw_member_163 : decode b_Cw_member 163 = .ok (.invokevirtual 172, 3) := by decide +kernel
theorem d_Cw_member_166 : decode b_Cw_member 166 = .ok (.iconst 2, 1) := by decide +kernel
theorem d_Cw_member_167 : decode b_Cw_member 167 = .ok (.invokestatic 185, 3) := by decide +kernel
theorem d_Cw_member_170 : decode b_Cw_member 170 = .ok (.ireturn, 1) := by decide +kernel
abbrev ru_Cw_member : Room := { frames := 3, cells := 0, slots := 0, locals := 66 }
def wj_Cw_member_29 (y : Ly) (Post : St → Int32 → Prop) (a0 : Nat) (s_j29 : St) : Prop := Post s_j29 (-1)
def wj_Cw_member_48 (y : Ly) (Post : St → Int32 → Prop) (a0 : Nat) (s_j48 : St) (x2j48 : Int32) (x3j48 : Int32) (x4j48 : Int32) (x5j48 : Nat) (z0j48 : Int32) (z1j48 : Nat) (z2j48 : Int32) (z3j48 : Int32) : Prop := cl x5j48 = 9 ∧ cl z1j48 = 9 ∧ wu_Wd_of y (fun (s_4 : St) (r_3 : Int32) => ((z0j48 < r_3 → ((x4j48 = 0 → wu_Wd_method y (fun (s_6 : St) (r_5 : Int32) => Post s_6 r_5) s_4 x5j48 x2j48 x3j48 1) ∧ (¬ (x4j48 = 0) → ((x4j48 = 1 → wu_Wd_method y (fun (s_8 : St) (r_7 : Int32) => wu_Na_argumentsOf y (fun (s_10 : St) (r_9 : Int32) => Post s_10 r_9) s_8 (lk x5j48 0) r_7) s_4 x5j48 x2j48 x3j48 0) ∧ (¬ (x4j48 = 1) → ((x4j48 = 2 → wu_Wd_method y (fun (s_12 : St) (r_11 : Int32) => Post s_12 r_11) s_4 x5j48 x2j48 x3j48 2) ∧ (¬ (x4j48 = 2) → ((x4j48 = 3 → wu_Wd_method y (fun (s_14 : St) (r_13 : Int32) => Post s_14 r_13) s_4 x5j48 x2j48 x3j48 3) ∧ (¬ (x4j48 = 3) → ((x4j48 = 4 → wu_Wd_method y (fun (s_16 : St) (r_15 : Int32) => Post s_16 r_15) s_4 x5j48 x2j48 x3j48 5) ∧ (¬ (x4j48 = 4) → ((x4j48 = 5 → wu_Wd_field y (fun (s_18 : St) (r_17 : Int32) => Post s_18 r_17) s_4 x5j48 x2j48 x3j48 2) ∧ (¬ (x4j48 = 5) → wu_Wd_field y (fun (s_20 : St) (r_19 : Int32) => Post s_20 (if 2 < r_19 then 2 else r_19)) s_4 x5j48 x2j48 x3j48 1))))))))))))) ∧ (¬ (z0j48 < r_3) → Post s_4 (-1)))) s_j48 z1j48 z2j48 z3j48
def wu_Cw_member (y : Ly) (Post : St → Int32 → Prop) (σ : St) (a0 : Nat) (v1 : Int32) (v2 : Int32) (v3 : Int32) (v4 : Int32) : Prop := wu_Cw_worldWith y (fun (s_2 : St) (r_1 : Option Nat) => ((r_1 = none → wj_Cw_member_29 y Post a0 s_2) ∧ (∀ r_1b : Nat, r_1 = some r_1b → (cl r_1b = 9 ∧ ((v3 < 0 → wj_Cw_member_29 y Post a0 s_2) ∧ (¬ (v3 < 0) → ((v4 < 0 → wj_Cw_member_29 y Post a0 s_2) ∧ (¬ (v4 < 0) → ((v4 ≤ 6 → ((5 ≤ v4 → wj_Cw_member_48 y Post a0 s_2 v2 v3 v4 r_1b v3 r_1b v2 9) ∧ (¬ (5 ≤ v4) → wj_Cw_member_48 y Post a0 s_2 v2 v3 v4 r_1b v3 r_1b v2 11))) ∧ (¬ (v4 ≤ 6) → wj_Cw_member_29 y Post a0 s_2)))))))))) σ a0 v1 v2
set_option maxHeartbeats 4000000 in
set_option maxRecDepth 100000 in
theorem cu_Cw_member (l : Launch) (D : va_G) (g : Nat → ClassId) (ad : Nat → Nat) (y : Ly) (Post : St → Int32 → Prop) (σ : St) (a0 : Nat) (v1 : Int32) (v2 : Int32) (v3 : Int32) (v4 : Int32) (sz : Nat) (h_a0 : cl a0 = 11) (h : wu_Cw_member y Post σ a0 v1 v2 v3 v4) : Met l y_Cw_member (mw y_Cw_member b_Cw_member 6 (some .int)) ru_Cw_member (PC g D [] [.ref (ad a0), .int v1, .int v2, .int v3, .int v4] sz (ws g ad y σ)) (va_Qi (fun (r : Int32) (u : St) => Post u r) (QW D (va_A (ws g ad y σ) sz) (fun u => ws g ad y u)) (va_A (ws g ad y σ) sz)) 0 0 (va_A (ws g ad y σ) sz) := by
  refine ofI (by decide +kernel) (Nat.le_of_ble_eq_true rfl) ?_
  intro p e s m args below meth c A Q ls H locs G hsz hP hD hS hl hret
  subst hsz
  have hl : lv_has ls 6 [(0, .ref (ad a0)), (1, .int v1), (2, .int v2), (3, .int v3), (4, .int v4)] := hl
  unfold wu_Cw_member at h
  refine lv_aload_n G.1 G.2.1 d_Cw_member_0 rfl (lv_at hl 0 rfl) ?_
  refine lv_iload_n G.1 G.2.1 d_Cw_member_1 rfl (lv_at hl 1 rfl) ?_
  refine lv_iload_n G.1 G.2.1 d_Cw_member_2 rfl (lv_at hl 2 rfl) ?_
  refine ucVq (As := [.int v1, .int v2]) (rest := []) G hP hD hS (cu_Cw_worldWith l D g ad y _ σ a0 v1 v2 H.size h_a0 h) w9_Cw_worldWith q1481 ⟨Nat.le_of_ble_eq_true rfl, Nat.le_of_ble_eq_true rfl⟩ rfl rfl h_a0 (q := (RCw, TCw, 20)) rfl rfl hl.1 rfl (Nat.le_of_ble_eq_true rfl) rfl ⟨Nat.le_refl _, Nat.le_refl _⟩ d_Cw_member_3 (fun r_1 s_2 H locs h hP hD hS => ?_)
  rcases r_1 with _ | r_1b
  · skip
    have h := h.1 rfl
    show W p l e ru_Cw_member s m args below meth c H locs 0 0 Q (F0 m 6 ls [.null])
    refine lv_astoreN (lv' := [(5, .null), (0, .ref (ad a0)), (1, .int v1), (2, .int v2), (3, .int v3), (4, .int v4)]) G.1 G.2.1 d_Cw_member_6 hl (by decide) rfl (fun ls hl => ?_)
    refine lv_aloadN G.1 G.2.1 d_Cw_member_8 (lv_at hl 0 rfl) ?_
    have J_29 : ∀ (s_j29 : St) (H : Heap) (locs : List Loc), wj_Cw_member_29 y Post a0 s_j29 → va_P D CL (ws g ad y s_j29) H → va_D A (ws g ad y s_j29) → va_S A s.heap H locs → ∀ ls, lv_has ls 6 [] → W p l e ru_Cw_member s m args below meth c H locs 0 0 Q (F0 m 29 ls []) := by
      intro s_j29 H locs h hP hD hS ls hl
      unfold wj_Cw_member_29 at h
      refine lv_iconst (v := (-1)) G.1 G.2.1 d_Cw_member_29 (by decide) ?_
      exact hret _ _ _ _ _ _ _ ls h hP hD hS (Nat.le_refl _) (Nat.le_refl _) d_Cw_member_30
    refine lv_ifnullN (tgt := 29) G.1 G.2.1 d_Cw_member_10 (by decide) ?_
    exact J_29 s_2 H locs h hP hD hS ls (lv_sub hl [] rfl)
  · skip
    obtain ⟨c_r_1b, h⟩ := h.2 _ rfl
    show W p l e ru_Cw_member s m args below meth c H locs 0 0 Q (F0 m 6 ls [.ref (ad r_1b)])
    refine lv_astore (lv' := [(5, .ref (ad r_1b)), (0, .ref (ad a0)), (1, .int v1), (2, .int v2), (3, .int v3), (4, .int v4)]) G.1 G.2.1 d_Cw_member_6 hl (by decide) rfl (fun ls hl => ?_)
    refine lv_aload G.1 G.2.1 d_Cw_member_8 (lv_at hl 0 rfl) ?_
    have J_29 : ∀ (s_j29 : St) (H : Heap) (locs : List Loc), wj_Cw_member_29 y Post a0 s_j29 → va_P D CL (ws g ad y s_j29) H → va_D A (ws g ad y s_j29) → va_S A s.heap H locs → ∀ ls, lv_has ls 6 [] → W p l e ru_Cw_member s m args below meth c H locs 0 0 Q (F0 m 29 ls []) := by
      intro s_j29 H locs h hP hD hS ls hl
      unfold wj_Cw_member_29 at h
      refine lv_iconst (v := (-1)) G.1 G.2.1 d_Cw_member_29 (by decide) ?_
      exact hret _ _ _ _ _ _ _ ls h hP hD hS (Nat.le_refl _) (Nat.le_refl _) d_Cw_member_30
    refine lv_ifnull G.1 G.2.1 d_Cw_member_10 ?_
    refine lv_iload_n G.1 G.2.1 d_Cw_member_13 rfl (lv_at hl 4 rfl) ?_
    refine lv_if_lt (tgt := 29) G.1 G.2.1 d_Cw_member_14 (by decide) (fun c14 => ?_) (fun c14 => ?_)
    · skip
      have h := h.1 c14
      exact J_29 s_2 H locs h hP hD hS ls (lv_sub hl [] rfl)
    · skip
      have h := h.2 c14
      refine lv_iload G.1 G.2.1 d_Cw_member_17 (lv_at hl 5 rfl) ?_
      refine lv_if_lt (tgt := 29) G.1 G.2.1 d_Cw_member_19 (by decide) (fun c19 => ?_) (fun c19 => ?_)
      · skip
        have h := h.1 c19
        exact J_29 s_2 H locs h hP hD hS ls (lv_sub hl [] rfl)
      · skip
        have h := h.2 c19
        refine W.eq (g2 := F0 m 22 ls []) rfl ?_
        refine lv_iload G.1 G.2.1 d_Cw_member_22 (lv_at hl 5 rfl) ?_
        refine lv_bipush (v := 6) G.1 G.2.1 d_Cw_member_24 (by decide) ?_
        refine lv_icmp_le (tgt := 31) G.1 G.2.1 d_Cw_member_26 (by decide) (fun c26 => ?_) (fun c26 => ?_)
        · skip
          have h := h.1 c26
          refine lv_iload_n G.1 G.2.1 d_Cw_member_31 rfl (lv_at hl 4 rfl) ?_
          refine lv_aload G.1 G.2.1 d_Cw_member_32 (lv_at hl 0 rfl) ?_
          refine lv_iload_n G.1 G.2.1 d_Cw_member_34 rfl (lv_at hl 3 rfl) ?_
          refine lv_iload G.1 G.2.1 d_Cw_member_35 (lv_at hl 5 rfl) ?_
          refine lv_iconst (v := 5) G.1 G.2.1 d_Cw_member_37 (by decide) ?_
          have J_48 : ∀ (s_j48 : St) (x2j48 : Int32) (x3j48 : Int32) (x4j48 : Int32) (x5j48 : Nat) (z0j48 : Int32) (z1j48 : Nat) (z2j48 : Int32) (z3j48 : Int32) (H : Heap) (locs : List Loc), wj_Cw_member_48 y Post a0 s_j48 x2j48 x3j48 x4j48 x5j48 z0j48 z1j48 z2j48 z3j48 → va_P D CL (ws g ad y s_j48) H → va_D A (ws g ad y s_j48) → va_S A s.heap H locs → ∀ ls, lv_has ls 6 [(2, .int x2j48), (3, .int x3j48), (4, .int x4j48), (5, .ref (ad x5j48))] → W p l e ru_Cw_member s m args below meth c H locs 0 0 Q (F0 m 48 ls [.int z3j48, .int z2j48, .ref (ad z1j48), .int z0j48]) := by
            intro s_j48 x2j48 x3j48 x4j48 x5j48 z0j48 z1j48 z2j48 z3j48 H locs h hP hD hS ls hl
            unfold wj_Cw_member_48 at h
            obtain ⟨c_x5j48, h⟩ := h
            obtain ⟨c_z1j48, h⟩ := h
            refine ucVi (As := [.int z2j48, .int z3j48]) (rest := [.int z0j48]) G hP hD hS (cu_Wd_of l D g ad y _ s_j48 z1j48 z2j48 z3j48 H.size c_z1j48 h) w9_Wd_of q1493 ⟨Nat.le_of_ble_eq_true rfl, Nat.le_of_ble_eq_true rfl⟩ rfl rfl c_z1j48 (q := (RWd, TWd, 17)) rfl rfl hl.1 rfl (Nat.le_of_ble_eq_true rfl) rfl ⟨Nat.le_refl _, Nat.le_refl _⟩ d_Cw_member_48 (fun r_3 s_4 H locs h hP hD hS => ?_)
            refine lv_icmp_lt (tgt := 56) G.1 G.2.1 d_Cw_member_51 (by decide) (fun c51 => ?_) (fun c51 => ?_)
            · skip
              have h := h.1 c51
              refine lv_iload G.1 G.2.1 d_Cw_member_56 (lv_at hl 2 rfl) ?_
              by_cases e58_0 : x4j48 = 0
              · skip
                have h := h.1 e58_0
                refine lv_tableIn (off := 38) (tgt := 96) G.1 G.2.1 d_Cw_member_58 (by rw [e58_0]; decide) (by rw [e58_0]; decide) (by rw [e58_0]; rfl) (by decide) ?_
                refine lv_aload G.1 G.2.1 d_Cw_member_96 (lv_at hl 3 rfl) ?_
                refine lv_iload_n G.1 G.2.1 d_Cw_member_98 rfl (lv_at hl 0 rfl) ?_
                refine lv_iload_n G.1 G.2.1 d_Cw_member_99 rfl (lv_at hl 1 rfl) ?_
                refine lv_iconst (v := 1) G.1 G.2.1 d_Cw_member_100 (by decide) ?_
                refine ucVi (As := [.int x2j48, .int x3j48, .int 1]) (rest := []) G hP hD hS (cu_Wd_method l D g ad y _ s_4 x5j48 x2j48 x3j48 1 H.size c_x5j48 h) w9_Wd_method q1510 ⟨Nat.le_of_ble_eq_true rfl, Nat.le_of_ble_eq_true rfl⟩ rfl rfl c_x5j48 (q := (RWd, TWd, 17)) rfl rfl hl.1 rfl (Nat.le_of_ble_eq_true rfl) rfl ⟨Nat.le_refl _, Nat.le_refl _⟩ d_Cw_member_101 (fun r_5 s_6 H locs h hP hD hS => ?_)
                exact hret _ _ _ _ _ _ _ ls h hP hD hS (Nat.le_refl _) (Nat.le_refl _) d_Cw_member_104
              replace h := h.2 e58_0
              by_cases e58_1 : x4j48 = 1
              · skip
                have h := h.1 e58_1
                refine lv_tableIn (off := 47) (tgt := 105) G.1 G.2.1 d_Cw_member_58 (by rw [e58_1]; decide) (by rw [e58_1]; decide) (by rw [e58_1]; rfl) (by decide) ?_
                refine lv_aload G.1 G.2.1 d_Cw_member_105 (lv_at hl 3 rfl) ?_
                refine ugf (v := .ref (ad (lk x5j48 0))) G hP c_x5j48 iWd rfl 0 (by decide) rfl q814 rfl rfl d_Cw_member_107 ?_
                refine lv_aload G.1 G.2.1 d_Cw_member_110 (lv_at hl 3 rfl) ?_
                refine lv_iload_n G.1 G.2.1 d_Cw_member_112 rfl (lv_at hl 0 rfl) ?_
                refine lv_iload_n G.1 G.2.1 d_Cw_member_113 rfl (lv_at hl 1 rfl) ?_
                refine lv_iconst (v := 0) G.1 G.2.1 d_Cw_member_114 (by decide) ?_
                refine ucVi (As := [.int x2j48, .int x3j48, .int 0]) (rest := [.ref (ad (lk x5j48 0))]) G hP hD hS (cu_Wd_method l D g ad y _ s_4 x5j48 x2j48 x3j48 0 H.size c_x5j48 h) w9_Wd_method q1510 ⟨Nat.le_of_ble_eq_true rfl, Nat.le_of_ble_eq_true rfl⟩ rfl rfl c_x5j48 (q := (RWd, TWd, 17)) rfl rfl hl.1 rfl (Nat.le_of_ble_eq_true rfl) rfl ⟨Nat.le_refl _, Nat.le_refl _⟩ d_Cw_member_115 (fun r_7 s_8 H locs h hP hD hS => ?_)
                refine W.eq (g2 := F0 m 118 ls [.int r_7, .ref (ad (lk x5j48 0))]) rfl ?_
                refine ucVi (As := [.int r_7]) (rest := []) G hP hD hS (cu_Na_argumentsOf l D g ad y _ s_8 (lk x5j48 0) r_7 H.size (lk_9_0 c_x5j48) h) w9_Na_argumentsOf q1522 ⟨Nat.le_of_ble_eq_true rfl, Nat.le_of_ble_eq_true rfl⟩ rfl rfl (lk_9_0 c_x5j48) (q := (RNa, TNa, 11)) rfl rfl hl.1 rfl (Nat.le_of_ble_eq_true rfl) rfl ⟨Nat.le_refl _, Nat.le_refl _⟩ d_Cw_member_118 (fun r_9 s_10 H locs h hP hD hS => ?_)
                exact hret _ _ _ _ _ _ _ ls h hP hD hS (Nat.le_refl _) (Nat.le_refl _) d_Cw_member_121
              replace h := h.2 e58_1
              by_cases e58_2 : x4j48 = 2
              · skip
                have h := h.1 e58_2
                refine lv_tableIn (off := 64) (tgt := 122) G.1 G.2.1 d_Cw_member_58 (by rw [e58_2]; decide) (by rw [e58_2]; decide) (by rw [e58_2]; rfl) (by decide) ?_
                refine lv_aload G.1 G.2.1 d_Cw_member_122 (lv_at hl 3 rfl) ?_
                refine lv_iload_n G.1 G.2.1 d_Cw_member_124 rfl (lv_at hl 0 rfl) ?_
                refine lv_iload_n G.1 G.2.1 d_Cw_member_125 rfl (lv_at hl 1 rfl) ?_
                refine lv_iconst (v := 2) G.1 G.2.1 d_Cw_member_126 (by decide) ?_
                refine ucVi (As := [.int x2j48, .int x3j48, .int 2]) (rest := []) G hP hD hS (cu_Wd_method l D g ad y _ s_4 x5j48 x2j48 x3j48 2 H.size c_x5j48 h) w9_Wd_method q1510 ⟨Nat.le_of_ble_eq_true rfl, Nat.le_of_ble_eq_true rfl⟩ rfl rfl c_x5j48 (q := (RWd, TWd, 17)) rfl rfl hl.1 rfl (Nat.le_of_ble_eq_true rfl) rfl ⟨Nat.le_refl _, Nat.le_refl _⟩ d_Cw_member_127 (fun r_11 s_12 H locs h hP hD hS => ?_)
                exact hret _ _ _ _ _ _ _ ls h hP hD hS (Nat.le_refl _) (Nat.le_refl _) d_Cw_member_130
              replace h := h.2 e58_2
              by_cases e58_3 : x4j48 = 3
              · skip
                have h := h.1 e58_3
                refine lv_tableIn (off := 73) (tgt := 131) G.1 G.2.1 d_Cw_member_58 (by rw [e58_3]; decide) (by rw [e58_3]; decide) (by rw [e58_3]; rfl) (by decide) ?_
                refine lv_aload G.1 G.2.1 d_Cw_member_131 (lv_at hl 3 rfl) ?_
                refine lv_iload_n G.1 G.2.1 d_Cw_member_133 rfl (lv_at hl 0 rfl) ?_
                refine lv_iload_n G.1 G.2.1 d_Cw_member_134 rfl (lv_at hl 1 rfl) ?_
                refine lv_iconst (v := 3) G.1 G.2.1 d_Cw_member_135 (by decide) ?_
                refine ucVi (As := [.int x2j48, .int x3j48, .int 3]) (rest := []) G hP hD hS (cu_Wd_method l D g ad y _ s_4 x5j48 x2j48 x3j48 3 H.size c_x5j48 h) w9_Wd_method q1510 ⟨Nat.le_of_ble_eq_true rfl, Nat.le_of_ble_eq_true rfl⟩ rfl rfl c_x5j48 (q := (RWd, TWd, 17)) rfl rfl hl.1 rfl (Nat.le_of_ble_eq_true rfl) rfl ⟨Nat.le_refl _, Nat.le_refl _⟩ d_Cw_member_136 (fun r_13 s_14 H locs h hP hD hS => ?_)
                exact hret _ _ _ _ _ _ _ ls h hP hD hS (Nat.le_refl _) (Nat.le_refl _) d_Cw_member_139
              replace h := h.2 e58_3
              by_cases e58_4 : x4j48 = 4
              · skip
                have h := h.1 e58_4
                refine lv_tableIn (off := 82) (tgt := 140) G.1 G.2.1 d_Cw_member_58 (by rw [e58_4]; decide) (by rw [e58_4]; decide) (by rw [e58_4]; rfl) (by decide) ?_
                refine lv_aload G.1 G.2.1 d_Cw_member_140 (lv_at hl 3 rfl) ?_
                refine lv_iload_n G.1 G.2.1 d_Cw_member_142 rfl (lv_at hl 0 rfl) ?_
                refine lv_iload_n G.1 G.2.1 d_Cw_member_143 rfl (lv_at hl 1 rfl) ?_
                refine lv_iconst (v := 5) G.1 G.2.1 d_Cw_member_144 (by decide) ?_
                refine ucVi (As := [.int x2j48, .int x3j48, .int 5]) (rest := []) G hP hD hS (cu_Wd_method l D g ad y _ s_4 x5j48 x2j48 x3j48 5 H.size c_x5j48 h) w9_Wd_method q1510 ⟨Nat.le_of_ble_eq_true rfl, Nat.le_of_ble_eq_true rfl⟩ rfl rfl c_x5j48 (q := (RWd, TWd, 17)) rfl rfl hl.1 rfl (Nat.le_of_ble_eq_true rfl) rfl ⟨Nat.le_refl _, Nat.le_refl _⟩ d_Cw_member_145 (fun r_15 s_16 H locs h hP hD hS => ?_)
                exact hret _ _ _ _ _ _ _ ls h hP hD hS (Nat.le_refl _) (Nat.le_refl _) d_Cw_member_148
              replace h := h.2 e58_4
              by_cases e58_5 : x4j48 = 5
              · skip
                have h := h.1 e58_5
                refine lv_tableIn (off := 91) (tgt := 149) G.1 G.2.1 d_Cw_member_58 (by rw [e58_5]; decide) (by rw [e58_5]; decide) (by rw [e58_5]; rfl) (by decide) ?_
                refine lv_aload G.1 G.2.1 d_Cw_member_149 (lv_at hl 3 rfl) ?_
                refine lv_iload_n G.1 G.2.1 d_Cw_member_151 rfl (lv_at hl 0 rfl) ?_
                refine lv_iload_n G.1 G.2.1 d_Cw_member_152 rfl (lv_at hl 1 rfl) ?_
                refine lv_iconst (v := 2) G.1 G.2.1 d_Cw_member_153 (by decide) ?_
                refine ucVi (As := [.int x2j48, .int x3j48, .int 2]) (rest := []) G hP hD hS (cu_Wd_field l D g ad y _ s_4 x5j48 x2j48 x3j48 2 H.size c_x5j48 h) w9_Wd_field q1506 ⟨Nat.le_of_ble_eq_true rfl, Nat.le_of_ble_eq_true rfl⟩ rfl rfl c_x5j48 (q := (RWd, TWd, 17)) rfl rfl hl.1 rfl (Nat.le_of_ble_eq_true rfl) rfl ⟨Nat.le_refl _, Nat.le_refl _⟩ d_Cw_member_154 (fun r_17 s_18 H locs h hP hD hS => ?_)
                exact hret _ _ _ _ _ _ _ ls h hP hD hS (Nat.le_refl _) (Nat.le_refl _) d_Cw_member_157
              replace h := h.2 e58_5
              have te58_0 := lv_neT (a := 0) e58_0 (by decide)
              have te58_1 := lv_neT (a := 1) e58_1 (by decide)
              have te58_2 := lv_neT (a := 2) e58_2 (by decide)
              have te58_3 := lv_neT (a := 3) e58_3 (by decide)
              have te58_4 := lv_neT (a := 4) e58_4 (by decide)
              have te58_5 := lv_neT (a := 5) e58_5 (by decide)
              refine lv_tableOut (tgt := 158) G.1 G.2.1 d_Cw_member_58 (by omega) (by decide) ?_
              refine lv_aload G.1 G.2.1 d_Cw_member_158 (lv_at hl 3 rfl) ?_
              refine lv_iload_n G.1 G.2.1 d_Cw_member_160 rfl (lv_at hl 0 rfl) ?_
              refine lv_iload_n G.1 G.2.1 d_Cw_member_161 rfl (lv_at hl 1 rfl) ?_
              refine lv_iconst (v := 1) G.1 G.2.1 d_Cw_member_162 (by decide) ?_
              refine ucVi (As := [.int x2j48, .int x3j48, .int 1]) (rest := []) G hP hD hS (cu_Wd_field l D g ad y _ s_4 x5j48 x2j48 x3j48 1 H.size c_x5j48 h) w9_Wd_field q1506 ⟨Nat.le_of_ble_eq_true rfl, Nat.le_of_ble_eq_true rfl⟩ rfl rfl c_x5j48 (q := (RWd, TWd, 17)) rfl rfl hl.1 rfl (Nat.le_of_ble_eq_true rfl) rfl ⟨Nat.le_refl _, Nat.le_refl _⟩ d_Cw_member_163 (fun r_19 s_20 H locs h hP hD hS => ?_)
              refine lv_iconst (v := 2) G.1 G.2.1 d_Cw_member_166 (by decide) ?_
              refine va_mmin G.1 G.2.1 (G.2.2.1.trans hl.1.symm) G.2.2.2.2.2.2.1 (G.2.2.2.2.2.1 _ q1523) (G.2.2.2.2.2.1 _ q484) (G.2.2.2.2.2.1 _ q337) (G.2.2.2.2.2.1 _ q485) (Nat.le_of_ble_eq_true rfl) (Nat.le_of_ble_eq_true rfl) (Nat.zero_le _) (Nat.zero_le _) d_Cw_member_167 ?_
              refine W.eq (g2 := F0 m 170 ls [.int (if 2 < r_19 then 2 else r_19)]) rfl ?_
              exact hret _ _ _ _ _ _ _ ls h hP hD hS (Nat.le_refl _) (Nat.le_refl _) d_Cw_member_170
            · skip
              have h := h.2 c51
              refine lv_iconst (v := (-1)) G.1 G.2.1 d_Cw_member_54 (by decide) ?_
              exact hret _ _ _ _ _ _ _ ls h hP hD hS (Nat.le_refl _) (Nat.le_refl _) d_Cw_member_55
          refine lv_icmp_ge (tgt := 46) G.1 G.2.1 d_Cw_member_38 (by decide) (fun c38 => ?_) (fun c38 => ?_)
          · skip
            have h := h.1 c38
            refine lv_bipush (v := 9) G.1 G.2.1 d_Cw_member_46 (by decide) ?_
            exact J_48 s_2 v2 v3 v4 r_1b v3 r_1b v2 9 H locs h hP hD hS ls (lv_sub hl [3, 4, 5, 0] rfl)
          · skip
            have h := h.2 c38
            refine lv_bipush (v := 11) G.1 G.2.1 d_Cw_member_41 (by decide) ?_
            refine lv_goto (tgt := 48) G.1 G.2.1 d_Cw_member_43 (by decide) ?_
            exact J_48 s_2 v2 v3 v4 r_1b v3 r_1b v2 11 H locs h hP hD hS ls (lv_sub hl [3, 4, 5, 0] rfl)
        · skip
          have h := h.2 c26
          exact J_29 s_2 H locs h hP hD hS ls (lv_sub hl [] rfl)
def y_Wd_up : MethodName := ⟨"ClassWorks$World", "up", "(I)I"⟩
abbrev b_Wd_up : ByteArray := prog_11_method_11_code
theorem d_Wd_up_0 : decode b_Wd_up 0 = .ok (.iload_n 1, 1) := by decide +kernel
theorem d_Wd_up_1 : decode b_Wd_up 1 = .ok (.bipush 19, 2) := by decide +kernel
theorem d_Wd_up_3 : decode b_Wd_up 3 = .ok (.imul, 1) := by decide +kernel
theorem d_Wd_up_4 : decode b_Wd_up 4 = .ok (.istore_n 2, 1) := by decide +kernel
theorem d_Wd_up_5 : decode b_Wd_up 5 = .ok (.aload_n 0, 1) := by decide +kernel
theorem d_Wd_up_6 : decode b_Wd_up 6 = .ok (.getfield 28, 3) := by decide +kernel
theorem d_Wd_up_9 : decode b_Wd_up 9 = .ok (.iload_n 2, 1) := by decide +kernel
theorem d_Wd_up_10 : decode b_Wd_up 10 = .ok (.iconst 1, 1) := by decide +kernel
theorem d_Wd_up_11 : decode b_Wd_up 11 = .ok (.iadd, 1) := by decide +kernel
theorem d_Wd_up_12 : decode b_Wd_up 12 = .ok (.iaload, 1) := by decide +kernel
theorem d_Wd_up_13 : decode b_Wd_up 13 = .ok (.iconst 4, 1) := by decide +kernel
theorem d_Wd_up_14 : decode b_Wd_up 14 = .ok (.iand, 1) := by decide +kernel
theorem d_Wd_up_15 : decode b_Wd_up 15 = .ok (.ifCond .eq 8, 3) := by decide +kernel
theorem d_Wd_up_18 : decode b_Wd_up 18 = .ok (.bipush 9, 2) := by decide +kernel
theorem d_Wd_up_20 : decode b_Wd_up 20 = .ok (.goto 11, 3) := by decide +kernel
theorem d_Wd_up_23 : decode b_Wd_up 23 = .ok (.aload_n 0, 1) := by decide +kernel
theorem d_Wd_up_24 : decode b_Wd_up 24 = .ok (.getfield 28, 3) := by decide +kernel
theorem d_Wd_up_27 : decode b_Wd_up 27 = .ok (.iload_n 2, 1) := by decide +kernel
theorem d_Wd_up_28 : decode b_Wd_up 28 = .ok (.iconst 2, 1) := by decide +kernel
theorem d_Wd_up_29 : decode b_Wd_up 29 = .ok (.iadd, 1) := by decide +kernel
theorem d_Wd_up_30 : decode b_Wd_up 30 = .ok (.iaload, 1) := by decide +kernel
theorem d_Wd_up_31 : decode b_Wd_up 31 = .ok (.istore_n 3, 1) := by decide +kernel
theorem d_Wd_up_32 : decode b_Wd_up 32 = .ok (.iload_n 3, 1) := by decide +kernel
theorem d_Wd_up_33 : decode b_Wd_up 33 = .ok (.ifCond .lt 28, 3) := by decide +kernel
theorem d_Wd_up_36 : decode b_Wd_up 36 = .ok (.iload_n 3, 1) := by decide +kernel
theorem d_Wd_up_37 : decode b_Wd_up 37 = .ok (.aload_n 0, 1) := by decide +kernel
theorem d_Wd_up_38 : decode b_Wd_up 38 = .ok (.getfield 60, 3) := by decide +kernel
theorem d_Wd_up_41 : decode b_Wd_up 41 = .ok (.getfield 91, 3) := by decide +kernel
theorem d_Wd_up_44 : decode b_Wd_up 44 = .ok (.if_icmp .ge 17, 3) := by decide +kernel
theorem d_Wd_up_47 : decode b_Wd_up 47 = .ok (.aload_n 0, 1) := by decide +kernel
theorem d_Wd_up_48 : decode b_Wd_up 48 = .ok (.getfield 60, 3) := by decide +kernel
theorem d_Wd_up_51 : decode b_Wd_up 51 = .ok (.getfield 98, 3) := by decide +kernel
theorem d_Wd_up_54 : decode b_Wd_up 54 = .ok (.iload_n 3, 1) := by decide +kernel
theorem d_Wd_up_55 : decode b_Wd_up 55 = .ok (.iaload, 1) := by decide +kernel
theorem d_Wd_up_56 : decode b_Wd_up 56 = .ok (.iconst 1, 1) := by decide +kernel
theorem d_Wd_up_57 : decode b_Wd_up 57 = .ok (.isub, 1) := by decide +kernel
theorem d_Wd_up_58 : decode b_Wd_up 58 = .ok (.goto 4, 3) := by decide +kernel
theorem d_Wd_up_61 : decode b_Wd_up 61 = .ok (.iconst (-1), 1) := by decide +kernel
theorem d_Wd_up_62 : decode b_Wd_up 62 = .ok (.ireturn, 1) := by decide +kernel
abbrev ru_Wd_up : Room := { frames := 0, cells := 0, slots := 0, locals := 0 }
def wj_Wd_up_62 (y : Ly) (Post : St → Int32 → Prop) (a0 : Nat) (s_j62 : St) (z0j62 : Int32) : Prop := Post s_j62 z0j62
def wj_Wd_up_61 (y : Ly) (Post : St → Int32 → Prop) (a0 : Nat) (s_j61 : St) : Prop := wj_Wd_up_62 y Post a0 s_j61 (-1)
def wj_Wd_up_31 (y : Ly) (Post : St → Int32 → Prop) (a0 : Nat) (s_j31 : St) (z0j31 : Int32) : Prop := ((z0j31 < 0 → wj_Wd_up_61 y Post a0 s_j31) ∧ (¬ (z0j31 < 0) → (((sV s_j31 (lk a0 14) 1) ≤ z0j31 → wj_Wd_up_61 y Post a0 s_j31) ∧ (¬ ((sV s_j31 (lk a0 14) 1) ≤ z0j31) → xA y s_j31 (lk a0 14) 0 z0j31 (fun x_2 : Int32 => wj_Wd_up_62 y Post a0 s_j31 (x_2 - 1))))))
def wu_Wd_up (y : Ly) (Post : St → Int32 → Prop) (σ : St) (a0 : Nat) (v1 : Int32) : Prop := xA y σ a0 6 ((v1 * 19) + 1) (fun x_1 : Int32 => (((x_1 &&& 4) = 0 → xA y σ a0 6 ((v1 * 19) + 2) (fun x_3 : Int32 => wj_Wd_up_31 y Post a0 σ x_3)) ∧ (¬ ((x_1 &&& 4) = 0) → wj_Wd_up_31 y Post a0 σ 9)))
set_option maxHeartbeats 4000000 in
set_option maxRecDepth 100000 in
theorem cu_Wd_up (l : Launch) (D : va_G) (g : Nat → ClassId) (ad : Nat → Nat) (y : Ly) (Post : St → Int32 → Prop) (σ : St) (a0 : Nat) (v1 : Int32) (sz : Nat) (h_a0 : cl a0 = 9) (h : wu_Wd_up y Post σ a0 v1) : Met l y_Wd_up (mw y_Wd_up b_Wd_up 4 (some .int)) ru_Wd_up (PC g D [] [.ref (ad a0), .int v1] sz (ws g ad y σ)) (va_Qi (fun (r : Int32) (u : St) => Post u r) (QW D (va_A (ws g ad y σ) sz) (fun u => ws g ad y u)) (va_A (ws g ad y σ) sz)) 0 0 (va_A (ws g ad y σ) sz) := by
  refine ofI (by decide +kernel) (Nat.le_of_ble_eq_true rfl) ?_
  intro p e s m args below meth c A Q ls H locs G hsz hP hD hS hl hret
  subst hsz
  have hl : lv_has ls 4 [(0, .ref (ad a0)), (1, .int v1)] := hl
  unfold wu_Wd_up at h
  refine lv_iload_n G.1 G.2.1 d_Wd_up_0 rfl (lv_at hl 1 rfl) ?_
  refine lv_bipush (v := 19) G.1 G.2.1 d_Wd_up_1 (by decide) ?_
  refine lv_imul G.1 G.2.1 d_Wd_up_3 ?_
  refine lv_istore_n (lv' := [(2, .int (v1 * 19)), (0, .ref (ad a0)), (1, .int v1)]) G.1 G.2.1 d_Wd_up_4 rfl hl (by decide) rfl (fun ls hl => ?_)
  refine lv_aload_n G.1 G.2.1 d_Wd_up_5 rfl (lv_at hl 1 rfl) ?_
  refine ugf (v := .ref (yP y a0 6)) G hP h_a0 iWd rfl 6 (by decide) rfl q831 rfl rfl d_Wd_up_6 ?_
  refine lv_iload_n G.1 G.2.1 d_Wd_up_9 rfl (lv_at hl 0 rfl) ?_
  refine lv_iconst (v := 1) G.1 G.2.1 d_Wd_up_10 (by decide) ?_
  refine lv_iadd G.1 G.2.1 d_Wd_up_11 ?_
  refine uiald G hP (kdp h_a0 rfl) (typ h_a0 rfl) h d_Wd_up_12 (fun x_1 h => ?_)
  refine lv_iconst (v := 4) G.1 G.2.1 d_Wd_up_13 (by decide) ?_
  refine W.eq (g2 := F0 m 14 ls [.int 4, .int x_1]) rfl ?_
  refine lv_iand G.1 G.2.1 d_Wd_up_14 ?_
  have J_31 : ∀ (s_j31 : St) (z0j31 : Int32) (H : Heap) (locs : List Loc), wj_Wd_up_31 y Post a0 s_j31 z0j31 → va_P D CL (ws g ad y s_j31) H → va_D A (ws g ad y s_j31) → va_S A s.heap H locs → ∀ ls, lv_has ls 4 [(0, .ref (ad a0))] → W p l e ru_Wd_up s m args below meth c H locs 0 0 Q (F0 m 31 ls [.int z0j31]) := by
    intro s_j31 z0j31 H locs h hP hD hS ls hl
    unfold wj_Wd_up_31 at h
    refine lv_istore_n (lv' := [(3, .int z0j31), (0, .ref (ad a0))]) G.1 G.2.1 d_Wd_up_31 rfl hl (by decide) rfl (fun ls hl => ?_)
    refine lv_iload_n G.1 G.2.1 d_Wd_up_32 rfl (lv_at hl 0 rfl) ?_
    have J_62 : ∀ (s_j62 : St) (z0j62 : Int32) (H : Heap) (locs : List Loc), wj_Wd_up_62 y Post a0 s_j62 z0j62 → va_P D CL (ws g ad y s_j62) H → va_D A (ws g ad y s_j62) → va_S A s.heap H locs → ∀ ls, lv_has ls 4 [] → W p l e ru_Wd_up s m args below meth c H locs 0 0 Q (F0 m 62 ls [.int z0j62]) := by
      intro s_j62 z0j62 H locs h hP hD hS ls hl
      unfold wj_Wd_up_62 at h
      exact hret _ _ _ _ _ _ _ ls h hP hD hS (Nat.le_refl _) (Nat.le_refl _) d_Wd_up_62
    have J_61 : ∀ (s_j61 : St) (H : Heap) (locs : List Loc), wj_Wd_up_61 y Post a0 s_j61 → va_P D CL (ws g ad y s_j61) H → va_D A (ws g ad y s_j61) → va_S A s.heap H locs → ∀ ls, lv_has ls 4 [] → W p l e ru_Wd_up s m args below meth c H locs 0 0 Q (F0 m 61 ls []) := by
      intro s_j61 H locs h hP hD hS ls hl
      unfold wj_Wd_up_61 at h
      refine lv_iconst (v := (-1)) G.1 G.2.1 d_Wd_up_61 (by decide) ?_
      exact J_62 s_j61 (-1) H locs h hP hD hS ls (lv_sub hl [] rfl)
    refine lv_if_lt (tgt := 61) G.1 G.2.1 d_Wd_up_33 (by decide) (fun c33 => ?_) (fun c33 => ?_)
    · skip
      have h := h.1 c33
      exact J_61 s_j31 H locs h hP hD hS ls (lv_sub hl [] rfl)
    · skip
      have h := h.2 c33
      refine lv_iload_n G.1 G.2.1 d_Wd_up_36 rfl (lv_at hl 0 rfl) ?_
      refine lv_aload_n G.1 G.2.1 d_Wd_up_37 rfl (lv_at hl 1 rfl) ?_
      refine ugf (v := .ref (ad (lk a0 14))) G hP h_a0 iWd rfl 14 (by decide) rfl q860 rfl rfl d_Wd_up_38 ?_
      refine ugf (v := .int (sV s_j31 (lk a0 14) 1)) G hP (lk_9_14 h_a0) iIn rfl 1 (by decide) rfl q391 rfl rfl d_Wd_up_41 ?_
      refine lv_icmp_ge (tgt := 61) G.1 G.2.1 d_Wd_up_44 (by decide) (fun c44 => ?_) (fun c44 => ?_)
      · skip
        have h := h.1 c44
        exact J_61 s_j31 H locs h hP hD hS ls (lv_sub hl [] rfl)
      · skip
        have h := h.2 c44
        refine lv_aload_n G.1 G.2.1 d_Wd_up_47 rfl (lv_at hl 1 rfl) ?_
        refine ugf (v := .ref (ad (lk a0 14))) G hP h_a0 iWd rfl 14 (by decide) rfl q860 rfl rfl d_Wd_up_48 ?_
        refine ugf (v := .ref (yP y (lk a0 14) 0)) G hP (lk_9_14 h_a0) iIn rfl 0 (by decide) rfl q384 rfl rfl d_Wd_up_51 ?_
        refine W.eq (g2 := F0 m 54 ls [.ref (yP y (lk a0 14) 0)]) rfl ?_
        refine lv_iload_n G.1 G.2.1 d_Wd_up_54 rfl (lv_at hl 0 rfl) ?_
        refine uiald G hP (kdp (lk_9_14 h_a0) rfl) (typ (lk_9_14 h_a0) rfl) h d_Wd_up_55 (fun x_2 h => ?_)
        refine lv_iconst (v := 1) G.1 G.2.1 d_Wd_up_56 (by decide) ?_
        refine lv_isub G.1 G.2.1 d_Wd_up_57 ?_
        refine lv_goto (tgt := 62) G.1 G.2.1 d_Wd_up_58 (by decide) ?_
        exact J_62 s_j31 (x_2 - 1) H locs h hP hD hS ls (lv_sub hl [] rfl)
  refine lv_if_eq (tgt := 23) G.1 G.2.1 d_Wd_up_15 (by decide) (fun c15 => ?_) (fun c15 => ?_)
  · skip
    have h := h.1 c15
    refine lv_aload_n G.1 G.2.1 d_Wd_up_23 rfl (lv_at hl 1 rfl) ?_
    refine ugf (v := .ref (yP y a0 6)) G hP h_a0 iWd rfl 6 (by decide) rfl q831 rfl rfl d_Wd_up_24 ?_
    refine lv_iload_n G.1 G.2.1 d_Wd_up_27 rfl (lv_at hl 0 rfl) ?_
    refine lv_iconst (v := 2) G.1 G.2.1 d_Wd_up_28 (by decide) ?_
    refine lv_iadd G.1 G.2.1 d_Wd_up_29 ?_
    refine uiald G hP (kdp h_a0 rfl) (typ h_a0 rfl) h d_Wd_up_30 (fun x_3 h => ?_)
    exact J_31 σ x_3 H locs h hP hD hS ls (lv_sub hl [1] rfl)
  · skip
    have h := h.2 c15
    refine lv_bipush (v := 9) G.1 G.2.1 d_Wd_up_18 (by decide) ?_
    refine lv_goto (tgt := 31) G.1 G.2.1 d_Wd_up_20 (by decide) ?_
    exact J_31 σ 9 H locs h hP hD hS ls (lv_sub hl [1] rfl)
def y_Wd_face : MethodName := ⟨"ClassWorks$World", "face", "(II)I"⟩
abbrev b_Wd_face : ByteArray := prog_11_method_12_code
theorem d_Wd_face_0 : decode b_Wd_face 0 = .ok (.aload_n 0, 1) := by decide +kernel
theorem d_Wd_face_1 : decode b_Wd_face 1 = .ok (.getfield 28, 3) := by decide +kernel
theorem d_Wd_face_4 : decode b_Wd_face 4 = .ok (.iload_n 1, 1) := by decide +kernel
theorem d_Wd_face_5 : decode b_Wd_face 5 = .ok (.bipush 19, 2) := by decide +kernel
theorem d_Wd_face_7 : decode b_Wd_face 7 = .ok (.imul, 1) := by decide +kernel
theorem d_Wd_face_8 : decode b_Wd_face 8 = .ok (.iconst 4, 1) := by decide +kernel
theorem d_Wd_face_9 : decode b_Wd_face 9 = .ok (.iadd, 1) := by decide +kernel
theorem d_Wd_face_10 : decode b_Wd_face 10 = .ok (.iload_n 2, 1) := by decide +kernel
theorem d_Wd_face_11 : decode b_Wd_face 11 = .ok (.iadd, 1) := by decide +kernel
theorem d_Wd_face_12 : decode b_Wd_face 12 = .ok (.iaload, 1) := by decide +kernel
theorem d_Wd_face_13 : decode b_Wd_face 13 = .ok (.istore_n 3, 1) := by decide +kernel
theorem d_Wd_face_14 : decode b_Wd_face 14 = .ok (.iload_n 3, 1) := by decide +kernel
theorem d_Wd_face_15 : decode b_Wd_face 15 = .ok (.aload_n 0, 1) := by decide +kernel
theorem d_Wd_face_16 : decode b_Wd_face 16 = .ok (.getfield 60, 3) := by decide +kernel
theorem d_Wd_face_19 : decode b_Wd_face 19 = .ok (.getfield 91, 3) := by decide +kernel
theorem d_Wd_face_22 : decode b_Wd_face 22 = .ok (.if_icmp .ge 17, 3) := by decide +kernel
theorem d_Wd_face_25 : decode b_Wd_face 25 = .ok (.aload_n 0, 1) := by decide +kernel
theorem d_Wd_face_26 : decode b_Wd_face 26 = .ok (.getfield 60, 3) := by decide +kernel
theorem d_Wd_face_29 : decode b_Wd_face 29 = .ok (.getfield 98, 3) := by decide +kernel
theorem d_Wd_face_32 : decode b_Wd_face 32 = .ok (.iload_n 3, 1) := by decide +kernel
theorem d_Wd_face_33 : decode b_Wd_face 33 = .ok (.iaload, 1) := by decide +kernel
theorem d_Wd_face_34 : decode b_Wd_face 34 = .ok (.iconst 1, 1) := by decide +kernel
theorem d_Wd_face_35 : decode b_Wd_face 35 = .ok (.isub, 1) := by decide +kernel
theorem d_Wd_face_36 : decode b_Wd_face 36 = .ok (.goto 4, 3) := by decide +kernel
theorem d_Wd_face_39 : decode b_Wd_face 39 = .ok (.iconst (-1), 1) := by decide +kernel
theorem d_Wd_face_40 : decode b_Wd_face 40 = .ok (.ireturn, 1) := by decide +kernel
abbrev ru_Wd_face : Room := { frames := 0, cells := 0, slots := 0, locals := 0 }
def wj_Wd_face_40 (y : Ly) (Post : St → Int32 → Prop) (a0 : Nat) (s_j40 : St) (z0j40 : Int32) : Prop := Post s_j40 z0j40
def wu_Wd_face (y : Ly) (Post : St → Int32 → Prop) (σ : St) (a0 : Nat) (v1 : Int32) (v2 : Int32) : Prop := xA y σ a0 6 (((v1 * 19) + 4) + v2) (fun x_1 : Int32 => (((sV σ (lk a0 14) 1) ≤ x_1 → wj_Wd_face_40 y Post a0 σ (-1)) ∧ (¬ ((sV σ (lk a0 14) 1) ≤ x_1) → xA y σ (lk a0 14) 0 x_1 (fun x_2 : Int32 => wj_Wd_face_40 y Post a0 σ (x_2 - 1)))))
set_option maxHeartbeats 4000000 in
set_option maxRecDepth 100000 in
theorem cu_Wd_face (l : Launch) (D : va_G) (g : Nat → ClassId) (ad : Nat → Nat) (y : Ly) (Post : St → Int32 → Prop) (σ : St) (a0 : Nat) (v1 : Int32) (v2 : Int32) (sz : Nat) (h_a0 : cl a0 = 9) (h : wu_Wd_face y Post σ a0 v1 v2) : Met l y_Wd_face (mw y_Wd_face b_Wd_face 4 (some .int)) ru_Wd_face (PC g D [] [.ref (ad a0), .int v1, .int v2] sz (ws g ad y σ)) (va_Qi (fun (r : Int32) (u : St) => Post u r) (QW D (va_A (ws g ad y σ) sz) (fun u => ws g ad y u)) (va_A (ws g ad y σ) sz)) 0 0 (va_A (ws g ad y σ) sz) := by
  refine ofI (by decide +kernel) (Nat.le_of_ble_eq_true rfl) ?_
  intro p e s m args below meth c A Q ls H locs G hsz hP hD hS hl hret
  subst hsz
  have hl : lv_has ls 4 [(0, .ref (ad a0)), (1, .int v1), (2, .int v2)] := hl
  unfold wu_Wd_face at h
  refine lv_aload_n G.1 G.2.1 d_Wd_face_0 rfl (lv_at hl 0 rfl) ?_
  refine ugf (v := .ref (yP y a0 6)) G hP h_a0 iWd rfl 6 (by decide) rfl q831 rfl rfl d_Wd_face_1 ?_
  refine lv_iload_n G.1 G.2.1 d_Wd_face_4 rfl (lv_at hl 1 rfl) ?_
  refine lv_bipush (v := 19) G.1 G.2.1 d_Wd_face_5 (by decide) ?_
  refine lv_imul G.1 G.2.1 d_Wd_face_7 ?_
  refine lv_iconst (v := 4) G.1 G.2.1 d_Wd_face_8 (by decide) ?_
  refine lv_iadd G.1 G.2.1 d_Wd_face_9 ?_
  refine lv_iload_n G.1 G.2.1 d_Wd_face_10 rfl (lv_at hl 2 rfl) ?_
  refine lv_iadd G.1 G.2.1 d_Wd_face_11 ?_
  refine uiald G hP (kdp h_a0 rfl) (typ h_a0 rfl) h d_Wd_face_12 (fun x_1 h => ?_)
  refine lv_istore_n (lv' := [(3, .int x_1), (0, .ref (ad a0)), (1, .int v1), (2, .int v2)]) G.1 G.2.1 d_Wd_face_13 rfl hl (by decide) rfl (fun ls hl => ?_)
  refine W.eq (g2 := F0 m 14 ls []) rfl ?_
  refine lv_iload_n G.1 G.2.1 d_Wd_face_14 rfl (lv_at hl 0 rfl) ?_
  refine lv_aload_n G.1 G.2.1 d_Wd_face_15 rfl (lv_at hl 1 rfl) ?_
  refine ugf (v := .ref (ad (lk a0 14))) G hP h_a0 iWd rfl 14 (by decide) rfl q860 rfl rfl d_Wd_face_16 ?_
  refine ugf (v := .int (sV σ (lk a0 14) 1)) G hP (lk_9_14 h_a0) iIn rfl 1 (by decide) rfl q391 rfl rfl d_Wd_face_19 ?_
  have J_40 : ∀ (s_j40 : St) (z0j40 : Int32) (H : Heap) (locs : List Loc), wj_Wd_face_40 y Post a0 s_j40 z0j40 → va_P D CL (ws g ad y s_j40) H → va_D A (ws g ad y s_j40) → va_S A s.heap H locs → ∀ ls, lv_has ls 4 [] → W p l e ru_Wd_face s m args below meth c H locs 0 0 Q (F0 m 40 ls [.int z0j40]) := by
    intro s_j40 z0j40 H locs h hP hD hS ls hl
    unfold wj_Wd_face_40 at h
    exact hret _ _ _ _ _ _ _ ls h hP hD hS (Nat.le_refl _) (Nat.le_refl _) d_Wd_face_40
  refine lv_icmp_ge (tgt := 39) G.1 G.2.1 d_Wd_face_22 (by decide) (fun c22 => ?_) (fun c22 => ?_)
  · skip
    have h := h.1 c22
    refine lv_iconst (v := (-1)) G.1 G.2.1 d_Wd_face_39 (by decide) ?_
    exact J_40 σ (-1) H locs h hP hD hS ls (lv_sub hl [] rfl)
  · skip
    have h := h.2 c22
    refine lv_aload_n G.1 G.2.1 d_Wd_face_25 rfl (lv_at hl 1 rfl) ?_
    refine ugf (v := .ref (ad (lk a0 14))) G hP h_a0 iWd rfl 14 (by decide) rfl q860 rfl rfl d_Wd_face_26 ?_
    refine ugf (v := .ref (yP y (lk a0 14) 0)) G hP (lk_9_14 h_a0) iIn rfl 0 (by decide) rfl q384 rfl rfl d_Wd_face_29 ?_
    refine lv_iload_n G.1 G.2.1 d_Wd_face_32 rfl (lv_at hl 0 rfl) ?_
    refine uiald G hP (kdp (lk_9_14 h_a0) rfl) (typ (lk_9_14 h_a0) rfl) h d_Wd_face_33 (fun x_2 h => ?_)
    refine lv_iconst (v := 1) G.1 G.2.1 d_Wd_face_34 (by decide) ?_
    refine lv_isub G.1 G.2.1 d_Wd_face_35 ?_
    refine W.eq (g2 := F0 m 36 ls [.int (x_2 - 1)]) rfl ?_
    refine lv_goto (tgt := 40) G.1 G.2.1 d_Wd_face_36 (by decide) ?_
    exact J_40 σ (x_2 - 1) H locs h hP hD hS ls (lv_sub hl [] rfl)
theorem q1550 : Cond.methodLink "ClassWorks$World" 101 y_Wd_face ∈ lw_ok := lw_okmem (List.mem_of_getElem? (i := 1550) (by decide +kernel)) rfl
theorem q1553 : Cond.code y_Wd_face b_Wd_face 4 (some .int) ∈ lw_ok := lw_okmem (List.mem_of_getElem? (i := 1553) (by decide +kernel)) rfl
theorem q1551 : Cond.instanceMethod y_Wd_face ∈ lw_ok := lw_okmem (List.mem_of_getElem? (i := 1551) (by decide +kernel)) rfl
theorem q1552 : Cond.selects y_Wd_face.cls y_Wd_face y_Wd_face ∈ lw_ok := lw_okmem (List.mem_of_getElem? (i := 1552) (by decide +kernel)) rfl
theorem w9_Wd_face : CWv y_Wd_face b_Wd_face 4 (some .int) 2 ∧ Cond.instanceMethod y_Wd_face ∈ lw_ok ∧ Cond.selects y_Wd_face.cls y_Wd_face y_Wd_face ∈ lw_ok := ⟨⟨q1553, q345, by decide +kernel, by decide +kernel, by decide +kernel⟩, q1551, q1552⟩
def y_Wd_ups : MethodName := ⟨"ClassWorks$World", "ups", "(II)J"⟩
abbrev b_Wd_ups : ByteArray := prog_11_method_21_code
theorem d_Wd_ups_0 : decode b_Wd_ups 0 = .ok (.iload_n 2, 1) := by decide +kernel
theorem d_Wd_ups_1 : decode b_Wd_ups 1 = .ok (.ifCond .ge 7, 3) := by decide +kernel
theorem d_Wd_ups_4 : decode b_Wd_ups 4 = .ok (.lconst 0, 1) := by decide +kernel
theorem d_Wd_ups_5 : decode b_Wd_ups 5 = .ok (.goto 6, 3) := by decide +kernel
theorem d_Wd_ups_8 : decode b_Wd_ups 8 = .ok (.lconst 1, 1) := by decide +kernel
theorem d_Wd_ups_9 : decode b_Wd_ups 9 = .ok (.iload_n 2, 1) := by decide +kernel
theorem d_Wd_ups_10 : decode b_Wd_ups 10 = .ok (.lshl, 1) := by decide +kernel
theorem d_Wd_ups_11 : decode b_Wd_ups 11 = .ok (.lstore_n 3, 1) := by decide +kernel
theorem d_Wd_ups_12 : decode b_Wd_ups 12 = .ok (.iconst 0, 1) := by decide +kernel
theorem d_Wd_ups_13 : decode b_Wd_ups 13 = .ok (.istore 5, 2) := by decide +kernel
theorem d_Wd_ups_15 : decode b_Wd_ups 15 = .ok (.iload 5, 2) := by decide +kernel
theorem d_Wd_ups_17 : decode b_Wd_ups 17 = .ok (.aload_n 0, 1) := by decide +kernel
theorem d_Wd_ups_18 : decode b_Wd_ups 18 = .ok (.getfield 28, 3) := by decide +kernel
theorem d_Wd_ups_21 : decode b_Wd_ups 21 = .ok (.iload_n 1, 1) := by decide +kernel
theorem d_Wd_ups_22 : decode b_Wd_ups 22 = .ok (.bipush 19, 2) := by decide +kernel
theorem d_Wd_ups_24 : decode b_Wd_ups 24 = .ok (.imul, 1) := by decide +kernel
theorem d_Wd_ups_25 : decode b_Wd_ups 25 = .ok (.iconst 3, 1) := by decide +kernel
theorem d_Wd_ups_26 : decode b_Wd_ups 26 = .ok (.iadd, 1) := by decide +kernel
theorem d_Wd_ups_27 : decode b_Wd_ups 27 = .ok (.iaload, 1) := by decide +kernel
theorem d_Wd_ups_28 : decode b_Wd_ups 28 = .ok (.if_icmp .ge 34, 3) := by decide +kernel
theorem d_Wd_ups_31 : decode b_Wd_ups 31 = .ok (.aload_n 0, 1) := by decide +kernel
theorem d_Wd_ups_32 : decode b_Wd_ups 32 = .ok (.iload_n 1, 1) := by decide +kernel
theorem d_Wd_ups_33 : decode b_Wd_ups 33 = .ok (.iload 5, 2) := by decide +kernel
theorem d_Wd_ups_35 : decode b_Wd_ups 35 = .ok (.invokevirtual 101, 3) := by decide +kernel
theorem d_Wd_ups_38 : decode b_Wd_ups 38 = .ok (.istore 6, 2) := by decide +kernel
theorem d_Wd_ups_40 : decode b_Wd_ups 40 = .ok (.lload_n 3, 1) := by decide +kernel
theorem d_Wd_ups_41 : decode b_Wd_ups 41 = .ok (.iload 6, 2) := by decide +kernel
theorem d_Wd_ups_43 : decode b_Wd_ups 43 = .ok (.ifCond .ge 7, 3) := by decide +kernel
theorem d_Wd_ups_46 : decode b_Wd_ups 46 = .ok (.lconst 0, 1) := by decide +kernel
theorem d_Wd_ups_47 : decode b_Wd_ups 47 = .ok (.goto 7, 3) := by decide +kernel
theorem d_Wd_ups_50 : decode b_Wd_ups 50 = .ok (.lconst 1, 1) := by decide +kernel
theorem d_Wd_ups_51 : decode b_Wd_ups 51 = .ok (.iload 6, 2) := by decide +kernel
theorem d_Wd_ups_53 : decode b_Wd_ups 53 = .ok (.lshl, 1) := by decide +kernel
theorem d_Wd_ups_54 : decode b_Wd_ups 54 = .ok (.lor, 1) := by decide +kernel
theorem d_Wd_ups_55 : decode b_Wd_ups 55 = .ok (.lstore_n 3, 1) := by decide +kernel
theorem d_Wd_ups_56 : decode b_Wd_ups 56 = .ok (.iinc 5 1, 3) := by decide +kernel
theorem d_Wd_ups_59 : decode b_Wd_ups 59 = .ok (.goto (-44), 3) := by decide +kernel
theorem d_Wd_ups_62 : decode b_Wd_ups 62 = .ok (.lload_n 3, 1) := by decide +kernel
theorem d_Wd_ups_63 : decode b_Wd_ups 63 = .ok (.lreturn, 1) := by decide +kernel
abbrev ru_Wd_ups : Room := { frames := 1, cells := 0, slots := 0, locals := 23 }
def wj_Wd_ups_54 (y : Ly) (Post : St → Int64 → Prop) (K_15 : St → Int32 → Int64 → Int32 → Prop) (a0 : Nat) (s_j54 : St) (x1j54 : Int32) (x5j54 : Int32) (z0j54 : Int64) (z1j54 : Int64) : Prop := K_15 s_j54 x1j54 (z0j54 ||| z1j54) (x5j54 + 1)
def wb_Wd_ups_15 (y : Ly) (Post : St → Int64 → Prop) (K_15 : St → Int32 → Int64 → Int32 → Prop) (a0 : Nat) (s_h15 : St) (x1h15 : Int32) (x3h15 : Int64) (x5h15 : Int32) : Prop := xA y s_h15 a0 6 ((x1h15 * 19) + 3) (fun x_1 : Int32 => ((x_1 ≤ x5h15 → Post s_h15 x3h15) ∧ (¬ (x_1 ≤ x5h15) → wu_Wd_face y (fun (s_3 : St) (r_2 : Int32) => ((0 ≤ r_2 → wj_Wd_ups_54 y Post K_15 a0 s_3 x1h15 x5h15 x3h15 (1 <<< (r_2.toInt64 &&& 63))) ∧ (¬ (0 ≤ r_2) → wj_Wd_ups_54 y Post K_15 a0 s_3 x1h15 x5h15 x3h15 0))) s_h15 a0 x1h15 x5h15)))
def wl_Wd_ups_15 (y : Ly) (Post : St → Int64 → Prop) (a0 : Nat) (s_h15 : St) (x1h15 : Int32) (x3h15 : Int64) (x5h15 : Int32) : Prop := ∃ (I : St → Int32 → Int64 → Int32 → Prop) (μ : St → Int32 → Int64 → Int32 → Nat), I s_h15 x1h15 x3h15 x5h15 ∧ ∀ (u : St) (t0 : Int32) (t1 : Int64) (t2 : Int32), I u t0 t1 t2 → wb_Wd_ups_15 y Post (fun z t0q t1q t2q => I z t0q t1q t2q ∧ μ z t0q t1q t2q < μ u t0 t1 t2) a0 u t0 t1 t2
def wj_Wd_ups_11 (y : Ly) (Post : St → Int64 → Prop) (a0 : Nat) (s_j11 : St) (x1j11 : Int32) (z0j11 : Int64) : Prop := wl_Wd_ups_15 y Post a0 s_j11 x1j11 z0j11 0
def wu_Wd_ups (y : Ly) (Post : St → Int64 → Prop) (σ : St) (a0 : Nat) (v1 : Int32) (v2 : Int32) : Prop := ((0 ≤ v2 → wj_Wd_ups_11 y Post a0 σ v1 (1 <<< (v2.toInt64 &&& 63))) ∧ (¬ (0 ≤ v2) → wj_Wd_ups_11 y Post a0 σ v1 0))
set_option maxHeartbeats 4000000 in
set_option maxRecDepth 100000 in
theorem cu_Wd_ups (l : Launch) (D : va_G) (g : Nat → ClassId) (ad : Nat → Nat) (y : Ly) (Post : St → Int64 → Prop) (σ : St) (a0 : Nat) (v1 : Int32) (v2 : Int32) (sz : Nat) (h_a0 : cl a0 = 9) (h : wu_Wd_ups y Post σ a0 v1 v2) : Met l y_Wd_ups (mw y_Wd_ups b_Wd_ups 7 (some (.long))) ru_Wd_ups (PC g D [] [.ref (ad a0), .int v1, .int v2] sz (ws g ad y σ)) (va_Ql (fun (r : Int64) (u : St) => Post u r) (QW D (va_A (ws g ad y σ) sz) (fun u => ws g ad y u)) (va_A (ws g ad y σ) sz)) 0 0 (va_A (ws g ad y σ) sz) := by
  refine ofL (by decide +kernel) (Nat.le_of_ble_eq_true rfl) ?_
  intro p e s m args below meth c A Q ls H locs G hsz hP hD hS hl hret
  subst hsz
  have hl : lv_has ls 7 [(0, .ref (ad a0)), (1, .int v1), (2, .int v2)] := hl
  unfold wu_Wd_ups at h
  refine lv_iload_n G.1 G.2.1 d_Wd_ups_0 rfl (lv_at hl 2 rfl) ?_
  have J_11 : ∀ (s_j11 : St) (x1j11 : Int32) (z0j11 : Int64) (H : Heap) (locs : List Loc), wj_Wd_ups_11 y Post a0 s_j11 x1j11 z0j11 → va_P D CL (ws g ad y s_j11) H → va_D A (ws g ad y s_j11) → va_S A s.heap H locs → ∀ ls, lv_has ls 7 [(0, .ref (ad a0)), (1, .int x1j11)] → W p l e ru_Wd_ups s m args below meth c H locs 0 0 Q (F0 m 11 ls [.long z0j11]) := by
    intro s_j11 x1j11 z0j11 H locs h hP hD hS ls hl
    unfold wj_Wd_ups_11 at h
    refine lv_lstore_n (lv' := [(3, .long z0j11), (0, .ref (ad a0)), (1, .int x1j11)]) G.1 G.2.1 d_Wd_ups_11 rfl hl (by decide) rfl (fun ls hl => ?_)
    refine lv_iconst (v := 0) G.1 G.2.1 d_Wd_ups_12 (by decide) ?_
    refine lv_istore (lv' := [(5, .int 0), (3, .long z0j11), (0, .ref (ad a0)), (1, .int x1j11)]) G.1 G.2.1 d_Wd_ups_13 hl (by decide) rfl (fun ls hl => ?_)
    unfold wl_Wd_ups_15 at h
    obtain ⟨I_15, μ_15, hI_15, hB_15⟩ := h
    have L_15 : ∀ (n_15 : Nat) (s_h15 : St) (x1h15 : Int32) (x3h15 : Int64) (x5h15 : Int32), μ_15 s_h15 x1h15 x3h15 x5h15 < n_15 → I_15 s_h15 x1h15 x3h15 x5h15 → ∀ (H : Heap) (locs : List Loc), va_P D CL (ws g ad y s_h15) H → va_D A (ws g ad y s_h15) → va_S A s.heap H locs → ∀ ls, lv_has ls 7 [(0, .ref (ad a0)), (1, .int x1h15), (3, .long x3h15), (5, .int x5h15)] → W p l e ru_Wd_ups s m args below meth c H locs 0 0 Q (F0 m 15 ls []) := by
      intro n_15
      induction n_15 with
      | zero => intro s_h15 x1h15 x3h15 x5h15 hμ; exact absurd hμ (Nat.not_lt_zero _)
      | succ n_15 ih_15 =>
        intro s_h15 x1h15 x3h15 x5h15 hμ_15 hJ H locs hP hD hS ls hl
        obtain ⟨K_15, hK_15, h⟩ : ∃ K : St → Int32 → Int64 → Int32 → Prop, (∀ z (t0 : Int32) (t1 : Int64) (t2 : Int32), K z t0 t1 t2 → I_15 z t0 t1 t2 ∧ μ_15 z t0 t1 t2 < μ_15 s_h15 x1h15 x3h15 x5h15) ∧ wb_Wd_ups_15 y Post K a0 s_h15 x1h15 x3h15 x5h15 := ⟨_, fun _ _ _ _ h => h, hB_15 s_h15 x1h15 x3h15 x5h15 hJ⟩
        unfold wb_Wd_ups_15 at h
        refine lv_iload G.1 G.2.1 d_Wd_ups_15 (lv_at hl 3 rfl) ?_
        refine lv_aload_n G.1 G.2.1 d_Wd_ups_17 rfl (lv_at hl 0 rfl) ?_
        refine ugf (v := .ref (yP y a0 6)) G hP h_a0 iWd rfl 6 (by decide) rfl q831 rfl rfl d_Wd_ups_18 ?_
        refine lv_iload_n G.1 G.2.1 d_Wd_ups_21 rfl (lv_at hl 1 rfl) ?_
        refine lv_bipush (v := 19) G.1 G.2.1 d_Wd_ups_22 (by decide) ?_
        refine lv_imul G.1 G.2.1 d_Wd_ups_24 ?_
        refine lv_iconst (v := 3) G.1 G.2.1 d_Wd_ups_25 (by decide) ?_
        refine lv_iadd G.1 G.2.1 d_Wd_ups_26 ?_
        refine uiald G hP (kdp h_a0 rfl) (typ h_a0 rfl) h d_Wd_ups_27 (fun x_1 h => ?_)
        refine lv_icmp_ge (tgt := 62) G.1 G.2.1 d_Wd_ups_28 (by decide) (fun c28 => ?_) (fun c28 => ?_)
        · skip
          have h := h.1 c28
          refine lv_lload_n G.1 G.2.1 d_Wd_ups_62 rfl (lv_at hl 2 rfl) ?_
          refine W.eq (g2 := F0 m 63 ls [.long x3h15]) rfl ?_
          exact hret _ _ _ _ _ _ _ ls h hP hD hS (Nat.le_refl _) (Nat.le_refl _) d_Wd_ups_63
        · skip
          have h := h.2 c28
          refine lv_aload_n G.1 G.2.1 d_Wd_ups_31 rfl (lv_at hl 0 rfl) ?_
          refine W.eq (g2 := F0 m 32 ls [.ref (ad a0)]) rfl ?_
          refine lv_iload_n G.1 G.2.1 d_Wd_ups_32 rfl (lv_at hl 1 rfl) ?_
          refine lv_iload G.1 G.2.1 d_Wd_ups_33 (lv_at hl 3 rfl) ?_
          refine ucVi (As := [.int x1h15, .int x5h15]) (rest := []) G hP hD hS (cu_Wd_face l D g ad y _ s_h15 a0 x1h15 x5h15 H.size h_a0 h) w9_Wd_face q1550 ⟨Nat.le_of_ble_eq_true rfl, Nat.le_of_ble_eq_true rfl⟩ rfl rfl h_a0 (q := (RWd, TWd, 17)) rfl rfl hl.1 rfl (Nat.le_of_ble_eq_true rfl) rfl ⟨Nat.le_refl _, Nat.le_refl _⟩ d_Wd_ups_35 (fun r_2 s_3 H locs h hP hD hS => ?_)
          refine lv_istore (lv' := [(6, .int r_2), (0, .ref (ad a0)), (1, .int x1h15), (3, .long x3h15), (5, .int x5h15)]) G.1 G.2.1 d_Wd_ups_38 hl (by decide) rfl (fun ls hl => ?_)
          refine lv_lload_n G.1 G.2.1 d_Wd_ups_40 rfl (lv_at hl 3 rfl) ?_
          refine lv_iload G.1 G.2.1 d_Wd_ups_41 (lv_at hl 0 rfl) ?_
          have J_54 : ∀ (s_j54 : St) (x1j54 : Int32) (x5j54 : Int32) (z0j54 : Int64) (z1j54 : Int64) (H : Heap) (locs : List Loc), wj_Wd_ups_54 y Post K_15 a0 s_j54 x1j54 x5j54 z0j54 z1j54 → va_P D CL (ws g ad y s_j54) H → va_D A (ws g ad y s_j54) → va_S A s.heap H locs → ∀ ls, lv_has ls 7 [(0, .ref (ad a0)), (1, .int x1j54), (5, .int x5j54)] → W p l e ru_Wd_ups s m args below meth c H locs 0 0 Q (F0 m 54 ls [.long z1j54, .long z0j54]) := by
            intro s_j54 x1j54 x5j54 z0j54 z1j54 H locs h hP hD hS ls hl
            unfold wj_Wd_ups_54 at h
            refine lv_lor G.1 G.2.1 d_Wd_ups_54 ?_
            refine lv_lstore_n (lv' := [(3, .long (z0j54 ||| z1j54)), (0, .ref (ad a0)), (1, .int x1j54), (5, .int x5j54)]) G.1 G.2.1 d_Wd_ups_55 rfl hl (by decide) rfl (fun ls hl => ?_)
            refine lv_iinc (v := x5j54 + 1) (lv' := [(5, .int (x5j54 + 1)), (3, .long (z0j54 ||| z1j54)), (0, .ref (ad a0)), (1, .int x1j54)]) G.1 G.2.1 d_Wd_ups_56 hl (k := 3) rfl rfl (by decide) rfl (fun ls hl => ?_)
            refine lv_goto (tgt := 15) G.1 G.2.1 d_Wd_ups_59 (by decide) ?_
            have h := hK_15 s_j54 x1j54 (z0j54 ||| z1j54) (x5j54 + 1) h
            exact ih_15 s_j54 x1j54 (z0j54 ||| z1j54) (x5j54 + 1) (Nat.lt_of_lt_of_le h.2 (Nat.le_of_lt_succ hμ_15)) h.1 H locs hP hD hS ls (lv_sub hl [2, 3, 1, 0] rfl)
          refine lv_if_ge (tgt := 50) G.1 G.2.1 d_Wd_ups_43 (by decide) (fun c43 => ?_) (fun c43 => ?_)
          · skip
            have h := h.1 c43
            refine lv_lconst (v := 1) G.1 G.2.1 d_Wd_ups_50 (by decide) ?_
            refine lv_iload G.1 G.2.1 d_Wd_ups_51 (lv_at hl 0 rfl) ?_
            refine lv_lshl G.1 G.2.1 d_Wd_ups_53 rfl ?_
            exact J_54 s_3 x1h15 x5h15 x3h15 (1 <<< (r_2.toInt64 &&& 63)) H locs h hP hD hS ls (lv_sub hl [1, 2, 4] rfl)
          · skip
            have h := h.2 c43
            refine lv_lconst (v := 0) G.1 G.2.1 d_Wd_ups_46 (by decide) ?_
            refine lv_goto (tgt := 54) G.1 G.2.1 d_Wd_ups_47 (by decide) ?_
            exact J_54 s_3 x1h15 x5h15 x3h15 0 H locs h hP hD hS ls (lv_sub hl [1, 2, 4] rfl)
    exact L_15 _ s_j11 x1j11 z0j11 0 (Nat.lt_succ_self _) hI_15 H locs hP hD hS ls (lv_sub hl [2, 3, 1, 0] rfl)
  refine lv_if_ge (tgt := 8) G.1 G.2.1 d_Wd_ups_1 (by decide) (fun c1 => ?_) (fun c1 => ?_)
  · skip
    have h := h.1 c1
    refine lv_lconst (v := 1) G.1 G.2.1 d_Wd_ups_8 (by decide) ?_
    refine lv_iload_n G.1 G.2.1 d_Wd_ups_9 rfl (lv_at hl 2 rfl) ?_
    refine lv_lshl G.1 G.2.1 d_Wd_ups_10 rfl ?_
    exact J_11 σ v1 (1 <<< (v2.toInt64 &&& 63)) H locs h hP hD hS ls (lv_sub hl [0, 1] rfl)
  · skip
    have h := h.2 c1
    refine lv_lconst (v := 0) G.1 G.2.1 d_Wd_ups_4 (by decide) ?_
    refine lv_goto (tgt := 11) G.1 G.2.1 d_Wd_ups_5 (by decide) ?_
    exact J_11 σ v1 0 H locs h hP hD hS ls (lv_sub hl [0, 1] rfl)
theorem q1546 : Cond.methodLink "ClassWorks$World" 111 y_Wd_ups ∈ lw_ok := lw_okmem (List.mem_of_getElem? (i := 1546) (by decide +kernel)) rfl
theorem q1549 : Cond.code y_Wd_ups b_Wd_ups 7 (some (.long)) ∈ lw_ok := lw_okmem (List.mem_of_getElem? (i := 1549) (by decide +kernel)) rfl
theorem q1547 : Cond.instanceMethod y_Wd_ups ∈ lw_ok := lw_okmem (List.mem_of_getElem? (i := 1547) (by decide +kernel)) rfl
theorem q1548 : Cond.selects y_Wd_ups.cls y_Wd_ups y_Wd_ups ∈ lw_ok := lw_okmem (List.mem_of_getElem? (i := 1548) (by decide +kernel)) rfl
theorem w9_Wd_ups : CWv y_Wd_ups b_Wd_ups 7 (some (.long)) 2 ∧ Cond.instanceMethod y_Wd_ups ∈ lw_ok ∧ Cond.selects y_Wd_ups.cls y_Wd_ups y_Wd_ups ∈ lw_ok := ⟨⟨q1549, q345, by decide +kernel, by decide +kernel, by decide +kernel⟩, q1547, q1548⟩
theorem q1554 : Cond.constantLong "ClassWorks$World" 115 (-1) ∈ lw_ok := lw_okmem (List.mem_of_getElem? (i := 1554) (by decide +kernel)) rfl
theorem q1542 : Cond.methodLink "ClassWorks$World" 108 y_Wd_up ∈ lw_ok := lw_okmem (List.mem_of_getElem? (i := 1542) (by decide +kernel)) rfl
theorem q1545 : Cond.code y_Wd_up b_Wd_up 4 (some .int) ∈ lw_ok := lw_okmem (List.mem_of_getElem? (i := 1545) (by decide +kernel)) rfl
theorem q1543 : Cond.instanceMethod y_Wd_up ∈ lw_ok := lw_okmem (List.mem_of_getElem? (i := 1543) (by decide +kernel)) rfl
theorem q1544 : Cond.selects y_Wd_up.cls y_Wd_up y_Wd_up ∈ lw_ok := lw_okmem (List.mem_of_getElem? (i := 1544) (by decide +kernel)) rfl
theorem w9_Wd_up : CWv y_Wd_up b_Wd_up 4 (some .int) 1 ∧ Cond.instanceMethod y_Wd_up ∈ lw_ok ∧ Cond.selects y_Wd_up.cls y_Wd_up y_Wd_up ∈ lw_ok := ⟨⟨q1545, q345, by decide +kernel, by decide +kernel, by decide +kernel⟩, q1543, q1544⟩
def y_Wd_allAbove : MethodName := ⟨"ClassWorks$World", "allAbove", "(IZ)J"⟩
abbrev b_Wd_allAbove : ByteArray := prog_11_method_22_code
theorem q1541 : Cond.methodLink "ClassWorks$World" 105 y_Wd_toldParent ∈ lw_ok := lw_okmem (List.mem_of_getElem? (i := 1541) (by decide +kernel)) rfl
theorem d_Wd_allAbove_0 : decode b_Wd_allAbove 0 = .ok (.lconst 0, 1) := by decide +kernel
theorem d_Wd_allAbove_1 : decode b_Wd_allAbove 1 = .ok (.lstore_n 3, 1) := by decide +kernel
theorem d_Wd_allAbove_2 : decode b_Wd_allAbove 2 = .ok (.aload_n 0, 1) := by decide +kernel
theorem d_Wd_allAbove_3 : decode b_Wd_allAbove 3 = .ok (.iload_n 1, 1) := by decide +kernel
theorem d_Wd_allAbove_4 : decode b_Wd_allAbove 4 = .ok (.iload_n 2, 1) := by decide +kernel
theorem d_Wd_allAbove_5 : decode b_Wd_allAbove 5 = .ok (.ifCond .eq 11, 3) := by decide +kernel
theorem d_Wd_allAbove_8 : decode b_Wd_allAbove 8 = .ok (.aload_n 0, 1) := by decide +kernel
theorem d_Wd_allAbove_9 : decode b_Wd_allAbove 9 = .ok (.iload_n 1, 1) := by decide +kernel
theorem d_Wd_allAbove_10 : decode b_Wd_allAbove 10 = .ok (.invokevirtual 105, 3) := by decide +kernel
theorem d_Wd_allAbove_13 : decode b_Wd_allAbove 13 = .ok (.goto 8, 3) := by decide +kernel
theorem d_Wd_allAbove_16 : decode b_Wd_allAbove 16 = .ok (.aload_n 0, 1) := by decide +kernel
theorem d_Wd_allAbove_17 : decode b_Wd_allAbove 17 = .ok (.iload_n 1, 1) := by decide +kernel
theorem d_Wd_allAbove_18 : decode b_Wd_allAbove 18 = .ok (.invokevirtual 108, 3) := by decide +kernel
theorem d_Wd_allAbove_21 : decode b_Wd_allAbove 21 = .ok (.invokevirtual 111, 3) := by decide +kernel
theorem d_Wd_allAbove_24 : decode b_Wd_allAbove 24 = .ok (.lstore 5, 2) := by decide +kernel
theorem d_Wd_allAbove_26 : decode b_Wd_allAbove 26 = .ok (.iconst 0, 1) := by decide +kernel
theorem d_Wd_allAbove_27 : decode b_Wd_allAbove 27 = .ok (.istore 7, 2) := by decide +kernel
theorem d_Wd_allAbove_29 : decode b_Wd_allAbove 29 = .ok (.iload 7, 2) := by decide +kernel
theorem d_Wd_allAbove_31 : decode b_Wd_allAbove 31 = .ok (.bipush 51, 2) := by decide +kernel
theorem d_Wd_allAbove_33 : decode b_Wd_allAbove 33 = .ok (.if_icmp .ge 87, 3) := by decide +kernel
theorem d_Wd_allAbove_36 : decode b_Wd_allAbove 36 = .ok (.lload 5, 2) := by decide +kernel
theorem d_Wd_allAbove_38 : decode b_Wd_allAbove 38 = .ok (.lconst 0, 1) := by decide +kernel
theorem d_Wd_allAbove_39 : decode b_Wd_allAbove 39 = .ok (.lcmp, 1) := by decide +kernel
theorem d_Wd_allAbove_40 : decode b_Wd_allAbove 40 = .ok (.ifCond .eq 80, 3) := by decide +kernel
theorem d_Wd_allAbove_43 : decode b_Wd_allAbove 43 = .ok (.iconst 0, 1) := by decide +kernel
theorem d_Wd_allAbove_44 : decode b_Wd_allAbove 44 = .ok (.istore 8, 2) := by decide +kernel
theorem d_Wd_allAbove_46 : decode b_Wd_allAbove 46 = .ok (.iload 8, 2) := by decide +kernel
theorem d_Wd_allAbove_48 : decode b_Wd_allAbove 48 = .ok (.bipush 50, 2) := by decide +kernel
theorem d_Wd_allAbove_50 : decode b_Wd_allAbove 50 = .ok (.if_icmp .ge 21, 3) := by decide +kernel
theorem d_Wd_allAbove_53 : decode b_Wd_allAbove 53 = .ok (.lload 5, 2) := by decide +kernel
theorem d_Wd_allAbove_55 : decode b_Wd_allAbove 55 = .ok (.iload 8, 2) := by decide +kernel
theorem d_Wd_allAbove_57 : decode b_Wd_allAbove 57 = .ok (.lshr, 1) := by decide +kernel
theorem d_Wd_allAbove_58 : decode b_Wd_allAbove 58 = .ok (.lconst 1, 1) := by decide +kernel
theorem d_Wd_allAbove_59 : decode b_Wd_allAbove 59 = .ok (.land, 1) := by decide +kernel
theorem d_Wd_allAbove_60 : decode b_Wd_allAbove 60 = .ok (.lconst 0, 1) := by decide +kernel
theorem d_Wd_allAbove_61 : decode b_Wd_allAbove 61 = .ok (.lcmp, 1) := by decide +kernel
theorem d_Wd_allAbove_62 : decode b_Wd_allAbove 62 = .ok (.ifCond .ne 9, 3) := by decide +kernel
theorem d_Wd_allAbove_65 : decode b_Wd_allAbove 65 = .ok (.iinc 8 1, 3) := by decide +kernel
theorem d_Wd_allAbove_68 : decode b_Wd_allAbove 68 = .ok (.goto (-22), 3) := by decide +kernel
theorem d_Wd_allAbove_71 : decode b_Wd_allAbove 71 = .ok (.lload_n 3, 1) := by decide +kernel
theorem d_Wd_allAbove_72 : decode b_Wd_allAbove 72 = .ok (.lconst 1, 1) := by decide +kernel
theorem d_Wd_allAbove_73 : decode b_Wd_allAbove 73 = .ok (.iload 8, 2) := by decide +kernel
theorem d_Wd_allAbove_75 : decode b_Wd_allAbove 75 = .ok (.lshl, 1) := by decide +kernel
theorem d_Wd_allAbove_76 : decode b_Wd_allAbove 76 = .ok (.lor, 1) := by decide +kernel
theorem d_Wd_allAbove_77 : decode b_Wd_allAbove 77 = .ok (.lstore_n 3, 1) := by decide +kernel
theorem d_Wd_allAbove_78 : decode b_Wd_allAbove 78 = .ok (.lload 5, 2) := by decide +kernel
theorem d_Wd_allAbove_80 : decode b_Wd_allAbove 80 = .ok (.aload_n 0, 1) := by decide +kernel
theorem d_Wd_allAbove_81 : decode b_Wd_allAbove 81 = .ok (.iload 8, 2) := by decide +kernel
theorem d_Wd_allAbove_83 : decode b_Wd_allAbove 83 = .ok (.iload_n 2, 1) := by decide +kernel
theorem d_Wd_allAbove_84 : decode b_Wd_allAbove 84 = .ok (.ifCond .eq 12, 3) := by decide +kernel
theorem d_Wd_allAbove_87 : decode b_Wd_allAbove 87 = .ok (.aload_n 0, 1) := by decide +kernel
theorem d_Wd_allAbove_88 : decode b_Wd_allAbove 88 = .ok (.iload 8, 2) := by decide +kernel
theorem d_Wd_allAbove_90 : decode b_Wd_allAbove 90 = .ok (.invokevirtual 105, 3) := by decide +kernel
theorem d_Wd_allAbove_93 : decode b_Wd_allAbove 93 = .ok (.goto 9, 3) := by decide +kernel
theorem d_Wd_allAbove_96 : decode b_Wd_allAbove 96 = .ok (.aload_n 0, 1) := by decide +kernel
theorem d_Wd_allAbove_97 : decode b_Wd_allAbove 97 = .ok (.iload 8, 2) := by decide +kernel
theorem d_Wd_allAbove_99 : decode b_Wd_allAbove 99 = .ok (.invokevirtual 108, 3) := by decide +kernel
theorem d_Wd_allAbove_102 : decode b_Wd_allAbove 102 = .ok (.invokevirtual 111, 3) := by decide +kernel
theorem d_Wd_allAbove_105 : decode b_Wd_allAbove 105 = .ok (.lor, 1) := by decide +kernel
theorem d_Wd_allAbove_106 : decode b_Wd_allAbove 106 = .ok (.lload_n 3, 1) := by decide +kernel
theorem d_Wd_allAbove_107 : decode b_Wd_allAbove 107 = .ok (.ldc2_w 115, 3) := by decide +kernel
theorem d_Wd_allAbove_110 : decode b_Wd_allAbove 110 = .ok (.lxor, 1) := by decide +kernel
theorem d_Wd_allAbove_111 : decode b_Wd_allAbove 111 = .ok (.land, 1) := by decide +kernel
theorem d_Wd_allAbove_112 : decode b_Wd_allAbove 112 = .ok (.lstore 5, 2) := by decide +kernel
theorem d_Wd_allAbove_114 : decode b_Wd_allAbove 114 = .ok (.iinc 7 1, 3) := by decide +kernel
theorem d_Wd_allAbove_117 : decode b_Wd_allAbove 117 = .ok (.goto (-88), 3) := by decide +kernel
theorem d_Wd_allAbove_120 : decode b_Wd_allAbove 120 = .ok (.lload_n 3, 1) := by decide +kernel
theorem d_Wd_allAbove_121 : decode b_Wd_allAbove 121 = .ok (.lreturn, 1) := by decide +kernel
abbrev ru_Wd_allAbove : Room := { frames := 2, cells := 0, slots := 0, locals := 49 }
def wj_Wd_allAbove_120 (y : Ly) (Post : St → Int64 → Prop) (a0 : Nat) (s_j120 : St) (x3j120 : Int64) : Prop := Post s_j120 x3j120
def wj_Wd_allAbove_102 (y : Ly) (Post : St → Int64 → Prop) (K_29 : St → Int32 → Int64 → Int64 → Int32 → Prop) (a0 : Nat) (s_j102 : St) (x2j102 : Int32) (x3j102 : Int64) (x7j102 : Int32) (z0j102 : Int64) (z2j102 : Int32) (z3j102 : Int32) : Prop := wu_Wd_ups y (fun (s_4 : St) (r_3 : Int64) => K_29 s_4 x2j102 x3j102 ((z0j102 ||| r_3) &&& (x3j102 ^^^ (-1))) (x7j102 + 1)) s_j102 a0 z2j102 z3j102
def wj_Wd_allAbove_71 (y : Ly) (Post : St → Int64 → Prop) (K_29 : St → Int32 → Int64 → Int64 → Int32 → Prop) (a0 : Nat) (s_j71 : St) (x2j71 : Int32) (x3j71 : Int64) (x5j71 : Int64) (x7j71 : Int32) (x8j71 : Int32) : Prop := ((x2j71 = 0 → wu_Wd_up y (fun (s_6 : St) (r_5 : Int32) => wj_Wd_allAbove_102 y Post K_29 a0 s_6 x2j71 (x3j71 ||| (1 <<< (x8j71.toInt64 &&& 63))) x7j71 x5j71 x8j71 r_5) s_j71 a0 x8j71) ∧ (¬ (x2j71 = 0) → wu_Wd_toldParent y (fun (s_8 : St) (r_7 : Int32) => wj_Wd_allAbove_102 y Post K_29 a0 s_8 x2j71 (x3j71 ||| (1 <<< (x8j71.toInt64 &&& 63))) x7j71 x5j71 x8j71 r_7) s_j71 a0 x8j71))
def wb_Wd_allAbove_46 (y : Ly) (Post : St → Int64 → Prop) (K_29 : St → Int32 → Int64 → Int64 → Int32 → Prop) (K_46 : St → Int32 → Int64 → Int64 → Int32 → Int32 → Prop) (a0 : Nat) (s_h46 : St) (x2h46 : Int32) (x3h46 : Int64) (x5h46 : Int64) (x7h46 : Int32) (x8h46 : Int32) : Prop := ((50 ≤ x8h46 → wj_Wd_allAbove_71 y Post K_29 a0 s_h46 x2h46 x3h46 x5h46 x7h46 x8h46) ∧ (¬ (50 ≤ x8h46) → ((¬ (lg_cmp ((x5h46 >>> (x8h46.toInt64 &&& 63)) &&& 1) 0) = 0 → wj_Wd_allAbove_71 y Post K_29 a0 s_h46 x2h46 x3h46 x5h46 x7h46 x8h46) ∧ ((lg_cmp ((x5h46 >>> (x8h46.toInt64 &&& 63)) &&& 1) 0) = 0 → K_46 s_h46 x2h46 x3h46 x5h46 x7h46 (x8h46 + 1)))))
def wl_Wd_allAbove_46 (y : Ly) (Post : St → Int64 → Prop) (K_29 : St → Int32 → Int64 → Int64 → Int32 → Prop) (a0 : Nat) (s_h46 : St) (x2h46 : Int32) (x3h46 : Int64) (x5h46 : Int64) (x7h46 : Int32) (x8h46 : Int32) : Prop := ∃ (I : St → Int32 → Int64 → Int64 → Int32 → Int32 → Prop) (μ : St → Int32 → Int64 → Int64 → Int32 → Int32 → Nat), I s_h46 x2h46 x3h46 x5h46 x7h46 x8h46 ∧ ∀ (u : St) (t0 : Int32) (t1 : Int64) (t2 : Int64) (t3 : Int32) (t4 : Int32), I u t0 t1 t2 t3 t4 → wb_Wd_allAbove_46 y Post K_29 (fun z t0q t1q t2q t3q t4q => I z t0q t1q t2q t3q t4q ∧ μ z t0q t1q t2q t3q t4q < μ u t0 t1 t2 t3 t4) a0 u t0 t1 t2 t3 t4
def wb_Wd_allAbove_29 (y : Ly) (Post : St → Int64 → Prop) (K_29 : St → Int32 → Int64 → Int64 → Int32 → Prop) (a0 : Nat) (s_h29 : St) (x2h29 : Int32) (x3h29 : Int64) (x5h29 : Int64) (x7h29 : Int32) : Prop := ((51 ≤ x7h29 → wj_Wd_allAbove_120 y Post a0 s_h29 x3h29) ∧ (¬ (51 ≤ x7h29) → (((lg_cmp x5h29 0) = 0 → wj_Wd_allAbove_120 y Post a0 s_h29 x3h29) ∧ (¬ ((lg_cmp x5h29 0) = 0) → wl_Wd_allAbove_46 y Post K_29 a0 s_h29 x2h29 x3h29 x5h29 x7h29 0))))
def wl_Wd_allAbove_29 (y : Ly) (Post : St → Int64 → Prop) (a0 : Nat) (s_h29 : St) (x2h29 : Int32) (x3h29 : Int64) (x5h29 : Int64) (x7h29 : Int32) : Prop := ∃ (I : St → Int32 → Int64 → Int64 → Int32 → Prop) (μ : St → Int32 → Int64 → Int64 → Int32 → Nat), I s_h29 x2h29 x3h29 x5h29 x7h29 ∧ ∀ (u : St) (t0 : Int32) (t1 : Int64) (t2 : Int64) (t3 : Int32), I u t0 t1 t2 t3 → wb_Wd_allAbove_29 y Post (fun z t0q t1q t2q t3q => I z t0q t1q t2q t3q ∧ μ z t0q t1q t2q t3q < μ u t0 t1 t2 t3) a0 u t0 t1 t2 t3
def wj_Wd_allAbove_21 (y : Ly) (Post : St → Int64 → Prop) (a0 : Nat) (s_j21 : St) (x2j21 : Int32) (x3j21 : Int64) (z1j21 : Int32) (z2j21 : Int32) : Prop := wu_Wd_ups y (fun (s_2 : St) (r_1 : Int64) => wl_Wd_allAbove_29 y Post a0 s_2 x2j21 x3j21 r_1 0) s_j21 a0 z1j21 z2j21
def wu_Wd_allAbove (y : Ly) (Post : St → Int64 → Prop) (σ : St) (a0 : Nat) (v1 : Int32) (v2 : Int32) : Prop := ((v2 = 0 → wu_Wd_up y (fun (s_10 : St) (r_9 : Int32) => wj_Wd_allAbove_21 y Post a0 s_10 v2 0 v1 r_9) σ a0 v1) ∧ (¬ (v2 = 0) → wu_Wd_toldParent y (fun (s_12 : St) (r_11 : Int32) => wj_Wd_allAbove_21 y Post a0 s_12 v2 0 v1 r_11) σ a0 v1))
set_option maxHeartbeats 4000000 in
set_option maxRecDepth 100000 in
theorem cu_Wd_allAbove (l : Launch) (D : va_G) (g : Nat → ClassId) (ad : Nat → Nat) (y : Ly) (Post : St → Int64 → Prop) (σ : St) (a0 : Nat) (v1 : Int32) (v2 : Int32) (sz : Nat) (h_a0 : cl a0 = 9) (h : wu_Wd_allAbove y Post σ a0 v1 v2) : Met l y_Wd_allAbove (mw y_Wd_allAbove b_Wd_allAbove 9 (some (.long))) ru_Wd_allAbove (PC g D [] [.ref (ad a0), .int v1, .int v2] sz (ws g ad y σ)) (va_Ql (fun (r : Int64) (u : St) => Post u r) (QW D (va_A (ws g ad y σ) sz) (fun u => ws g ad y u)) (va_A (ws g ad y σ) sz)) 0 0 (va_A (ws g ad y σ) sz) := by
  refine ofL (by decide +kernel) (Nat.le_of_ble_eq_true rfl) ?_
  intro p e s m args below meth c A Q ls H locs G hsz hP hD hS hl hret
  subst hsz
  have hl : lv_has ls 9 [(0, .ref (ad a0)), (1, .int v1), (2, .int v2)] := hl
  unfold wu_Wd_allAbove at h
  refine lv_lconst (v := 0) G.1 G.2.1 d_Wd_allAbove_0 (by decide) ?_
  refine lv_lstore_n (lv' := [(3, .long 0), (0, .ref (ad a0)), (1, .int v1), (2, .int v2)]) G.1 G.2.1 d_Wd_allAbove_1 rfl hl (by decide) rfl (fun ls hl => ?_)
  refine lv_aload_n G.1 G.2.1 d_Wd_allAbove_2 rfl (lv_at hl 1 rfl) ?_
  refine lv_iload_n G.1 G.2.1 d_Wd_allAbove_3 rfl (lv_at hl 2 rfl) ?_
  refine lv_iload_n G.1 G.2.1 d_Wd_allAbove_4 rfl (lv_at hl 3 rfl) ?_
  have J_21 : ∀ (s_j21 : St) (x2j21 : Int32) (x3j21 : Int64) (z1j21 : Int32) (z2j21 : Int32) (H : Heap) (locs : List Loc), wj_Wd_allAbove_21 y Post a0 s_j21 x2j21 x3j21 z1j21 z2j21 → va_P D CL (ws g ad y s_j21) H → va_D A (ws g ad y s_j21) → va_S A s.heap H locs → ∀ ls, lv_has ls 9 [(0, .ref (ad a0)), (2, .int x2j21), (3, .long x3j21)] → W p l e ru_Wd_allAbove s m args below meth c H locs 0 0 Q (F0 m 21 ls [.int z2j21, .int z1j21, .ref (ad a0)]) := by
    intro s_j21 x2j21 x3j21 z1j21 z2j21 H locs h hP hD hS ls hl
    unfold wj_Wd_allAbove_21 at h
    refine ucVl (As := [.int z1j21, .int z2j21]) (rest := []) G hP hD hS (cu_Wd_ups l D g ad y _ s_j21 a0 z1j21 z2j21 H.size h_a0 h) w9_Wd_ups q1546 ⟨Nat.le_of_ble_eq_true rfl, Nat.le_of_ble_eq_true rfl⟩ rfl rfl h_a0 (q := (RWd, TWd, 17)) rfl rfl hl.1 rfl (Nat.le_of_ble_eq_true rfl) rfl ⟨Nat.le_refl _, Nat.le_refl _⟩ d_Wd_allAbove_21 (fun r_1 s_2 H locs h hP hD hS => ?_)
    refine lv_lstore (lv' := [(5, .long r_1), (0, .ref (ad a0)), (2, .int x2j21), (3, .long x3j21)]) G.1 G.2.1 d_Wd_allAbove_24 hl (by decide) rfl (fun ls hl => ?_)
    refine lv_iconst (v := 0) G.1 G.2.1 d_Wd_allAbove_26 (by decide) ?_
    refine lv_istore (lv' := [(7, .int 0), (5, .long r_1), (0, .ref (ad a0)), (2, .int x2j21), (3, .long x3j21)]) G.1 G.2.1 d_Wd_allAbove_27 hl (by decide) rfl (fun ls hl => ?_)
    unfold wl_Wd_allAbove_29 at h
    obtain ⟨I_29, μ_29, hI_29, hB_29⟩ := h
    have L_29 : ∀ (n_29 : Nat) (s_h29 : St) (x2h29 : Int32) (x3h29 : Int64) (x5h29 : Int64) (x7h29 : Int32), μ_29 s_h29 x2h29 x3h29 x5h29 x7h29 < n_29 → I_29 s_h29 x2h29 x3h29 x5h29 x7h29 → ∀ (H : Heap) (locs : List Loc), va_P D CL (ws g ad y s_h29) H → va_D A (ws g ad y s_h29) → va_S A s.heap H locs → ∀ ls, lv_has ls 9 [(0, .ref (ad a0)), (2, .int x2h29), (3, .long x3h29), (5, .long x5h29), (7, .int x7h29)] → W p l e ru_Wd_allAbove s m args below meth c H locs 0 0 Q (F0 m 29 ls []) := by
      intro n_29
      induction n_29 with
      | zero => intro s_h29 x2h29 x3h29 x5h29 x7h29 hμ; exact absurd hμ (Nat.not_lt_zero _)
      | succ n_29 ih_29 =>
        intro s_h29 x2h29 x3h29 x5h29 x7h29 hμ_29 hJ H locs hP hD hS ls hl
        obtain ⟨K_29, hK_29, h⟩ : ∃ K : St → Int32 → Int64 → Int64 → Int32 → Prop, (∀ z (t0 : Int32) (t1 : Int64) (t2 : Int64) (t3 : Int32), K z t0 t1 t2 t3 → I_29 z t0 t1 t2 t3 ∧ μ_29 z t0 t1 t2 t3 < μ_29 s_h29 x2h29 x3h29 x5h29 x7h29) ∧ wb_Wd_allAbove_29 y Post K a0 s_h29 x2h29 x3h29 x5h29 x7h29 := ⟨_, fun _ _ _ _ _ h => h, hB_29 s_h29 x2h29 x3h29 x5h29 x7h29 hJ⟩
        unfold wb_Wd_allAbove_29 at h
        refine lv_iload G.1 G.2.1 d_Wd_allAbove_29 (lv_at hl 4 rfl) ?_
        refine lv_bipush (v := 51) G.1 G.2.1 d_Wd_allAbove_31 (by decide) ?_
        have J_120 : ∀ (s_j120 : St) (x3j120 : Int64) (H : Heap) (locs : List Loc), wj_Wd_allAbove_120 y Post a0 s_j120 x3j120 → va_P D CL (ws g ad y s_j120) H → va_D A (ws g ad y s_j120) → va_S A s.heap H locs → ∀ ls, lv_has ls 9 [(3, .long x3j120)] → W p l e ru_Wd_allAbove s m args below meth c H locs 0 0 Q (F0 m 120 ls []) := by
          intro s_j120 x3j120 H locs h hP hD hS ls hl
          unfold wj_Wd_allAbove_120 at h
          refine lv_lload_n G.1 G.2.1 d_Wd_allAbove_120 rfl (lv_at hl 0 rfl) ?_
          exact hret _ _ _ _ _ _ _ ls h hP hD hS (Nat.le_refl _) (Nat.le_refl _) d_Wd_allAbove_121
        refine lv_icmp_ge (tgt := 120) G.1 G.2.1 d_Wd_allAbove_33 (by decide) (fun c33 => ?_) (fun c33 => ?_)
        · skip
          have h := h.1 c33
          exact J_120 s_h29 x3h29 H locs h hP hD hS ls (lv_sub hl [2] rfl)
        · skip
          have h := h.2 c33
          refine lv_lload G.1 G.2.1 d_Wd_allAbove_36 (lv_at hl 3 rfl) ?_
          refine lv_lconst (v := 0) G.1 G.2.1 d_Wd_allAbove_38 (by decide) ?_
          refine W.lcmp G.1 G.2.1 d_Wd_allAbove_39 ?_
          refine lv_if_eq (tgt := 120) G.1 G.2.1 d_Wd_allAbove_40 (by decide) (fun c40 => ?_) (fun c40 => ?_)
          · skip
            have h := h.1 c40
            exact J_120 s_h29 x3h29 H locs h hP hD hS ls (lv_sub hl [2] rfl)
          · skip
            have h := h.2 c40
            refine lv_iconst (v := 0) G.1 G.2.1 d_Wd_allAbove_43 (by decide) ?_
            refine lv_istore (lv' := [(8, .int 0), (0, .ref (ad a0)), (2, .int x2h29), (3, .long x3h29), (5, .long x5h29), (7, .int x7h29)]) G.1 G.2.1 d_Wd_allAbove_44 hl (by decide) rfl (fun ls hl => ?_)
            unfold wl_Wd_allAbove_46 at h
            obtain ⟨I_46, μ_46, hI_46, hB_46⟩ := h
            have L_46 : ∀ (n_46 : Nat) (s_h46 : St) (x2h46 : Int32) (x3h46 : Int64) (x5h46 : Int64) (x7h46 : Int32) (x8h46 : Int32), μ_46 s_h46 x2h46 x3h46 x5h46 x7h46 x8h46 < n_46 → I_46 s_h46 x2h46 x3h46 x5h46 x7h46 x8h46 → ∀ (H : Heap) (locs : List Loc), va_P D CL (ws g ad y s_h46) H → va_D A (ws g ad y s_h46) → va_S A s.heap H locs → ∀ ls, lv_has ls 9 [(0, .ref (ad a0)), (2, .int x2h46), (3, .long x3h46), (5, .long x5h46), (7, .int x7h46), (8, .int x8h46)] → W p l e ru_Wd_allAbove s m args below meth c H locs 0 0 Q (F0 m 46 ls []) := by
              intro n_46
              induction n_46 with
              | zero => intro s_h46 x2h46 x3h46 x5h46 x7h46 x8h46 hμ; exact absurd hμ (Nat.not_lt_zero _)
              | succ n_46 ih_46 =>
                intro s_h46 x2h46 x3h46 x5h46 x7h46 x8h46 hμ_46 hJ H locs hP hD hS ls hl
                obtain ⟨K_46, hK_46, h⟩ : ∃ K : St → Int32 → Int64 → Int64 → Int32 → Int32 → Prop, (∀ z (t0 : Int32) (t1 : Int64) (t2 : Int64) (t3 : Int32) (t4 : Int32), K z t0 t1 t2 t3 t4 → I_46 z t0 t1 t2 t3 t4 ∧ μ_46 z t0 t1 t2 t3 t4 < μ_46 s_h46 x2h46 x3h46 x5h46 x7h46 x8h46) ∧ wb_Wd_allAbove_46 y Post K_29 K a0 s_h46 x2h46 x3h46 x5h46 x7h46 x8h46 := ⟨_, fun _ _ _ _ _ _ h => h, hB_46 s_h46 x2h46 x3h46 x5h46 x7h46 x8h46 hJ⟩
                unfold wb_Wd_allAbove_46 at h
                refine lv_iload G.1 G.2.1 d_Wd_allAbove_46 (lv_at hl 5 rfl) ?_
                refine lv_bipush (v := 50) G.1 G.2.1 d_Wd_allAbove_48 (by decide) ?_
                have J_71 : ∀ (s_j71 : St) (x2j71 : Int32) (x3j71 : Int64) (x5j71 : Int64) (x7j71 : Int32) (x8j71 : Int32) (H : Heap) (locs : List Loc), wj_Wd_allAbove_71 y Post K_29 a0 s_j71 x2j71 x3j71 x5j71 x7j71 x8j71 → va_P D CL (ws g ad y s_j71) H → va_D A (ws g ad y s_j71) → va_S A s.heap H locs → ∀ ls, lv_has ls 9 [(0, .ref (ad a0)), (2, .int x2j71), (3, .long x3j71), (5, .long x5j71), (7, .int x7j71), (8, .int x8j71)] → W p l e ru_Wd_allAbove s m args below meth c H locs 0 0 Q (F0 m 71 ls []) := by
                  intro s_j71 x2j71 x3j71 x5j71 x7j71 x8j71 H locs h hP hD hS ls hl
                  unfold wj_Wd_allAbove_71 at h
                  refine lv_lload_n G.1 G.2.1 d_Wd_allAbove_71 rfl (lv_at hl 2 rfl) ?_
                  refine lv_lconst (v := 1) G.1 G.2.1 d_Wd_allAbove_72 (by decide) ?_
                  refine lv_iload G.1 G.2.1 d_Wd_allAbove_73 (lv_at hl 5 rfl) ?_
                  refine lv_lshl G.1 G.2.1 d_Wd_allAbove_75 rfl ?_
                  refine lv_lor G.1 G.2.1 d_Wd_allAbove_76 ?_
                  refine lv_lstore_n (lv' := [(3, .long (x3j71 ||| (1 <<< (x8j71.toInt64 &&& 63)))), (0, .ref (ad a0)), (2, .int x2j71), (5, .long x5j71), (7, .int x7j71), (8, .int x8j71)]) G.1 G.2.1 d_Wd_allAbove_77 rfl hl (by decide) rfl (fun ls hl => ?_)
                  refine lv_lload G.1 G.2.1 d_Wd_allAbove_78 (lv_at hl 3 rfl) ?_
                  refine lv_aload_n G.1 G.2.1 d_Wd_allAbove_80 rfl (lv_at hl 1 rfl) ?_
                  refine lv_iload G.1 G.2.1 d_Wd_allAbove_81 (lv_at hl 5 rfl) ?_
                  refine lv_iload_n G.1 G.2.1 d_Wd_allAbove_83 rfl (lv_at hl 2 rfl) ?_
                  have J_102 : ∀ (s_j102 : St) (x2j102 : Int32) (x3j102 : Int64) (x7j102 : Int32) (z0j102 : Int64) (z2j102 : Int32) (z3j102 : Int32) (H : Heap) (locs : List Loc), wj_Wd_allAbove_102 y Post K_29 a0 s_j102 x2j102 x3j102 x7j102 z0j102 z2j102 z3j102 → va_P D CL (ws g ad y s_j102) H → va_D A (ws g ad y s_j102) → va_S A s.heap H locs → ∀ ls, lv_has ls 9 [(0, .ref (ad a0)), (2, .int x2j102), (3, .long x3j102), (7, .int x7j102)] → W p l e ru_Wd_allAbove s m args below meth c H locs 0 0 Q (F0 m 102 ls [.int z3j102, .int z2j102, .ref (ad a0), .long z0j102]) := by
                    intro s_j102 x2j102 x3j102 x7j102 z0j102 z2j102 z3j102 H locs h hP hD hS ls hl
                    unfold wj_Wd_allAbove_102 at h
                    refine ucVl (As := [.int z2j102, .int z3j102]) (rest := [.long z0j102]) G hP hD hS (cu_Wd_ups l D g ad y _ s_j102 a0 z2j102 z3j102 H.size h_a0 h) w9_Wd_ups q1546 ⟨Nat.le_of_ble_eq_true rfl, Nat.le_of_ble_eq_true rfl⟩ rfl rfl h_a0 (q := (RWd, TWd, 17)) rfl rfl hl.1 rfl (Nat.le_of_ble_eq_true rfl) rfl ⟨Nat.le_refl _, Nat.le_refl _⟩ d_Wd_allAbove_102 (fun r_3 s_4 H locs h hP hD hS => ?_)
                    refine lv_lor G.1 G.2.1 d_Wd_allAbove_105 ?_
                    refine lv_lload_n G.1 G.2.1 d_Wd_allAbove_106 rfl (lv_at hl 2 rfl) ?_
                    refine lv_ldc2 (v := (-1)) G.1 G.2.1 G.2.2.2.2.2.2.1 (G.2.2.2.2.2.1 _ q1554) d_Wd_allAbove_107 ?_
                    refine lv_lxor G.1 G.2.1 d_Wd_allAbove_110 ?_
                    refine lv_land G.1 G.2.1 d_Wd_allAbove_111 ?_
                    refine lv_lstore (lv' := [(5, .long ((z0j102 ||| r_3) &&& (x3j102 ^^^ (-1)))), (0, .ref (ad a0)), (2, .int x2j102), (3, .long x3j102), (7, .int x7j102)]) G.1 G.2.1 d_Wd_allAbove_112 hl (by decide) rfl (fun ls hl => ?_)
                    refine lv_iinc (v := x7j102 + 1) (lv' := [(7, .int (x7j102 + 1)), (5, .long ((z0j102 ||| r_3) &&& (x3j102 ^^^ (-1)))), (0, .ref (ad a0)), (2, .int x2j102), (3, .long x3j102)]) G.1 G.2.1 d_Wd_allAbove_114 hl (k := 4) rfl rfl (by decide) rfl (fun ls hl => ?_)
                    refine lv_goto (tgt := 29) G.1 G.2.1 d_Wd_allAbove_117 (by decide) ?_
                    have h := hK_29 s_4 x2j102 x3j102 ((z0j102 ||| r_3) &&& (x3j102 ^^^ (-1))) (x7j102 + 1) h
                    exact ih_29 s_4 x2j102 x3j102 ((z0j102 ||| r_3) &&& (x3j102 ^^^ (-1))) (x7j102 + 1) (Nat.lt_of_lt_of_le h.2 (Nat.le_of_lt_succ hμ_29)) h.1 H locs hP hD hS ls (lv_sub hl [2, 3, 4, 1, 0] rfl)
                  refine lv_if_eq (tgt := 96) G.1 G.2.1 d_Wd_allAbove_84 (by decide) (fun c84 => ?_) (fun c84 => ?_)
                  · skip
                    have h := h.1 c84
                    refine W.eq (g2 := F0 m 96 ls [.int x8j71, .ref (ad a0), .long x5j71]) rfl ?_
                    refine lv_aload_n G.1 G.2.1 d_Wd_allAbove_96 rfl (lv_at hl 1 rfl) ?_
                    refine lv_iload G.1 G.2.1 d_Wd_allAbove_97 (lv_at hl 5 rfl) ?_
                    refine ucVi (As := [.int x8j71]) (rest := [.int x8j71, .ref (ad a0), .long x5j71]) G hP hD hS (cu_Wd_up l D g ad y _ s_j71 a0 x8j71 H.size h_a0 h) w9_Wd_up q1542 ⟨Nat.le_of_ble_eq_true rfl, Nat.le_of_ble_eq_true rfl⟩ rfl rfl h_a0 (q := (RWd, TWd, 17)) rfl rfl hl.1 rfl (Nat.le_of_ble_eq_true rfl) rfl ⟨Nat.le_refl _, Nat.le_refl _⟩ d_Wd_allAbove_99 (fun r_5 s_6 H locs h hP hD hS => ?_)
                    exact J_102 s_6 x2j71 (x3j71 ||| (1 <<< (x8j71.toInt64 &&& 63))) x7j71 x5j71 x8j71 r_5 H locs h hP hD hS ls (lv_sub hl [1, 2, 0, 4] rfl)
                  · skip
                    have h := h.2 c84
                    refine W.eq (g2 := F0 m 87 ls [.int x8j71, .ref (ad a0), .long x5j71]) rfl ?_
                    refine lv_aload_n G.1 G.2.1 d_Wd_allAbove_87 rfl (lv_at hl 1 rfl) ?_
                    refine lv_iload G.1 G.2.1 d_Wd_allAbove_88 (lv_at hl 5 rfl) ?_
                    refine ucVi (As := [.int x8j71]) (rest := [.int x8j71, .ref (ad a0), .long x5j71]) G hP hD hS (cu_Wd_toldParent l D g ad y _ s_j71 a0 x8j71 H.size h_a0 h) w9_Wd_toldParent q1541 ⟨Nat.le_of_ble_eq_true rfl, Nat.le_of_ble_eq_true rfl⟩ rfl rfl h_a0 (q := (RWd, TWd, 17)) rfl rfl hl.1 rfl (Nat.le_of_ble_eq_true rfl) rfl ⟨Nat.le_refl _, Nat.le_refl _⟩ d_Wd_allAbove_90 (fun r_7 s_8 H locs h hP hD hS => ?_)
                    refine lv_goto (tgt := 102) G.1 G.2.1 d_Wd_allAbove_93 (by decide) ?_
                    exact J_102 s_8 x2j71 (x3j71 ||| (1 <<< (x8j71.toInt64 &&& 63))) x7j71 x5j71 x8j71 r_7 H locs h hP hD hS ls (lv_sub hl [1, 2, 0, 4] rfl)
                refine lv_icmp_ge (tgt := 71) G.1 G.2.1 d_Wd_allAbove_50 (by decide) (fun c50 => ?_) (fun c50 => ?_)
                · skip
                  have h := h.1 c50
                  exact J_71 s_h46 x2h46 x3h46 x5h46 x7h46 x8h46 H locs h hP hD hS ls (lv_sub hl [0, 1, 2, 3, 4, 5] rfl)
                · skip
                  have h := h.2 c50
                  refine lv_lload G.1 G.2.1 d_Wd_allAbove_53 (lv_at hl 3 rfl) ?_
                  refine lv_iload G.1 G.2.1 d_Wd_allAbove_55 (lv_at hl 5 rfl) ?_
                  refine lv_lshr G.1 G.2.1 d_Wd_allAbove_57 rfl ?_
                  refine lv_lconst (v := 1) G.1 G.2.1 d_Wd_allAbove_58 (by decide) ?_
                  refine lv_land G.1 G.2.1 d_Wd_allAbove_59 ?_
                  refine lv_lconst (v := 0) G.1 G.2.1 d_Wd_allAbove_60 (by decide) ?_
                  refine W.lcmp G.1 G.2.1 d_Wd_allAbove_61 ?_
                  refine lv_if_ne (tgt := 71) G.1 G.2.1 d_Wd_allAbove_62 (by decide) (fun c62 => ?_) (fun c62 => ?_)
                  · skip
                    have h := h.1 c62
                    exact J_71 s_h46 x2h46 x3h46 x5h46 x7h46 x8h46 H locs h hP hD hS ls (lv_sub hl [0, 1, 2, 3, 4, 5] rfl)
                  · skip
                    have h := h.2 c62
                    refine W.eq (g2 := F0 m 65 ls []) rfl ?_
                    refine lv_iinc (v := x8h46 + 1) (lv' := [(8, .int (x8h46 + 1)), (0, .ref (ad a0)), (2, .int x2h46), (3, .long x3h46), (5, .long x5h46), (7, .int x7h46)]) G.1 G.2.1 d_Wd_allAbove_65 hl (k := 5) rfl rfl (by decide) rfl (fun ls hl => ?_)
                    refine lv_goto (tgt := 46) G.1 G.2.1 d_Wd_allAbove_68 (by decide) ?_
                    have h := hK_46 s_h46 x2h46 x3h46 x5h46 x7h46 (x8h46 + 1) h
                    exact ih_46 s_h46 x2h46 x3h46 x5h46 x7h46 (x8h46 + 1) (Nat.lt_of_lt_of_le h.2 (Nat.le_of_lt_succ hμ_46)) h.1 H locs hP hD hS ls (lv_sub hl [1, 2, 3, 4, 5, 0] rfl)
            exact L_46 _ s_h29 x2h29 x3h29 x5h29 x7h29 0 (Nat.lt_succ_self _) hI_46 H locs hP hD hS ls (lv_sub hl [1, 2, 3, 4, 5, 0] rfl)
    exact L_29 _ s_2 x2j21 x3j21 r_1 0 (Nat.lt_succ_self _) hI_29 H locs hP hD hS ls (lv_sub hl [2, 3, 4, 1, 0] rfl)
  refine lv_if_eq (tgt := 16) G.1 G.2.1 d_Wd_allAbove_5 (by decide) (fun c5 => ?_) (fun c5 => ?_)
  · skip
    have h := h.1 c5
    refine lv_aload_n G.1 G.2.1 d_Wd_allAbove_16 rfl (lv_at hl 1 rfl) ?_
    refine lv_iload_n G.1 G.2.1 d_Wd_allAbove_17 rfl (lv_at hl 2 rfl) ?_
    refine ucVi (As := [.int v1]) (rest := [.int v1, .ref (ad a0)]) G hP hD hS (cu_Wd_up l D g ad y _ σ a0 v1 H.size h_a0 h) w9_Wd_up q1542 ⟨Nat.le_of_ble_eq_true rfl, Nat.le_of_ble_eq_true rfl⟩ rfl rfl h_a0 (q := (RWd, TWd, 17)) rfl rfl hl.1 rfl (Nat.le_of_ble_eq_true rfl) rfl ⟨Nat.le_refl _, Nat.le_refl _⟩ d_Wd_allAbove_18 (fun r_9 s_10 H locs h hP hD hS => ?_)
    exact J_21 s_10 v2 0 v1 r_9 H locs h hP hD hS ls (lv_sub hl [1, 3, 0] rfl)
  · skip
    have h := h.2 c5
    refine lv_aload_n G.1 G.2.1 d_Wd_allAbove_8 rfl (lv_at hl 1 rfl) ?_
    refine lv_iload_n G.1 G.2.1 d_Wd_allAbove_9 rfl (lv_at hl 2 rfl) ?_
    refine ucVi (As := [.int v1]) (rest := [.int v1, .ref (ad a0)]) G hP hD hS (cu_Wd_toldParent l D g ad y _ σ a0 v1 H.size h_a0 h) w9_Wd_toldParent q1541 ⟨Nat.le_of_ble_eq_true rfl, Nat.le_of_ble_eq_true rfl⟩ rfl rfl h_a0 (q := (RWd, TWd, 17)) rfl rfl hl.1 rfl (Nat.le_of_ble_eq_true rfl) rfl ⟨Nat.le_refl _, Nat.le_refl _⟩ d_Wd_allAbove_10 (fun r_11 s_12 H locs h hP hD hS => ?_)
    refine lv_goto (tgt := 21) G.1 G.2.1 d_Wd_allAbove_13 (by decide) ?_
    exact J_21 s_12 v2 0 v1 r_11 H locs h hP hD hS ls (lv_sub hl [1, 3, 0] rfl)
theorem q1537 : Cond.methodLink "ClassWorks$Finder" 93 y_Wd_allAbove ∈ lw_ok := lw_okmem (List.mem_of_getElem? (i := 1537) (by decide +kernel)) rfl
theorem q1540 : Cond.code y_Wd_allAbove b_Wd_allAbove 9 (some (.long)) ∈ lw_ok := lw_okmem (List.mem_of_getElem? (i := 1540) (by decide +kernel)) rfl
theorem q1538 : Cond.instanceMethod y_Wd_allAbove ∈ lw_ok := lw_okmem (List.mem_of_getElem? (i := 1538) (by decide +kernel)) rfl
theorem q1539 : Cond.selects y_Wd_allAbove.cls y_Wd_allAbove y_Wd_allAbove ∈ lw_ok := lw_okmem (List.mem_of_getElem? (i := 1539) (by decide +kernel)) rfl
theorem w9_Wd_allAbove : CWv y_Wd_allAbove b_Wd_allAbove 9 (some (.long)) 2 ∧ Cond.instanceMethod y_Wd_allAbove ∈ lw_ok ∧ Cond.selects y_Wd_allAbove.cls y_Wd_allAbove y_Wd_allAbove ∈ lw_ok := ⟨⟨q1540, q345, by decide +kernel, by decide +kernel, by decide +kernel⟩, q1538, q1539⟩
def y_Fi_headFault : MethodName := ⟨"ClassWorks$Finder", "headFault", "(LClassWorks$World;I)I"⟩
abbrev b_Fi_headFault : ByteArray := prog_3_method_4_code
theorem q1555 : Cond.methodLink "ClassWorks$Finder" 86 y_Wd_toldParent ∈ lw_ok := lw_okmem (List.mem_of_getElem? (i := 1555) (by decide +kernel)) rfl
theorem q1556 : Cond.methodLink "ClassWorks$Finder" 65 y_Wd_asks ∈ lw_ok := lw_okmem (List.mem_of_getElem? (i := 1556) (by decide +kernel)) rfl
theorem q1532 : Cond.methodLink "ClassWorks$Finder" 51 y_Wd_of ∈ lw_ok := lw_okmem (List.mem_of_getElem? (i := 1532) (by decide +kernel)) rfl
theorem q1557 : Cond.methodLink "ClassWorks$Finder" 90 y_Wd_face ∈ lw_ok := lw_okmem (List.mem_of_getElem? (i := 1557) (by decide +kernel)) rfl
theorem q1558 : Cond.methodLink "ClassWorks$Finder" 97 y_Wd_isFace ∈ lw_ok := lw_okmem (List.mem_of_getElem? (i := 1558) (by decide +kernel)) rfl
theorem d_Fi_headFault_0 : decode b_Fi_headFault 0 = .ok (.aload_n 1, 1) := by decide +kernel
theorem d_Fi_headFault_1 : decode b_Fi_headFault 1 = .ok (.iload_n 2, 1) := by decide +kernel
theorem d_Fi_headFault_2 : decode b_Fi_headFault 2 = .ok (.iconst 1, 1) := by decide +kernel
theorem d_Fi_headFault_3 : decode b_Fi_headFault 3 = .ok (.invokevirtual 93, 3) := by decide +kernel
theorem d_Fi_headFault_6 : decode b_Fi_headFault 6 = .ok (.iload_n 2, 1) := by decide +kernel
theorem d_Fi_headFault_7 : decode b_Fi_headFault 7 = .ok (.lshr, 1) := by decide +kernel
theorem d_Fi_headFault_8 : decode b_Fi_headFault 8 = .ok (.lconst 1, 1) := by decide +kernel
theorem d_Fi_headFault_9 : decode b_Fi_headFault 9 = .ok (.land, 1) := by decide +kernel
theorem d_Fi_headFault_10 : decode b_Fi_headFault 10 = .ok (.lconst 0, 1) := by decide +kernel
theorem d_Fi_headFault_11 : decode b_Fi_headFault 11 = .ok (.lcmp, 1) := by decide +kernel
theorem d_Fi_headFault_12 : decode b_Fi_headFault 12 = .ok (.ifCond .eq 7, 3) := by decide +kernel
theorem d_Fi_headFault_15 : decode b_Fi_headFault 15 = .ok (.sipush 2416, 3) := by decide +kernel
theorem d_Fi_headFault_18 : decode b_Fi_headFault 18 = .ok (.ireturn, 1) := by decide +kernel
theorem d_Fi_headFault_19 : decode b_Fi_headFault 19 = .ok (.aload_n 1, 1) := by decide +kernel
theorem d_Fi_headFault_20 : decode b_Fi_headFault 20 = .ok (.iload_n 2, 1) := by decide +kernel
theorem d_Fi_headFault_21 : decode b_Fi_headFault 21 = .ok (.invokevirtual 86, 3) := by decide +kernel
theorem d_Fi_headFault_24 : decode b_Fi_headFault 24 = .ok (.istore_n 3, 1) := by decide +kernel
theorem d_Fi_headFault_25 : decode b_Fi_headFault 25 = .ok (.iload_n 3, 1) := by decide +kernel
theorem d_Fi_headFault_26 : decode b_Fi_headFault 26 = .ok (.ifCond .ge 7, 3) := by decide +kernel
theorem d_Fi_headFault_29 : decode b_Fi_headFault 29 = .ok (.sipush 2011, 3) := by decide +kernel
theorem d_Fi_headFault_32 : decode b_Fi_headFault 32 = .ok (.ireturn, 1) := by decide +kernel
theorem d_Fi_headFault_33 : decode b_Fi_headFault 33 = .ok (.aload_n 1, 1) := by decide +kernel
theorem d_Fi_headFault_34 : decode b_Fi_headFault 34 = .ok (.iconst 3, 1) := by decide +kernel
theorem d_Fi_headFault_35 : decode b_Fi_headFault 35 = .ok (.invokevirtual 65, 3) := by decide +kernel
theorem d_Fi_headFault_38 : decode b_Fi_headFault 38 = .ok (.ifCond .eq 18, 3) := by decide +kernel
theorem d_Fi_headFault_41 : decode b_Fi_headFault 41 = .ok (.aload_n 1, 1) := by decide +kernel
theorem d_Fi_headFault_42 : decode b_Fi_headFault 42 = .ok (.iload_n 3, 1) := by decide +kernel
theorem d_Fi_headFault_43 : decode b_Fi_headFault 43 = .ok (.iconst 1, 1) := by decide +kernel
theorem d_Fi_headFault_44 : decode b_Fi_headFault 44 = .ok (.invokevirtual 51, 3) := by decide +kernel
theorem d_Fi_headFault_47 : decode b_Fi_headFault 47 = .ok (.iconst 5, 1) := by decide +kernel
theorem d_Fi_headFault_48 : decode b_Fi_headFault 48 = .ok (.iand, 1) := by decide +kernel
theorem d_Fi_headFault_49 : decode b_Fi_headFault 49 = .ok (.ifCond .eq 7, 3) := by decide +kernel
theorem d_Fi_headFault_52 : decode b_Fi_headFault 52 = .ok (.sipush 2115, 3) := by decide +kernel
theorem d_Fi_headFault_55 : decode b_Fi_headFault 55 = .ok (.ireturn, 1) := by decide +kernel
theorem d_Fi_headFault_56 : decode b_Fi_headFault 56 = .ok (.iconst 0, 1) := by decide +kernel
theorem d_Fi_headFault_57 : decode b_Fi_headFault 57 = .ok (.istore 4, 2) := by decide +kernel
theorem d_Fi_headFault_59 : decode b_Fi_headFault 59 = .ok (.iload 4, 2) := by decide +kernel
theorem d_Fi_headFault_61 : decode b_Fi_headFault 61 = .ok (.aload_n 1, 1) := by decide +kernel
theorem d_Fi_headFault_62 : decode b_Fi_headFault 62 = .ok (.iload_n 2, 1) := by decide +kernel
theorem d_Fi_headFault_63 : decode b_Fi_headFault 63 = .ok (.iconst 3, 1) := by decide +kernel
theorem d_Fi_headFault_64 : decode b_Fi_headFault 64 = .ok (.invokevirtual 51, 3) := by decide +kernel
theorem d_Fi_headFault_67 : decode b_Fi_headFault 67 = .ok (.if_icmp .ge 47, 3) := by decide +kernel
theorem d_Fi_headFault_70 : decode b_Fi_headFault 70 = .ok (.aload_n 1, 1) := by decide +kernel
theorem d_Fi_headFault_71 : decode b_Fi_headFault 71 = .ok (.iload_n 2, 1) := by decide +kernel
theorem d_Fi_headFault_72 : decode b_Fi_headFault 72 = .ok (.iload 4, 2) := by decide +kernel
theorem d_Fi_headFault_74 : decode b_Fi_headFault 74 = .ok (.invokevirtual 90, 3) := by decide +kernel
theorem d_Fi_headFault_77 : decode b_Fi_headFault 77 = .ok (.istore 5, 2) := by decide +kernel
theorem d_Fi_headFault_79 : decode b_Fi_headFault 79 = .ok (.iload 5, 2) := by decide +kernel
theorem d_Fi_headFault_81 : decode b_Fi_headFault 81 = .ok (.ifCond .lt 12, 3) := by decide +kernel
theorem d_Fi_headFault_84 : decode b_Fi_headFault 84 = .ok (.aload_n 1, 1) := by decide +kernel
theorem d_Fi_headFault_85 : decode b_Fi_headFault 85 = .ok (.iload 5, 2) := by decide +kernel
theorem d_Fi_headFault_87 : decode b_Fi_headFault 87 = .ok (.invokevirtual 97, 3) := by decide +kernel
theorem d_Fi_headFault_90 : decode b_Fi_headFault 90 = .ok (.ifCond .ne 18, 3) := by decide +kernel
theorem d_Fi_headFault_93 : decode b_Fi_headFault 93 = .ok (.iload 5, 2) := by decide +kernel
theorem d_Fi_headFault_95 : decode b_Fi_headFault 95 = .ok (.ifCond .ge 9, 3) := by decide +kernel
theorem d_Fi_headFault_98 : decode b_Fi_headFault 98 = .ok (.sipush 2211, 3) := by decide +kernel
theorem d_Fi_headFault_101 : decode b_Fi_headFault 101 = .ok (.goto 6, 3) := by decide +kernel
theorem d_Fi_headFault_104 : decode b_Fi_headFault 104 = .ok (.sipush 2315, 3) := by decide +kernel
theorem d_Fi_headFault_107 : decode b_Fi_headFault 107 = .ok (.ireturn, 1) := by decide +kernel
theorem d_Fi_headFault_108 : decode b_Fi_headFault 108 = .ok (.iinc 4 1, 3) := by decide +kernel
theorem d_Fi_headFault_111 : decode b_Fi_headFault 111 = .ok (.goto (-52), 3) := by decide +kernel
theorem d_Fi_headFault_114 : decode b_Fi_headFault 114 = .ok (.iconst 0, 1) := by decide +kernel
theorem d_Fi_headFault_115 : decode b_Fi_headFault 115 = .ok (.ireturn, 1) := by decide +kernel
abbrev ru_Fi_headFault : Room := { frames := 3, cells := 0, slots := 0, locals := 77 }
def wj_Fi_headFault_107 (y : Ly) (Post : St → Int32 → Prop) (a0 : Nat) (a1 : Nat) (s_j107 : St) (z0j107 : Int32) : Prop := Post s_j107 z0j107
def wj_Fi_headFault_93 (y : Ly) (Post : St → Int32 → Prop) (a0 : Nat) (a1 : Nat) (s_j93 : St) (x5j93 : Int32) : Prop := ((0 ≤ x5j93 → wj_Fi_headFault_107 y Post a0 a1 s_j93 2315) ∧ (¬ (0 ≤ x5j93) → wj_Fi_headFault_107 y Post a0 a1 s_j93 2211))
def wb_Fi_headFault_59 (y : Ly) (Post : St → Int32 → Prop) (K_59 : St → Int32 → Int32 → Prop) (a0 : Nat) (a1 : Nat) (s_h59 : St) (x2h59 : Int32) (x4h59 : Int32) : Prop := wu_Wd_of y (fun (s_8 : St) (r_7 : Int32) => ((r_7 ≤ x4h59 → Post s_8 0) ∧ (¬ (r_7 ≤ x4h59) → wu_Wd_face y (fun (s_10 : St) (r_9 : Int32) => ((r_9 < 0 → wj_Fi_headFault_93 y Post a0 a1 s_10 r_9) ∧ (¬ (r_9 < 0) → wu_Wd_isFace y (fun (s_12 : St) (r_11 : Int32) => ((¬ r_11 = 0 → K_59 s_12 x2h59 (x4h59 + 1)) ∧ (r_11 = 0 → wj_Fi_headFault_93 y Post a0 a1 s_12 r_9))) s_10 a1 r_9))) s_8 a1 x2h59 x4h59))) s_h59 a1 x2h59 3
def wl_Fi_headFault_59 (y : Ly) (Post : St → Int32 → Prop) (a0 : Nat) (a1 : Nat) (s_h59 : St) (x2h59 : Int32) (x4h59 : Int32) : Prop := ∃ (I : St → Int32 → Int32 → Prop) (μ : St → Int32 → Int32 → Nat), I s_h59 x2h59 x4h59 ∧ ∀ (u : St) (t0 : Int32) (t1 : Int32), I u t0 t1 → wb_Fi_headFault_59 y Post (fun z t0q t1q => I z t0q t1q ∧ μ z t0q t1q < μ u t0 t1) a0 a1 u t0 t1
def wj_Fi_headFault_56 (y : Ly) (Post : St → Int32 → Prop) (a0 : Nat) (a1 : Nat) (s_j56 : St) (x2j56 : Int32) : Prop := wl_Fi_headFault_59 y Post a0 a1 s_j56 x2j56 0
def wu_Fi_headFault (y : Ly) (Post : St → Int32 → Prop) (σ : St) (a0 : Nat) (a1 : Nat) (v2 : Int32) : Prop := wu_Wd_allAbove y (fun (s_2 : St) (r_1 : Int64) => (((lg_cmp ((r_1 >>> (v2.toInt64 &&& 63)) &&& 1) 0) = 0 → wu_Wd_toldParent y (fun (s_4 : St) (r_3 : Int32) => ((0 ≤ r_3 → wu_Wd_asks y (fun (s_6 : St) (r_5 : Int32) => ((r_5 = 0 → wj_Fi_headFault_56 y Post a0 a1 s_6 v2) ∧ (¬ (r_5 = 0) → wu_Wd_of y (fun (s_14 : St) (r_13 : Int32) => (((r_13 &&& 5) = 0 → wj_Fi_headFault_56 y Post a0 a1 s_14 v2) ∧ (¬ ((r_13 &&& 5) = 0) → Post s_14 2115))) s_6 a1 r_3 1))) s_4 a1 3) ∧ (¬ (0 ≤ r_3) → Post s_4 2011))) s_2 a1 v2) ∧ (¬ ((lg_cmp ((r_1 >>> (v2.toInt64 &&& 63)) &&& 1) 0) = 0) → Post s_2 2416))) σ a1 v2 1
set_option maxHeartbeats 4000000 in
set_option maxRecDepth 100000 in
theorem cu_Fi_headFault (l : Launch) (D : va_G) (g : Nat → ClassId) (ad : Nat → Nat) (y : Ly) (Post : St → Int32 → Prop) (σ : St) (a0 : Nat) (a1 : Nat) (v2 : Int32) (sz : Nat) (h_a0 : cl a0 = 1) (h_a1 : cl a1 = 9) (h : wu_Fi_headFault y Post σ a0 a1 v2) : Met l y_Fi_headFault (mw y_Fi_headFault b_Fi_headFault 6 (some .int)) ru_Fi_headFault (PC g D [] [.ref (ad a0), .ref (ad a1), .int v2] sz (ws g ad y σ)) (va_Qi (fun (r : Int32) (u : St) => Post u r) (QW D (va_A (ws g ad y σ) sz) (fun u => ws g ad y u)) (va_A (ws g ad y σ) sz)) 0 0 (va_A (ws g ad y σ) sz) := by
  refine ofI (by decide +kernel) (Nat.le_of_ble_eq_true rfl) ?_
  intro p e s m args below meth c A Q ls H locs G hsz hP hD hS hl hret
  subst hsz
  have hl : lv_has ls 6 [(0, .ref (ad a0)), (1, .ref (ad a1)), (2, .int v2)] := hl
  unfold wu_Fi_headFault at h
  refine lv_aload_n G.1 G.2.1 d_Fi_headFault_0 rfl (lv_at hl 1 rfl) ?_
  refine lv_iload_n G.1 G.2.1 d_Fi_headFault_1 rfl (lv_at hl 2 rfl) ?_
  refine lv_iconst (v := 1) G.1 G.2.1 d_Fi_headFault_2 (by decide) ?_
  refine ucVl (As := [.int v2, .int 1]) (rest := []) G hP hD hS (cu_Wd_allAbove l D g ad y _ σ a1 v2 1 H.size h_a1 h) w9_Wd_allAbove q1537 ⟨Nat.le_of_ble_eq_true rfl, Nat.le_of_ble_eq_true rfl⟩ rfl rfl h_a1 (q := (RWd, TWd, 17)) rfl rfl hl.1 rfl (Nat.le_of_ble_eq_true rfl) rfl ⟨Nat.le_refl _, Nat.le_refl _⟩ d_Fi_headFault_3 (fun r_1 s_2 H locs h hP hD hS => ?_)
  refine lv_iload_n G.1 G.2.1 d_Fi_headFault_6 rfl (lv_at hl 2 rfl) ?_
  refine lv_lshr G.1 G.2.1 d_Fi_headFault_7 rfl ?_
  refine lv_lconst (v := 1) G.1 G.2.1 d_Fi_headFault_8 (by decide) ?_
  refine lv_land G.1 G.2.1 d_Fi_headFault_9 ?_
  refine lv_lconst (v := 0) G.1 G.2.1 d_Fi_headFault_10 (by decide) ?_
  refine W.lcmp G.1 G.2.1 d_Fi_headFault_11 ?_
  refine lv_if_eq (tgt := 19) G.1 G.2.1 d_Fi_headFault_12 (by decide) (fun c12 => ?_) (fun c12 => ?_)
  · skip
    have h := h.1 c12
    refine W.eq (g2 := F0 m 19 ls []) rfl ?_
    refine lv_aload_n G.1 G.2.1 d_Fi_headFault_19 rfl (lv_at hl 1 rfl) ?_
    refine lv_iload_n G.1 G.2.1 d_Fi_headFault_20 rfl (lv_at hl 2 rfl) ?_
    refine ucVi (As := [.int v2]) (rest := []) G hP hD hS (cu_Wd_toldParent l D g ad y _ s_2 a1 v2 H.size h_a1 h) w9_Wd_toldParent q1555 ⟨Nat.le_of_ble_eq_true rfl, Nat.le_of_ble_eq_true rfl⟩ rfl rfl h_a1 (q := (RWd, TWd, 17)) rfl rfl hl.1 rfl (Nat.le_of_ble_eq_true rfl) rfl ⟨Nat.le_refl _, Nat.le_refl _⟩ d_Fi_headFault_21 (fun r_3 s_4 H locs h hP hD hS => ?_)
    refine lv_istore_n (lv' := [(3, .int r_3), (0, .ref (ad a0)), (1, .ref (ad a1)), (2, .int v2)]) G.1 G.2.1 d_Fi_headFault_24 rfl hl (by decide) rfl (fun ls hl => ?_)
    refine lv_iload_n G.1 G.2.1 d_Fi_headFault_25 rfl (lv_at hl 0 rfl) ?_
    refine lv_if_ge (tgt := 33) G.1 G.2.1 d_Fi_headFault_26 (by decide) (fun c26 => ?_) (fun c26 => ?_)
    · skip
      have h := h.1 c26
      refine lv_aload_n G.1 G.2.1 d_Fi_headFault_33 rfl (lv_at hl 2 rfl) ?_
      refine lv_iconst (v := 3) G.1 G.2.1 d_Fi_headFault_34 (by decide) ?_
      refine ucVi (As := [.int 3]) (rest := []) G hP hD hS (cu_Wd_asks l D g ad y _ s_4 a1 3 H.size h_a1 h) w9_Wd_asks q1556 ⟨Nat.le_of_ble_eq_true rfl, Nat.le_of_ble_eq_true rfl⟩ rfl rfl h_a1 (q := (RWd, TWd, 17)) rfl rfl hl.1 rfl (Nat.le_of_ble_eq_true rfl) rfl ⟨Nat.le_refl _, Nat.le_refl _⟩ d_Fi_headFault_35 (fun r_5 s_6 H locs h hP hD hS => ?_)
      have J_56 : ∀ (s_j56 : St) (x2j56 : Int32) (H : Heap) (locs : List Loc), wj_Fi_headFault_56 y Post a0 a1 s_j56 x2j56 → va_P D CL (ws g ad y s_j56) H → va_D A (ws g ad y s_j56) → va_S A s.heap H locs → ∀ ls, lv_has ls 6 [(1, .ref (ad a1)), (2, .int x2j56)] → W p l e ru_Fi_headFault s m args below meth c H locs 0 0 Q (F0 m 56 ls []) := by
        intro s_j56 x2j56 H locs h hP hD hS ls hl
        unfold wj_Fi_headFault_56 at h
        refine lv_iconst (v := 0) G.1 G.2.1 d_Fi_headFault_56 (by decide) ?_
        refine lv_istore (lv' := [(4, .int 0), (1, .ref (ad a1)), (2, .int x2j56)]) G.1 G.2.1 d_Fi_headFault_57 hl (by decide) rfl (fun ls hl => ?_)
        unfold wl_Fi_headFault_59 at h
        obtain ⟨I_59, μ_59, hI_59, hB_59⟩ := h
        have L_59 : ∀ (n_59 : Nat) (s_h59 : St) (x2h59 : Int32) (x4h59 : Int32), μ_59 s_h59 x2h59 x4h59 < n_59 → I_59 s_h59 x2h59 x4h59 → ∀ (H : Heap) (locs : List Loc), va_P D CL (ws g ad y s_h59) H → va_D A (ws g ad y s_h59) → va_S A s.heap H locs → ∀ ls, lv_has ls 6 [(1, .ref (ad a1)), (2, .int x2h59), (4, .int x4h59)] → W p l e ru_Fi_headFault s m args below meth c H locs 0 0 Q (F0 m 59 ls []) := by
          intro n_59
          induction n_59 with
          | zero => intro s_h59 x2h59 x4h59 hμ; exact absurd hμ (Nat.not_lt_zero _)
          | succ n_59 ih_59 =>
            intro s_h59 x2h59 x4h59 hμ_59 hJ H locs hP hD hS ls hl
            obtain ⟨K_59, hK_59, h⟩ : ∃ K : St → Int32 → Int32 → Prop, (∀ z (t0 : Int32) (t1 : Int32), K z t0 t1 → I_59 z t0 t1 ∧ μ_59 z t0 t1 < μ_59 s_h59 x2h59 x4h59) ∧ wb_Fi_headFault_59 y Post K a0 a1 s_h59 x2h59 x4h59 := ⟨_, fun _ _ _ h => h, hB_59 s_h59 x2h59 x4h59 hJ⟩
            unfold wb_Fi_headFault_59 at h
            refine lv_iload G.1 G.2.1 d_Fi_headFault_59 (lv_at hl 2 rfl) ?_
            refine lv_aload_n G.1 G.2.1 d_Fi_headFault_61 rfl (lv_at hl 0 rfl) ?_
            refine lv_iload_n G.1 G.2.1 d_Fi_headFault_62 rfl (lv_at hl 1 rfl) ?_
            refine lv_iconst (v := 3) G.1 G.2.1 d_Fi_headFault_63 (by decide) ?_
            refine ucVi (As := [.int x2h59, .int 3]) (rest := [.int x4h59]) G hP hD hS (cu_Wd_of l D g ad y _ s_h59 a1 x2h59 3 H.size h_a1 h) w9_Wd_of q1532 ⟨Nat.le_of_ble_eq_true rfl, Nat.le_of_ble_eq_true rfl⟩ rfl rfl h_a1 (q := (RWd, TWd, 17)) rfl rfl hl.1 rfl (Nat.le_of_ble_eq_true rfl) rfl ⟨Nat.le_refl _, Nat.le_refl _⟩ d_Fi_headFault_64 (fun r_7 s_8 H locs h hP hD hS => ?_)
            refine lv_icmp_ge (tgt := 114) G.1 G.2.1 d_Fi_headFault_67 (by decide) (fun c67 => ?_) (fun c67 => ?_)
            · skip
              have h := h.1 c67
              refine lv_iconst (v := 0) G.1 G.2.1 d_Fi_headFault_114 (by decide) ?_
              exact hret _ _ _ _ _ _ _ ls h hP hD hS (Nat.le_refl _) (Nat.le_refl _) d_Fi_headFault_115
            · skip
              have h := h.2 c67
              refine lv_aload_n G.1 G.2.1 d_Fi_headFault_70 rfl (lv_at hl 0 rfl) ?_
              refine lv_iload_n G.1 G.2.1 d_Fi_headFault_71 rfl (lv_at hl 1 rfl) ?_
              refine lv_iload G.1 G.2.1 d_Fi_headFault_72 (lv_at hl 2 rfl) ?_
              refine ucVi (As := [.int x2h59, .int x4h59]) (rest := []) G hP hD hS (cu_Wd_face l D g ad y _ s_8 a1 x2h59 x4h59 H.size h_a1 h) w9_Wd_face q1557 ⟨Nat.le_of_ble_eq_true rfl, Nat.le_of_ble_eq_true rfl⟩ rfl rfl h_a1 (q := (RWd, TWd, 17)) rfl rfl hl.1 rfl (Nat.le_of_ble_eq_true rfl) rfl ⟨Nat.le_refl _, Nat.le_refl _⟩ d_Fi_headFault_74 (fun r_9 s_10 H locs h hP hD hS => ?_)
              refine lv_istore (lv' := [(5, .int r_9), (1, .ref (ad a1)), (2, .int x2h59), (4, .int x4h59)]) G.1 G.2.1 d_Fi_headFault_77 hl (by decide) rfl (fun ls hl => ?_)
              refine W.eq (g2 := F0 m 79 ls []) rfl ?_
              refine lv_iload G.1 G.2.1 d_Fi_headFault_79 (lv_at hl 0 rfl) ?_
              have J_93 : ∀ (s_j93 : St) (x5j93 : Int32) (H : Heap) (locs : List Loc), wj_Fi_headFault_93 y Post a0 a1 s_j93 x5j93 → va_P D CL (ws g ad y s_j93) H → va_D A (ws g ad y s_j93) → va_S A s.heap H locs → ∀ ls, lv_has ls 6 [(5, .int x5j93)] → W p l e ru_Fi_headFault s m args below meth c H locs 0 0 Q (F0 m 93 ls []) := by
                intro s_j93 x5j93 H locs h hP hD hS ls hl
                unfold wj_Fi_headFault_93 at h
                refine lv_iload G.1 G.2.1 d_Fi_headFault_93 (lv_at hl 0 rfl) ?_
                have J_107 : ∀ (s_j107 : St) (z0j107 : Int32) (H : Heap) (locs : List Loc), wj_Fi_headFault_107 y Post a0 a1 s_j107 z0j107 → va_P D CL (ws g ad y s_j107) H → va_D A (ws g ad y s_j107) → va_S A s.heap H locs → ∀ ls, lv_has ls 6 [] → W p l e ru_Fi_headFault s m args below meth c H locs 0 0 Q (F0 m 107 ls [.int z0j107]) := by
                  intro s_j107 z0j107 H locs h hP hD hS ls hl
                  unfold wj_Fi_headFault_107 at h
                  exact hret _ _ _ _ _ _ _ ls h hP hD hS (Nat.le_refl _) (Nat.le_refl _) d_Fi_headFault_107
                refine lv_if_ge (tgt := 104) G.1 G.2.1 d_Fi_headFault_95 (by decide) (fun c95 => ?_) (fun c95 => ?_)
                · skip
                  have h := h.1 c95
                  refine lv_sipush (v := 2315) G.1 G.2.1 d_Fi_headFault_104 (by decide) ?_
                  exact J_107 s_j93 2315 H locs h hP hD hS ls (lv_sub hl [] rfl)
                · skip
                  have h := h.2 c95
                  refine lv_sipush (v := 2211) G.1 G.2.1 d_Fi_headFault_98 (by decide) ?_
                  refine lv_goto (tgt := 107) G.1 G.2.1 d_Fi_headFault_101 (by decide) ?_
                  exact J_107 s_j93 2211 H locs h hP hD hS ls (lv_sub hl [] rfl)
              refine lv_if_lt (tgt := 93) G.1 G.2.1 d_Fi_headFault_81 (by decide) (fun c81 => ?_) (fun c81 => ?_)
              · skip
                have h := h.1 c81
                exact J_93 s_10 r_9 H locs h hP hD hS ls (lv_sub hl [0] rfl)
              · skip
                have h := h.2 c81
                refine lv_aload_n G.1 G.2.1 d_Fi_headFault_84 rfl (lv_at hl 1 rfl) ?_
                refine lv_iload G.1 G.2.1 d_Fi_headFault_85 (lv_at hl 0 rfl) ?_
                refine ucVi (As := [.int r_9]) (rest := []) G hP hD hS (cu_Wd_isFace l D g ad y _ s_10 a1 r_9 H.size h_a1 h) w9_Wd_isFace q1558 ⟨Nat.le_of_ble_eq_true rfl, Nat.le_of_ble_eq_true rfl⟩ rfl rfl h_a1 (q := (RWd, TWd, 17)) rfl rfl hl.1 rfl (Nat.le_of_ble_eq_true rfl) rfl ⟨Nat.le_refl _, Nat.le_refl _⟩ d_Fi_headFault_87 (fun r_11 s_12 H locs h hP hD hS => ?_)
                refine lv_if_ne (tgt := 108) G.1 G.2.1 d_Fi_headFault_90 (by decide) (fun c90 => ?_) (fun c90 => ?_)
                · skip
                  have h := h.1 c90
                  refine lv_iinc (v := x4h59 + 1) (lv' := [(4, .int (x4h59 + 1)), (5, .int r_9), (1, .ref (ad a1)), (2, .int x2h59)]) G.1 G.2.1 d_Fi_headFault_108 hl (k := 3) rfl rfl (by decide) rfl (fun ls hl => ?_)
                  refine lv_goto (tgt := 59) G.1 G.2.1 d_Fi_headFault_111 (by decide) ?_
                  have h := hK_59 s_12 x2h59 (x4h59 + 1) h
                  exact ih_59 s_12 x2h59 (x4h59 + 1) (Nat.lt_of_lt_of_le h.2 (Nat.le_of_lt_succ hμ_59)) h.1 H locs hP hD hS ls (lv_sub hl [2, 3, 0] rfl)
                · skip
                  have h := h.2 c90
                  exact J_93 s_12 r_9 H locs h hP hD hS ls (lv_sub hl [0] rfl)
        exact L_59 _ s_j56 x2j56 0 (Nat.lt_succ_self _) hI_59 H locs hP hD hS ls (lv_sub hl [1, 2, 0] rfl)
      refine lv_if_eq (tgt := 56) G.1 G.2.1 d_Fi_headFault_38 (by decide) (fun c38 => ?_) (fun c38 => ?_)
      · skip
        have h := h.1 c38
        exact J_56 s_6 v2 H locs h hP hD hS ls (lv_sub hl [2, 3] rfl)
      · skip
        have h := h.2 c38
        refine lv_aload_n G.1 G.2.1 d_Fi_headFault_41 rfl (lv_at hl 2 rfl) ?_
        refine lv_iload_n G.1 G.2.1 d_Fi_headFault_42 rfl (lv_at hl 0 rfl) ?_
        refine W.eq (g2 := F0 m 43 ls [.int r_3, .ref (ad a1)]) rfl ?_
        refine lv_iconst (v := 1) G.1 G.2.1 d_Fi_headFault_43 (by decide) ?_
        refine ucVi (As := [.int r_3, .int 1]) (rest := []) G hP hD hS (cu_Wd_of l D g ad y _ s_6 a1 r_3 1 H.size h_a1 h) w9_Wd_of q1532 ⟨Nat.le_of_ble_eq_true rfl, Nat.le_of_ble_eq_true rfl⟩ rfl rfl h_a1 (q := (RWd, TWd, 17)) rfl rfl hl.1 rfl (Nat.le_of_ble_eq_true rfl) rfl ⟨Nat.le_refl _, Nat.le_refl _⟩ d_Fi_headFault_44 (fun r_13 s_14 H locs h hP hD hS => ?_)
        refine lv_iconst (v := 5) G.1 G.2.1 d_Fi_headFault_47 (by decide) ?_
        refine lv_iand G.1 G.2.1 d_Fi_headFault_48 ?_
        refine lv_if_eq (tgt := 56) G.1 G.2.1 d_Fi_headFault_49 (by decide) (fun c49 => ?_) (fun c49 => ?_)
        · skip
          have h := h.1 c49
          exact J_56 s_14 v2 H locs h hP hD hS ls (lv_sub hl [2, 3] rfl)
        · skip
          have h := h.2 c49
          refine lv_sipush (v := 2115) G.1 G.2.1 d_Fi_headFault_52 (by decide) ?_
          exact hret _ _ _ _ _ _ _ ls h hP hD hS (Nat.le_refl _) (Nat.le_refl _) d_Fi_headFault_55
    · skip
      have h := h.2 c26
      refine lv_sipush (v := 2011) G.1 G.2.1 d_Fi_headFault_29 (by decide) ?_
      exact hret _ _ _ _ _ _ _ ls h hP hD hS (Nat.le_refl _) (Nat.le_refl _) d_Fi_headFault_32
  · skip
    have h := h.2 c12
    refine W.eq (g2 := F0 m 15 ls []) rfl ?_
    refine lv_sipush (v := 2416) G.1 G.2.1 d_Fi_headFault_15 (by decide) ?_
    exact hret _ _ _ _ _ _ _ ls h hP hD hS (Nat.le_refl _) (Nat.le_refl _) d_Fi_headFault_18
theorem q739 : Cond.fieldLink "ClassWorks$Finder" 34 "ClassWorks$Finder" "phase" "[I" ∈ lw_ok := lw_okmem (List.mem_of_getElem? (i := 739) (by decide +kernel)) rfl
theorem q1563 : Cond.methodLink "ClassWorks$Finder" 82 y_Wd_set ∈ lw_ok := lw_okmem (List.mem_of_getElem? (i := 1563) (by decide +kernel)) rfl
theorem q1350 : Cond.code y_Wd_set b_Wd_set 4 (none) ∈ lw_ok := lw_okmem (List.mem_of_getElem? (i := 1350) (by decide +kernel)) rfl
theorem q1348 : Cond.instanceMethod y_Wd_set ∈ lw_ok := lw_okmem (List.mem_of_getElem? (i := 1348) (by decide +kernel)) rfl
theorem q1349 : Cond.selects y_Wd_set.cls y_Wd_set y_Wd_set ∈ lw_ok := lw_okmem (List.mem_of_getElem? (i := 1349) (by decide +kernel)) rfl
theorem w9_Wd_set : CWv y_Wd_set b_Wd_set 4 (none) 3 ∧ Cond.instanceMethod y_Wd_set ∈ lw_ok ∧ Cond.selects y_Wd_set.cls y_Wd_set y_Wd_set ∈ lw_ok := ⟨⟨q1350, q345, by decide +kernel, by decide +kernel, by decide +kernel⟩, q1348, q1349⟩
def y_Fi_nextAbove : MethodName := ⟨"ClassWorks$Finder", "nextAbove", "(LClassWorks$World;II)I"⟩
abbrev b_Fi_nextAbove : ByteArray := prog_3_method_3_code
theorem d_Fi_nextAbove_0 : decode b_Fi_nextAbove 0 = .ok (.aload_n 1, 1) := by decide +kernel
theorem d_Fi_nextAbove_1 : decode b_Fi_nextAbove 1 = .ok (.iload_n 2, 1) := by decide +kernel
theorem d_Fi_nextAbove_2 : decode b_Fi_nextAbove 2 = .ok (.iconst 3, 1) := by decide +kernel
theorem d_Fi_nextAbove_3 : decode b_Fi_nextAbove 3 = .ok (.invokevirtual 51, 3) := by decide +kernel
theorem d_Fi_nextAbove_6 : decode b_Fi_nextAbove 6 = .ok (.istore 4, 2) := by decide +kernel
theorem d_Fi_nextAbove_8 : decode b_Fi_nextAbove 8 = .ok (.aload_n 0, 1) := by decide +kernel
theorem d_Fi_nextAbove_9 : decode b_Fi_nextAbove 9 = .ok (.getfield 34, 3) := by decide +kernel
theorem d_Fi_nextAbove_12 : decode b_Fi_nextAbove 12 = .ok (.iload_n 3, 1) := by decide +kernel
theorem d_Fi_nextAbove_13 : decode b_Fi_nextAbove 13 = .ok (.iaload, 1) := by decide +kernel
theorem d_Fi_nextAbove_14 : decode b_Fi_nextAbove 14 = .ok (.istore 5, 2) := by decide +kernel
theorem d_Fi_nextAbove_16 : decode b_Fi_nextAbove 16 = .ok (.iload 5, 2) := by decide +kernel
theorem d_Fi_nextAbove_18 : decode b_Fi_nextAbove 18 = .ok (.iload 4, 2) := by decide +kernel
theorem d_Fi_nextAbove_20 : decode b_Fi_nextAbove 20 = .ok (.if_icmp .gt 85, 3) := by decide +kernel
theorem d_Fi_nextAbove_23 : decode b_Fi_nextAbove 23 = .ok (.aload_n 0, 1) := by decide +kernel
theorem d_Fi_nextAbove_24 : decode b_Fi_nextAbove 24 = .ok (.getfield 34, 3) := by decide +kernel
theorem d_Fi_nextAbove_27 : decode b_Fi_nextAbove 27 = .ok (.iload_n 3, 1) := by decide +kernel
theorem d_Fi_nextAbove_28 : decode b_Fi_nextAbove 28 = .ok (.iload 5, 2) := by decide +kernel
theorem d_Fi_nextAbove_30 : decode b_Fi_nextAbove 30 = .ok (.iastore, 1) := by decide +kernel
theorem d_Fi_nextAbove_31 : decode b_Fi_nextAbove 31 = .ok (.iload 5, 2) := by decide +kernel
theorem d_Fi_nextAbove_33 : decode b_Fi_nextAbove 33 = .ok (.ifCond .ne 11, 3) := by decide +kernel
theorem d_Fi_nextAbove_36 : decode b_Fi_nextAbove 36 = .ok (.aload_n 1, 1) := by decide +kernel
theorem d_Fi_nextAbove_37 : decode b_Fi_nextAbove 37 = .ok (.iload_n 2, 1) := by decide +kernel
theorem d_Fi_nextAbove_38 : decode b_Fi_nextAbove 38 = .ok (.invokevirtual 86, 3) := by decide +kernel
theorem d_Fi_nextAbove_41 : decode b_Fi_nextAbove 41 = .ok (.goto 12, 3) := by decide +kernel
theorem d_Fi_nextAbove_44 : decode b_Fi_nextAbove 44 = .ok (.aload_n 1, 1) := by decide +kernel
theorem d_Fi_nextAbove_45 : decode b_Fi_nextAbove 45 = .ok (.iload_n 2, 1) := by decide +kernel
theorem d_Fi_nextAbove_46 : decode b_Fi_nextAbove 46 = .ok (.iload 5, 2) := by decide +kernel
theorem d_Fi_nextAbove_48 : decode b_Fi_nextAbove 48 = .ok (.iconst 1, 1) := by decide +kernel
theorem d_Fi_nextAbove_49 : decode b_Fi_nextAbove 49 = .ok (.isub, 1) := by decide +kernel
theorem d_Fi_nextAbove_50 : decode b_Fi_nextAbove 50 = .ok (.invokevirtual 90, 3) := by decide +kernel
theorem d_Fi_nextAbove_53 : decode b_Fi_nextAbove 53 = .ok (.istore 6, 2) := by decide +kernel
theorem d_Fi_nextAbove_55 : decode b_Fi_nextAbove 55 = .ok (.iload 6, 2) := by decide +kernel
theorem d_Fi_nextAbove_57 : decode b_Fi_nextAbove 57 = .ok (.ifCond .ge 7, 3) := by decide +kernel
theorem d_Fi_nextAbove_60 : decode b_Fi_nextAbove 60 = .ok (.iconst 1, 1) := by decide +kernel
theorem d_Fi_nextAbove_61 : decode b_Fi_nextAbove 61 = .ok (.goto 11, 3) := by decide +kernel
theorem d_Fi_nextAbove_64 : decode b_Fi_nextAbove 64 = .ok (.aload_n 1, 1) := by decide +kernel
theorem d_Fi_nextAbove_65 : decode b_Fi_nextAbove 65 = .ok (.iload 6, 2) := by decide +kernel
theorem d_Fi_nextAbove_67 : decode b_Fi_nextAbove 67 = .ok (.bipush 12, 2) := by decide +kernel
theorem d_Fi_nextAbove_69 : decode b_Fi_nextAbove 69 = .ok (.invokevirtual 51, 3) := by decide +kernel
theorem d_Fi_nextAbove_72 : decode b_Fi_nextAbove 72 = .ok (.istore 7, 2) := by decide +kernel
theorem d_Fi_nextAbove_74 : decode b_Fi_nextAbove 74 = .ok (.iload 7, 2) := by decide +kernel
theorem d_Fi_nextAbove_76 : decode b_Fi_nextAbove 76 = .ok (.ifCond .ne 6, 3) := by decide +kernel
theorem d_Fi_nextAbove_79 : decode b_Fi_nextAbove 79 = .ok (.iload 6, 2) := by decide +kernel
theorem d_Fi_nextAbove_81 : decode b_Fi_nextAbove 81 = .ok (.ireturn, 1) := by decide +kernel
theorem d_Fi_nextAbove_82 : decode b_Fi_nextAbove 82 = .ok (.iload 7, 2) := by decide +kernel
theorem d_Fi_nextAbove_84 : decode b_Fi_nextAbove 84 = .ok (.iconst 1, 1) := by decide +kernel
theorem d_Fi_nextAbove_85 : decode b_Fi_nextAbove 85 = .ok (.if_icmp .eq 14, 3) := by decide +kernel
theorem d_Fi_nextAbove_88 : decode b_Fi_nextAbove 88 = .ok (.aload_n 1, 1) := by decide +kernel
theorem d_Fi_nextAbove_89 : decode b_Fi_nextAbove 89 = .ok (.iload_n 2, 1) := by decide +kernel
theorem d_Fi_nextAbove_90 : decode b_Fi_nextAbove 90 = .ok (.bipush 12, 2) := by decide +kernel
theorem d_Fi_nextAbove_92 : decode b_Fi_nextAbove 92 = .ok (.iload 7, 2) := by decide +kernel
theorem d_Fi_nextAbove_94 : decode b_Fi_nextAbove 94 = .ok (.invokevirtual 82, 3) := by decide +kernel
theorem d_Fi_nextAbove_97 : decode b_Fi_nextAbove 97 = .ok (.iconst (-1), 1) := by decide +kernel
theorem d_Fi_nextAbove_98 : decode b_Fi_nextAbove 98 = .ok (.ireturn, 1) := by decide +kernel
theorem d_Fi_nextAbove_99 : decode b_Fi_nextAbove 99 = .ok (.iinc 5 1, 3) := by decide +kernel
theorem d_Fi_nextAbove_102 : decode b_Fi_nextAbove 102 = .ok (.goto (-86), 3) := by decide +kernel
theorem d_Fi_nextAbove_105 : decode b_Fi_nextAbove 105 = .ok (.iconst (-1), 1) := by decide +kernel
theorem d_Fi_nextAbove_106 : decode b_Fi_nextAbove 106 = .ok (.ireturn, 1) := by decide +kernel
abbrev ru_Fi_nextAbove : Room := { frames := 1, cells := 0, slots := 0, locals := 23 }
def wj_Fi_nextAbove_72 (y : Ly) (Post : St → Int32 → Prop) (K_16 : St → Int32 → Int32 → Int32 → Int32 → Prop) (a0 : Nat) (a1 : Nat) (s_j72 : St) (x2j72 : Int32) (x3j72 : Int32) (x4j72 : Int32) (x5j72 : Int32) (x6j72 : Int32) (z0j72 : Int32) : Prop := ((¬ z0j72 = 0 → ((z0j72 = 1 → K_16 s_j72 x2j72 x3j72 x4j72 (x5j72 + 1)) ∧ (¬ (z0j72 = 1) → wu_Wd_set y (fun (s_6 : St) => Post s_6 (-1)) s_j72 a1 x2j72 12 z0j72))) ∧ (z0j72 = 0 → Post s_j72 x6j72))
def wj_Fi_nextAbove_53 (y : Ly) (Post : St → Int32 → Prop) (K_16 : St → Int32 → Int32 → Int32 → Int32 → Prop) (a0 : Nat) (a1 : Nat) (s_j53 : St) (x2j53 : Int32) (x3j53 : Int32) (x4j53 : Int32) (x5j53 : Int32) (z0j53 : Int32) : Prop := ((0 ≤ z0j53 → wu_Wd_of y (fun (s_8 : St) (r_7 : Int32) => wj_Fi_nextAbove_72 y Post K_16 a0 a1 s_8 x2j53 x3j53 x4j53 x5j53 z0j53 r_7) s_j53 a1 z0j53 12) ∧ (¬ (0 ≤ z0j53) → wj_Fi_nextAbove_72 y Post K_16 a0 a1 s_j53 x2j53 x3j53 x4j53 x5j53 z0j53 1))
def wb_Fi_nextAbove_16 (y : Ly) (Post : St → Int32 → Prop) (K_16 : St → Int32 → Int32 → Int32 → Int32 → Prop) (a0 : Nat) (a1 : Nat) (s_h16 : St) (x2h16 : Int32) (x3h16 : Int32) (x4h16 : Int32) (x5h16 : Int32) : Prop := ((x4h16 < x5h16 → Post s_h16 (-1)) ∧ (¬ (x4h16 < x5h16) → xS y s_h16 a0 7 x3h16 x5h16 (fun s_4 : St => ((¬ x5h16 = 0 → wu_Wd_face y (fun (s_10 : St) (r_9 : Int32) => wj_Fi_nextAbove_53 y Post K_16 a0 a1 s_10 x2h16 x3h16 x4h16 x5h16 r_9) s_4 a1 x2h16 (x5h16 - 1)) ∧ (x5h16 = 0 → wu_Wd_toldParent y (fun (s_12 : St) (r_11 : Int32) => wj_Fi_nextAbove_53 y Post K_16 a0 a1 s_12 x2h16 x3h16 x4h16 x5h16 r_11) s_4 a1 x2h16)))))
def wl_Fi_nextAbove_16 (y : Ly) (Post : St → Int32 → Prop) (a0 : Nat) (a1 : Nat) (s_h16 : St) (x2h16 : Int32) (x3h16 : Int32) (x4h16 : Int32) (x5h16 : Int32) : Prop := ∃ (I : St → Int32 → Int32 → Int32 → Int32 → Prop) (μ : St → Int32 → Int32 → Int32 → Int32 → Nat), I s_h16 x2h16 x3h16 x4h16 x5h16 ∧ ∀ (u : St) (t0 : Int32) (t1 : Int32) (t2 : Int32) (t3 : Int32), I u t0 t1 t2 t3 → wb_Fi_nextAbove_16 y Post (fun z t0q t1q t2q t3q => I z t0q t1q t2q t3q ∧ μ z t0q t1q t2q t3q < μ u t0 t1 t2 t3) a0 a1 u t0 t1 t2 t3
def wu_Fi_nextAbove (y : Ly) (Post : St → Int32 → Prop) (σ : St) (a0 : Nat) (a1 : Nat) (v2 : Int32) (v3 : Int32) : Prop := wu_Wd_of y (fun (s_2 : St) (r_1 : Int32) => xA y s_2 a0 7 v3 (fun x_3 : Int32 => wl_Fi_nextAbove_16 y Post a0 a1 s_2 v2 v3 r_1 x_3)) σ a1 v2 3
set_option maxHeartbeats 4000000 in
set_option maxRecDepth 100000 in
theorem cu_Fi_nextAbove (l : Launch) (D : va_G) (g : Nat → ClassId) (ad : Nat → Nat) (y : Ly) (Post : St → Int32 → Prop) (σ : St) (a0 : Nat) (a1 : Nat) (v2 : Int32) (v3 : Int32) (sz : Nat) (h_a0 : cl a0 = 1) (h_a1 : cl a1 = 9) (h : wu_Fi_nextAbove y Post σ a0 a1 v2 v3) : Met l y_Fi_nextAbove (mw y_Fi_nextAbove b_Fi_nextAbove 8 (some .int)) ru_Fi_nextAbove (PC g D [] [.ref (ad a0), .ref (ad a1), .int v2, .int v3] sz (ws g ad y σ)) (va_Qi (fun (r : Int32) (u : St) => Post u r) (QW D (va_A (ws g ad y σ) sz) (fun u => ws g ad y u)) (va_A (ws g ad y σ) sz)) 0 0 (va_A (ws g ad y σ) sz) := by
  refine ofI (by decide +kernel) (Nat.le_of_ble_eq_true rfl) ?_
  intro p e s m args below meth c A Q ls H locs G hsz hP hD hS hl hret
  subst hsz
  have hl : lv_has ls 8 [(0, .ref (ad a0)), (1, .ref (ad a1)), (2, .int v2), (3, .int v3)] := hl
  unfold wu_Fi_nextAbove at h
  refine lv_aload_n G.1 G.2.1 d_Fi_nextAbove_0 rfl (lv_at hl 1 rfl) ?_
  refine lv_iload_n G.1 G.2.1 d_Fi_nextAbove_1 rfl (lv_at hl 2 rfl) ?_
  refine lv_iconst (v := 3) G.1 G.2.1 d_Fi_nextAbove_2 (by decide) ?_
  refine ucVi (As := [.int v2, .int 3]) (rest := []) G hP hD hS (cu_Wd_of l D g ad y _ σ a1 v2 3 H.size h_a1 h) w9_Wd_of q1532 ⟨Nat.le_of_ble_eq_true rfl, Nat.le_of_ble_eq_true rfl⟩ rfl rfl h_a1 (q := (RWd, TWd, 17)) rfl rfl hl.1 rfl (Nat.le_of_ble_eq_true rfl) rfl ⟨Nat.le_refl _, Nat.le_refl _⟩ d_Fi_nextAbove_3 (fun r_1 s_2 H locs h hP hD hS => ?_)
  refine lv_istore (lv' := [(4, .int r_1), (0, .ref (ad a0)), (1, .ref (ad a1)), (2, .int v2), (3, .int v3)]) G.1 G.2.1 d_Fi_nextAbove_6 hl (by decide) rfl (fun ls hl => ?_)
  refine lv_aload_n G.1 G.2.1 d_Fi_nextAbove_8 rfl (lv_at hl 1 rfl) ?_
  refine ugf (v := .ref (yP y a0 7)) G hP h_a0 iFi rfl 7 (by decide) rfl q739 rfl rfl d_Fi_nextAbove_9 ?_
  refine lv_iload_n G.1 G.2.1 d_Fi_nextAbove_12 rfl (lv_at hl 4 rfl) ?_
  refine uiald G hP (kdp h_a0 rfl) (typ h_a0 rfl) h d_Fi_nextAbove_13 (fun x_3 h => ?_)
  refine lv_istore (lv' := [(5, .int x_3), (4, .int r_1), (0, .ref (ad a0)), (1, .ref (ad a1)), (2, .int v2), (3, .int v3)]) G.1 G.2.1 d_Fi_nextAbove_14 hl (by decide) rfl (fun ls hl => ?_)
  unfold wl_Fi_nextAbove_16 at h
  obtain ⟨I_16, μ_16, hI_16, hB_16⟩ := h
  have L_16 : ∀ (n_16 : Nat) (s_h16 : St) (x2h16 : Int32) (x3h16 : Int32) (x4h16 : Int32) (x5h16 : Int32), μ_16 s_h16 x2h16 x3h16 x4h16 x5h16 < n_16 → I_16 s_h16 x2h16 x3h16 x4h16 x5h16 → ∀ (H : Heap) (locs : List Loc), va_P D CL (ws g ad y s_h16) H → va_D A (ws g ad y s_h16) → va_S A s.heap H locs → ∀ ls, lv_has ls 8 [(0, .ref (ad a0)), (1, .ref (ad a1)), (2, .int x2h16), (3, .int x3h16), (4, .int x4h16), (5, .int x5h16)] → W p l e ru_Fi_nextAbove s m args below meth c H locs 0 0 Q (F0 m 16 ls []) := by
    intro n_16
    induction n_16 with
    | zero => intro s_h16 x2h16 x3h16 x4h16 x5h16 hμ; exact absurd hμ (Nat.not_lt_zero _)
    | succ n_16 ih_16 =>
      intro s_h16 x2h16 x3h16 x4h16 x5h16 hμ_16 hJ H locs hP hD hS ls hl
      obtain ⟨K_16, hK_16, h⟩ : ∃ K : St → Int32 → Int32 → Int32 → Int32 → Prop, (∀ z (t0 : Int32) (t1 : Int32) (t2 : Int32) (t3 : Int32), K z t0 t1 t2 t3 → I_16 z t0 t1 t2 t3 ∧ μ_16 z t0 t1 t2 t3 < μ_16 s_h16 x2h16 x3h16 x4h16 x5h16) ∧ wb_Fi_nextAbove_16 y Post K a0 a1 s_h16 x2h16 x3h16 x4h16 x5h16 := ⟨_, fun _ _ _ _ _ h => h, hB_16 s_h16 x2h16 x3h16 x4h16 x5h16 hJ⟩
      unfold wb_Fi_nextAbove_16 at h
      refine lv_iload G.1 G.2.1 d_Fi_nextAbove_16 (lv_at hl 5 rfl) ?_
      refine lv_iload G.1 G.2.1 d_Fi_nextAbove_18 (lv_at hl 4 rfl) ?_
      refine lv_icmp_gt (tgt := 105) G.1 G.2.1 d_Fi_nextAbove_20 (by decide) (fun c20 => ?_) (fun c20 => ?_)
      · skip
        have h := h.1 c20
        refine lv_iconst (v := (-1)) G.1 G.2.1 d_Fi_nextAbove_105 (by decide) ?_
        exact hret _ _ _ _ _ _ _ ls h hP hD hS (Nat.le_refl _) (Nat.le_refl _) d_Fi_nextAbove_106
      · skip
        have h := h.2 c20
        refine lv_aload_n G.1 G.2.1 d_Fi_nextAbove_23 rfl (lv_at hl 0 rfl) ?_
        refine ugf (v := .ref (yP y a0 7)) G hP h_a0 iFi rfl 7 (by decide) rfl q739 rfl rfl d_Fi_nextAbove_24 ?_
        refine lv_iload_n G.1 G.2.1 d_Fi_nextAbove_27 rfl (lv_at hl 3 rfl) ?_
        refine lv_iload G.1 G.2.1 d_Fi_nextAbove_28 (lv_at hl 5 rfl) ?_
        refine uiast G hP hD hS (kdp h_a0 rfl) (typ h_a0 rfl) h d_Fi_nextAbove_30 (fun s_4 H locs h hP hD hS => ?_)
        refine lv_iload G.1 G.2.1 d_Fi_nextAbove_31 (lv_at hl 5 rfl) ?_
        have J_53 : ∀ (s_j53 : St) (x2j53 : Int32) (x3j53 : Int32) (x4j53 : Int32) (x5j53 : Int32) (z0j53 : Int32) (H : Heap) (locs : List Loc), wj_Fi_nextAbove_53 y Post K_16 a0 a1 s_j53 x2j53 x3j53 x4j53 x5j53 z0j53 → va_P D CL (ws g ad y s_j53) H → va_D A (ws g ad y s_j53) → va_S A s.heap H locs → ∀ ls, lv_has ls 8 [(0, .ref (ad a0)), (1, .ref (ad a1)), (2, .int x2j53), (3, .int x3j53), (4, .int x4j53), (5, .int x5j53)] → W p l e ru_Fi_nextAbove s m args below meth c H locs 0 0 Q (F0 m 53 ls [.int z0j53]) := by
          intro s_j53 x2j53 x3j53 x4j53 x5j53 z0j53 H locs h hP hD hS ls hl
          unfold wj_Fi_nextAbove_53 at h
          refine lv_istore (lv' := [(6, .int z0j53), (0, .ref (ad a0)), (1, .ref (ad a1)), (2, .int x2j53), (3, .int x3j53), (4, .int x4j53), (5, .int x5j53)]) G.1 G.2.1 d_Fi_nextAbove_53 hl (by decide) rfl (fun ls hl => ?_)
          refine lv_iload G.1 G.2.1 d_Fi_nextAbove_55 (lv_at hl 0 rfl) ?_
          have J_72 : ∀ (s_j72 : St) (x2j72 : Int32) (x3j72 : Int32) (x4j72 : Int32) (x5j72 : Int32) (x6j72 : Int32) (z0j72 : Int32) (H : Heap) (locs : List Loc), wj_Fi_nextAbove_72 y Post K_16 a0 a1 s_j72 x2j72 x3j72 x4j72 x5j72 x6j72 z0j72 → va_P D CL (ws g ad y s_j72) H → va_D A (ws g ad y s_j72) → va_S A s.heap H locs → ∀ ls, lv_has ls 8 [(0, .ref (ad a0)), (1, .ref (ad a1)), (2, .int x2j72), (3, .int x3j72), (4, .int x4j72), (5, .int x5j72), (6, .int x6j72)] → W p l e ru_Fi_nextAbove s m args below meth c H locs 0 0 Q (F0 m 72 ls [.int z0j72]) := by
            intro s_j72 x2j72 x3j72 x4j72 x5j72 x6j72 z0j72 H locs h hP hD hS ls hl
            unfold wj_Fi_nextAbove_72 at h
            refine lv_istore (lv' := [(7, .int z0j72), (0, .ref (ad a0)), (1, .ref (ad a1)), (2, .int x2j72), (3, .int x3j72), (4, .int x4j72), (5, .int x5j72), (6, .int x6j72)]) G.1 G.2.1 d_Fi_nextAbove_72 hl (by decide) rfl (fun ls hl => ?_)
            refine lv_iload G.1 G.2.1 d_Fi_nextAbove_74 (lv_at hl 0 rfl) ?_
            refine lv_if_ne (tgt := 82) G.1 G.2.1 d_Fi_nextAbove_76 (by decide) (fun c76 => ?_) (fun c76 => ?_)
            · skip
              have h := h.1 c76
              refine lv_iload G.1 G.2.1 d_Fi_nextAbove_82 (lv_at hl 0 rfl) ?_
              refine lv_iconst (v := 1) G.1 G.2.1 d_Fi_nextAbove_84 (by decide) ?_
              refine lv_icmp_eq (tgt := 99) G.1 G.2.1 d_Fi_nextAbove_85 (by decide) (fun c85 => ?_) (fun c85 => ?_)
              · skip
                have h := h.1 c85
                refine lv_iinc (v := x5j72 + 1) (lv' := [(5, .int (x5j72 + 1)), (7, .int z0j72), (0, .ref (ad a0)), (1, .ref (ad a1)), (2, .int x2j72), (3, .int x3j72), (4, .int x4j72), (6, .int x6j72)]) G.1 G.2.1 d_Fi_nextAbove_99 hl (k := 6) rfl rfl (by decide) rfl (fun ls hl => ?_)
                refine lv_goto (tgt := 16) G.1 G.2.1 d_Fi_nextAbove_102 (by decide) ?_
                have h := hK_16 s_j72 x2j72 x3j72 x4j72 (x5j72 + 1) h
                exact ih_16 s_j72 x2j72 x3j72 x4j72 (x5j72 + 1) (Nat.lt_of_lt_of_le h.2 (Nat.le_of_lt_succ hμ_16)) h.1 H locs hP hD hS ls (lv_sub hl [2, 3, 4, 5, 6, 0] rfl)
              · skip
                have h := h.2 c85
                refine lv_aload_n G.1 G.2.1 d_Fi_nextAbove_88 rfl (lv_at hl 2 rfl) ?_
                refine lv_iload_n G.1 G.2.1 d_Fi_nextAbove_89 rfl (lv_at hl 3 rfl) ?_
                refine lv_bipush (v := 12) G.1 G.2.1 d_Fi_nextAbove_90 (by decide) ?_
                refine lv_iload G.1 G.2.1 d_Fi_nextAbove_92 (lv_at hl 0 rfl) ?_
                refine ucVv (As := [.int x2j72, .int 12, .int z0j72]) (rest := []) G hP hD hS (cu_Wd_set l D g ad y _ s_j72 a1 x2j72 12 z0j72 H.size h_a1 h) w9_Wd_set q1563 ⟨Nat.le_of_ble_eq_true rfl, Nat.le_of_ble_eq_true rfl⟩ rfl rfl h_a1 (q := (RWd, TWd, 17)) rfl rfl hl.1 rfl (Nat.le_of_ble_eq_true rfl) rfl ⟨Nat.le_refl _, Nat.le_refl _⟩ d_Fi_nextAbove_94 (fun s_6 H locs h hP hD hS => ?_)
                refine W.eq (g2 := F0 m 97 ls []) rfl ?_
                refine lv_iconst (v := (-1)) G.1 G.2.1 d_Fi_nextAbove_97 (by decide) ?_
                exact hret _ _ _ _ _ _ _ ls h hP hD hS (Nat.le_refl _) (Nat.le_refl _) d_Fi_nextAbove_98
            · skip
              have h := h.2 c76
              refine lv_iload G.1 G.2.1 d_Fi_nextAbove_79 (lv_at hl 7 rfl) ?_
              exact hret _ _ _ _ _ _ _ ls h hP hD hS (Nat.le_refl _) (Nat.le_refl _) d_Fi_nextAbove_81
          refine lv_if_ge (tgt := 64) G.1 G.2.1 d_Fi_nextAbove_57 (by decide) (fun c57 => ?_) (fun c57 => ?_)
          · skip
            have h := h.1 c57
            refine lv_aload_n G.1 G.2.1 d_Fi_nextAbove_64 rfl (lv_at hl 2 rfl) ?_
            refine lv_iload G.1 G.2.1 d_Fi_nextAbove_65 (lv_at hl 0 rfl) ?_
            refine lv_bipush (v := 12) G.1 G.2.1 d_Fi_nextAbove_67 (by decide) ?_
            refine ucVi (As := [.int z0j53, .int 12]) (rest := []) G hP hD hS (cu_Wd_of l D g ad y _ s_j53 a1 z0j53 12 H.size h_a1 h) w9_Wd_of q1532 ⟨Nat.le_of_ble_eq_true rfl, Nat.le_of_ble_eq_true rfl⟩ rfl rfl h_a1 (q := (RWd, TWd, 17)) rfl rfl hl.1 rfl (Nat.le_of_ble_eq_true rfl) rfl ⟨Nat.le_refl _, Nat.le_refl _⟩ d_Fi_nextAbove_69 (fun r_7 s_8 H locs h hP hD hS => ?_)
            exact J_72 s_8 x2j53 x3j53 x4j53 x5j53 z0j53 r_7 H locs h hP hD hS ls (lv_sub hl [1, 2, 3, 4, 5, 6, 0] rfl)
          · skip
            have h := h.2 c57
            refine lv_iconst (v := 1) G.1 G.2.1 d_Fi_nextAbove_60 (by decide) ?_
            refine lv_goto (tgt := 72) G.1 G.2.1 d_Fi_nextAbove_61 (by decide) ?_
            exact J_72 s_j53 x2j53 x3j53 x4j53 x5j53 z0j53 1 H locs h hP hD hS ls (lv_sub hl [1, 2, 3, 4, 5, 6, 0] rfl)
        refine lv_if_ne (tgt := 44) G.1 G.2.1 d_Fi_nextAbove_33 (by decide) (fun c33 => ?_) (fun c33 => ?_)
        · skip
          have h := h.1 c33
          refine lv_aload_n G.1 G.2.1 d_Fi_nextAbove_44 rfl (lv_at hl 1 rfl) ?_
          refine W.eq (g2 := F0 m 45 ls [.ref (ad a1)]) rfl ?_
          refine lv_iload_n G.1 G.2.1 d_Fi_nextAbove_45 rfl (lv_at hl 2 rfl) ?_
          refine lv_iload G.1 G.2.1 d_Fi_nextAbove_46 (lv_at hl 5 rfl) ?_
          refine lv_iconst (v := 1) G.1 G.2.1 d_Fi_nextAbove_48 (by decide) ?_
          refine lv_isub G.1 G.2.1 d_Fi_nextAbove_49 ?_
          refine ucVi (As := [.int x2h16, .int (x5h16 - 1)]) (rest := []) G hP hD hS (cu_Wd_face l D g ad y _ s_4 a1 x2h16 (x5h16 - 1) H.size h_a1 h) w9_Wd_face q1557 ⟨Nat.le_of_ble_eq_true rfl, Nat.le_of_ble_eq_true rfl⟩ rfl rfl h_a1 (q := (RWd, TWd, 17)) rfl rfl hl.1 rfl (Nat.le_of_ble_eq_true rfl) rfl ⟨Nat.le_refl _, Nat.le_refl _⟩ d_Fi_nextAbove_50 (fun r_9 s_10 H locs h hP hD hS => ?_)
          exact J_53 s_10 x2h16 x3h16 x4h16 x5h16 r_9 H locs h hP hD hS ls (lv_sub hl [0, 1, 2, 3, 4, 5] rfl)
        · skip
          have h := h.2 c33
          refine lv_aload_n G.1 G.2.1 d_Fi_nextAbove_36 rfl (lv_at hl 1 rfl) ?_
          refine W.eq (g2 := F0 m 37 ls [.ref (ad a1)]) rfl ?_
          refine lv_iload_n G.1 G.2.1 d_Fi_nextAbove_37 rfl (lv_at hl 2 rfl) ?_
          refine ucVi (As := [.int x2h16]) (rest := []) G hP hD hS (cu_Wd_toldParent l D g ad y _ s_4 a1 x2h16 H.size h_a1 h) w9_Wd_toldParent q1555 ⟨Nat.le_of_ble_eq_true rfl, Nat.le_of_ble_eq_true rfl⟩ rfl rfl h_a1 (q := (RWd, TWd, 17)) rfl rfl hl.1 rfl (Nat.le_of_ble_eq_true rfl) rfl ⟨Nat.le_refl _, Nat.le_refl _⟩ d_Fi_nextAbove_38 (fun r_11 s_12 H locs h hP hD hS => ?_)
          refine lv_goto (tgt := 53) G.1 G.2.1 d_Fi_nextAbove_41 (by decide) ?_
          exact J_53 s_12 x2h16 x3h16 x4h16 x5h16 r_11 H locs h hP hD hS ls (lv_sub hl [0, 1, 2, 3, 4, 5] rfl)
  exact L_16 _ s_2 v2 v3 r_1 x_3 (Nat.lt_succ_self _) hI_16 H locs hP hD hS ls (lv_sub hl [2, 3, 4, 5, 1, 0] rfl)
theorem q1568 : Cond.methodLink "ClassWorks$Finder" 100 y_Wd_method ∈ lw_ok := lw_okmem (List.mem_of_getElem? (i := 1568) (by decide +kernel)) rfl
theorem q736 : Cond.fieldLink "ClassWorks$Finder" 43 "ClassWorks$Finder" "names" "LClassWorks$Names;" ∈ lw_ok := lw_okmem (List.mem_of_getElem? (i := 736) (by decide +kernel)) rfl
theorem q1569 : Cond.methodLink "ClassWorks$Finder" 104 y_Na_nameOf ∈ lw_ok := lw_okmem (List.mem_of_getElem? (i := 1569) (by decide +kernel)) rfl
theorem q1571 : Cond.methodLink "ClassWorks$Finder" 112 y_Wd_methodWith ∈ lw_ok := lw_okmem (List.mem_of_getElem? (i := 1571) (by decide +kernel)) rfl
theorem q1460 : Cond.code y_Wd_methodWith b_Wd_methodWith 6 (some .int) ∈ lw_ok := lw_okmem (List.mem_of_getElem? (i := 1460) (by decide +kernel)) rfl
theorem q1458 : Cond.instanceMethod y_Wd_methodWith ∈ lw_ok := lw_okmem (List.mem_of_getElem? (i := 1458) (by decide +kernel)) rfl
theorem q1459 : Cond.selects y_Wd_methodWith.cls y_Wd_methodWith y_Wd_methodWith ∈ lw_ok := lw_okmem (List.mem_of_getElem? (i := 1459) (by decide +kernel)) rfl
theorem w9_Wd_methodWith : CWv y_Wd_methodWith b_Wd_methodWith 6 (some .int) 2 ∧ Cond.instanceMethod y_Wd_methodWith ∈ lw_ok ∧ Cond.selects y_Wd_methodWith.cls y_Wd_methodWith y_Wd_methodWith ∈ lw_ok := ⟨⟨q1460, q345, by decide +kernel, by decide +kernel, by decide +kernel⟩, q1458, q1459⟩
def y_Fi_hasFinalAbove : MethodName := ⟨"ClassWorks$Finder", "hasFinalAbove", "(LClassWorks$World;I)Z"⟩
abbrev b_Fi_hasFinalAbove : ByteArray := prog_3_method_5_code
theorem q1570 : Cond.methodLink "ClassWorks$Finder" 109 y_Wd_up ∈ lw_ok := lw_okmem (List.mem_of_getElem? (i := 1570) (by decide +kernel)) rfl
theorem d_Fi_hasFinalAbove_0 : decode b_Fi_hasFinalAbove 0 = .ok (.iconst 0, 1) := by decide +kernel
theorem d_Fi_hasFinalAbove_1 : decode b_Fi_hasFinalAbove 1 = .ok (.istore_n 3, 1) := by decide +kernel
theorem d_Fi_hasFinalAbove_2 : decode b_Fi_hasFinalAbove 2 = .ok (.iload_n 3, 1) := by decide +kernel
theorem d_Fi_hasFinalAbove_3 : decode b_Fi_hasFinalAbove 3 = .ok (.aload_n 1, 1) := by decide +kernel
theorem d_Fi_hasFinalAbove_4 : decode b_Fi_hasFinalAbove 4 = .ok (.iload_n 2, 1) := by decide +kernel
theorem d_Fi_hasFinalAbove_5 : decode b_Fi_hasFinalAbove 5 = .ok (.bipush 11, 2) := by decide +kernel
theorem d_Fi_hasFinalAbove_7 : decode b_Fi_hasFinalAbove 7 = .ok (.invokevirtual 51, 3) := by decide +kernel
theorem d_Fi_hasFinalAbove_10 : decode b_Fi_hasFinalAbove 10 = .ok (.if_icmp .ge 140, 3) := by decide +kernel
theorem d_Fi_hasFinalAbove_13 : decode b_Fi_hasFinalAbove 13 = .ok (.aload_n 1, 1) := by decide +kernel
theorem d_Fi_hasFinalAbove_14 : decode b_Fi_hasFinalAbove 14 = .ok (.iload_n 2, 1) := by decide +kernel
theorem d_Fi_hasFinalAbove_15 : decode b_Fi_hasFinalAbove 15 = .ok (.iload_n 3, 1) := by decide +kernel
theorem d_Fi_hasFinalAbove_16 : decode b_Fi_hasFinalAbove 16 = .ok (.iconst 0, 1) := by decide +kernel
theorem d_Fi_hasFinalAbove_17 : decode b_Fi_hasFinalAbove 17 = .ok (.invokevirtual 100, 3) := by decide +kernel
theorem d_Fi_hasFinalAbove_20 : decode b_Fi_hasFinalAbove 20 = .ok (.istore 4, 2) := by decide +kernel
theorem d_Fi_hasFinalAbove_22 : decode b_Fi_hasFinalAbove 22 = .ok (.aload_n 0, 1) := by decide +kernel
theorem d_Fi_hasFinalAbove_23 : decode b_Fi_hasFinalAbove 23 = .ok (.getfield 43, 3) := by decide +kernel
theorem d_Fi_hasFinalAbove_26 : decode b_Fi_hasFinalAbove 26 = .ok (.iload 4, 2) := by decide +kernel
theorem d_Fi_hasFinalAbove_28 : decode b_Fi_hasFinalAbove 28 = .ok (.invokevirtual 104, 3) := by decide +kernel
theorem d_Fi_hasFinalAbove_31 : decode b_Fi_hasFinalAbove 31 = .ok (.istore 5, 2) := by decide +kernel
theorem d_Fi_hasFinalAbove_33 : decode b_Fi_hasFinalAbove 33 = .ok (.aload_n 1, 1) := by decide +kernel
theorem d_Fi_hasFinalAbove_34 : decode b_Fi_hasFinalAbove 34 = .ok (.iload_n 2, 1) := by decide +kernel
theorem d_Fi_hasFinalAbove_35 : decode b_Fi_hasFinalAbove 35 = .ok (.iload_n 3, 1) := by decide +kernel
theorem d_Fi_hasFinalAbove_36 : decode b_Fi_hasFinalAbove 36 = .ok (.iconst 1, 1) := by decide +kernel
theorem d_Fi_hasFinalAbove_37 : decode b_Fi_hasFinalAbove 37 = .ok (.invokevirtual 100, 3) := by decide +kernel
theorem d_Fi_hasFinalAbove_40 : decode b_Fi_hasFinalAbove 40 = .ok (.iconst 5, 1) := by decide +kernel
theorem d_Fi_hasFinalAbove_41 : decode b_Fi_hasFinalAbove 41 = .ok (.iand, 1) := by decide +kernel
theorem d_Fi_hasFinalAbove_42 : decode b_Fi_hasFinalAbove 42 = .ok (.ifCond .eq 7, 3) := by decide +kernel
theorem d_Fi_hasFinalAbove_45 : decode b_Fi_hasFinalAbove 45 = .ok (.iconst 1, 1) := by decide +kernel
theorem d_Fi_hasFinalAbove_46 : decode b_Fi_hasFinalAbove 46 = .ok (.goto 4, 3) := by decide +kernel
theorem d_Fi_hasFinalAbove_49 : decode b_Fi_hasFinalAbove 49 = .ok (.iconst 0, 1) := by decide +kernel
theorem d_Fi_hasFinalAbove_50 : decode b_Fi_hasFinalAbove 50 = .ok (.istore 6, 2) := by decide +kernel
theorem d_Fi_hasFinalAbove_52 : decode b_Fi_hasFinalAbove 52 = .ok (.iload 6, 2) := by decide +kernel
theorem d_Fi_hasFinalAbove_54 : decode b_Fi_hasFinalAbove 54 = .ok (.ifCond .ne 17, 3) := by decide +kernel
theorem d_Fi_hasFinalAbove_57 : decode b_Fi_hasFinalAbove 57 = .ok (.iload 5, 2) := by decide +kernel
theorem d_Fi_hasFinalAbove_59 : decode b_Fi_hasFinalAbove 59 = .ok (.bipush 7, 2) := by decide +kernel
theorem d_Fi_hasFinalAbove_61 : decode b_Fi_hasFinalAbove 61 = .ok (.if_icmp .eq 10, 3) := by decide +kernel
theorem d_Fi_hasFinalAbove_64 : decode b_Fi_hasFinalAbove 64 = .ok (.iload 5, 2) := by decide +kernel
theorem d_Fi_hasFinalAbove_66 : decode b_Fi_hasFinalAbove 66 = .ok (.bipush 8, 2) := by decide +kernel
theorem d_Fi_hasFinalAbove_68 : decode b_Fi_hasFinalAbove 68 = .ok (.if_icmp .ne 7, 3) := by decide +kernel
theorem d_Fi_hasFinalAbove_71 : decode b_Fi_hasFinalAbove 71 = .ok (.iconst (-1), 1) := by decide +kernel
theorem d_Fi_hasFinalAbove_72 : decode b_Fi_hasFinalAbove 72 = .ok (.goto 8, 3) := by decide +kernel
theorem d_Fi_hasFinalAbove_75 : decode b_Fi_hasFinalAbove 75 = .ok (.aload_n 1, 1) := by decide +kernel
theorem d_Fi_hasFinalAbove_76 : decode b_Fi_hasFinalAbove 76 = .ok (.iload_n 2, 1) := by decide +kernel
theorem d_Fi_hasFinalAbove_77 : decode b_Fi_hasFinalAbove 77 = .ok (.invokevirtual 109, 3) := by decide +kernel
theorem d_Fi_hasFinalAbove_80 : decode b_Fi_hasFinalAbove 80 = .ok (.istore 7, 2) := by decide +kernel
theorem d_Fi_hasFinalAbove_82 : decode b_Fi_hasFinalAbove 82 = .ok (.iconst 0, 1) := by decide +kernel
theorem d_Fi_hasFinalAbove_83 : decode b_Fi_hasFinalAbove 83 = .ok (.istore 8, 2) := by decide +kernel
theorem d_Fi_hasFinalAbove_85 : decode b_Fi_hasFinalAbove 85 = .ok (.iload 8, 2) := by decide +kernel
theorem d_Fi_hasFinalAbove_87 : decode b_Fi_hasFinalAbove 87 = .ok (.bipush 51, 2) := by decide +kernel
theorem d_Fi_hasFinalAbove_89 : decode b_Fi_hasFinalAbove 89 = .ok (.if_icmp .ge 55, 3) := by decide +kernel
theorem d_Fi_hasFinalAbove_92 : decode b_Fi_hasFinalAbove 92 = .ok (.iload 7, 2) := by decide +kernel
theorem d_Fi_hasFinalAbove_94 : decode b_Fi_hasFinalAbove 94 = .ok (.ifCond .lt 50, 3) := by decide +kernel
theorem d_Fi_hasFinalAbove_97 : decode b_Fi_hasFinalAbove 97 = .ok (.aload_n 1, 1) := by decide +kernel
theorem d_Fi_hasFinalAbove_98 : decode b_Fi_hasFinalAbove 98 = .ok (.iload 7, 2) := by decide +kernel
theorem d_Fi_hasFinalAbove_100 : decode b_Fi_hasFinalAbove 100 = .ok (.iload 4, 2) := by decide +kernel
theorem d_Fi_hasFinalAbove_102 : decode b_Fi_hasFinalAbove 102 = .ok (.invokevirtual 112, 3) := by decide +kernel
theorem d_Fi_hasFinalAbove_105 : decode b_Fi_hasFinalAbove 105 = .ok (.istore 9, 2) := by decide +kernel
theorem d_Fi_hasFinalAbove_107 : decode b_Fi_hasFinalAbove 107 = .ok (.iload 9, 2) := by decide +kernel
theorem d_Fi_hasFinalAbove_109 : decode b_Fi_hasFinalAbove 109 = .ok (.ifCond .lt 21, 3) := by decide +kernel
theorem d_Fi_hasFinalAbove_112 : decode b_Fi_hasFinalAbove 112 = .ok (.aload_n 1, 1) := by decide +kernel
theorem d_Fi_hasFinalAbove_113 : decode b_Fi_hasFinalAbove 113 = .ok (.iload 7, 2) := by decide +kernel
theorem d_Fi_hasFinalAbove_115 : decode b_Fi_hasFinalAbove 115 = .ok (.iload 9, 2) := by decide +kernel
theorem d_Fi_hasFinalAbove_117 : decode b_Fi_hasFinalAbove 117 = .ok (.iconst 1, 1) := by decide +kernel
theorem d_Fi_hasFinalAbove_118 : decode b_Fi_hasFinalAbove 118 = .ok (.invokevirtual 100, 3) := by decide +kernel
theorem d_Fi_hasFinalAbove_121 : decode b_Fi_hasFinalAbove 121 = .ok (.bipush 7, 2) := by decide +kernel
theorem d_Fi_hasFinalAbove_123 : decode b_Fi_hasFinalAbove 123 = .ok (.iand, 1) := by decide +kernel
theorem d_Fi_hasFinalAbove_124 : decode b_Fi_hasFinalAbove 124 = .ok (.iconst 2, 1) := by decide +kernel
theorem d_Fi_hasFinalAbove_125 : decode b_Fi_hasFinalAbove 125 = .ok (.if_icmp .ne 5, 3) := by decide +kernel
theorem d_Fi_hasFinalAbove_128 : decode b_Fi_hasFinalAbove 128 = .ok (.iconst 1, 1) := by decide +kernel
theorem d_Fi_hasFinalAbove_129 : decode b_Fi_hasFinalAbove 129 = .ok (.ireturn, 1) := by decide +kernel
theorem d_Fi_hasFinalAbove_130 : decode b_Fi_hasFinalAbove 130 = .ok (.aload_n 1, 1) := by decide +kernel
theorem d_Fi_hasFinalAbove_131 : decode b_Fi_hasFinalAbove 131 = .ok (.iload 7, 2) := by decide +kernel
theorem d_Fi_hasFinalAbove_133 : decode b_Fi_hasFinalAbove 133 = .ok (.invokevirtual 109, 3) := by decide +kernel
theorem d_Fi_hasFinalAbove_136 : decode b_Fi_hasFinalAbove 136 = .ok (.istore 7, 2) := by decide +kernel
theorem d_Fi_hasFinalAbove_138 : decode b_Fi_hasFinalAbove 138 = .ok (.iinc 8 1, 3) := by decide +kernel
theorem d_Fi_hasFinalAbove_141 : decode b_Fi_hasFinalAbove 141 = .ok (.goto (-56), 3) := by decide +kernel
theorem d_Fi_hasFinalAbove_144 : decode b_Fi_hasFinalAbove 144 = .ok (.iinc 3 1, 3) := by decide +kernel
theorem d_Fi_hasFinalAbove_147 : decode b_Fi_hasFinalAbove 147 = .ok (.goto (-145), 3) := by decide +kernel
theorem d_Fi_hasFinalAbove_150 : decode b_Fi_hasFinalAbove 150 = .ok (.iconst 0, 1) := by decide +kernel
theorem d_Fi_hasFinalAbove_151 : decode b_Fi_hasFinalAbove 151 = .ok (.ireturn, 1) := by decide +kernel
abbrev ru_Fi_hasFinalAbove : Room := { frames := 1, cells := 0, slots := 0, locals := 25 }
def wj_Fi_hasFinalAbove_144 (y : Ly) (Post : St → Int32 → Prop) (K_2 : St → Int32 → Int32 → Prop) (a0 : Nat) (a1 : Nat) (s_j144 : St) (x2j144 : Int32) (x3j144 : Int32) : Prop := K_2 s_j144 x2j144 (x3j144 + 1)
def wj_Fi_hasFinalAbove_130 (y : Ly) (Post : St → Int32 → Prop) (K_2 : St → Int32 → Int32 → Prop) (K_85 : St → Int32 → Int32 → Int32 → Int32 → Int32 → Prop) (a0 : Nat) (a1 : Nat) (s_j130 : St) (x2j130 : Int32) (x3j130 : Int32) (x4j130 : Int32) (x7j130 : Int32) (x8j130 : Int32) : Prop := wu_Wd_up y (fun (s_12 : St) (r_11 : Int32) => K_85 s_12 x2j130 x3j130 x4j130 r_11 (x8j130 + 1)) s_j130 a1 x7j130
def wb_Fi_hasFinalAbove_85 (y : Ly) (Post : St → Int32 → Prop) (K_2 : St → Int32 → Int32 → Prop) (K_85 : St → Int32 → Int32 → Int32 → Int32 → Int32 → Prop) (a0 : Nat) (a1 : Nat) (s_h85 : St) (x2h85 : Int32) (x3h85 : Int32) (x4h85 : Int32) (x7h85 : Int32) (x8h85 : Int32) : Prop := ((51 ≤ x8h85 → wj_Fi_hasFinalAbove_144 y Post K_2 a0 a1 s_h85 x2h85 x3h85) ∧ (¬ (51 ≤ x8h85) → ((x7h85 < 0 → wj_Fi_hasFinalAbove_144 y Post K_2 a0 a1 s_h85 x2h85 x3h85) ∧ (¬ (x7h85 < 0) → wu_Wd_methodWith y (fun (s_10 : St) (r_9 : Int32) => ((r_9 < 0 → wj_Fi_hasFinalAbove_130 y Post K_2 K_85 a0 a1 s_10 x2h85 x3h85 x4h85 x7h85 x8h85) ∧ (¬ (r_9 < 0) → wu_Wd_method y (fun (s_14 : St) (r_13 : Int32) => ((¬ (r_13 &&& 7) = 2 → wj_Fi_hasFinalAbove_130 y Post K_2 K_85 a0 a1 s_14 x2h85 x3h85 x4h85 x7h85 x8h85) ∧ ((r_13 &&& 7) = 2 → (nb 1 ∧ Post s_14 1)))) s_10 a1 x7h85 r_9 1))) s_h85 a1 x7h85 x4h85))))
def wl_Fi_hasFinalAbove_85 (y : Ly) (Post : St → Int32 → Prop) (K_2 : St → Int32 → Int32 → Prop) (a0 : Nat) (a1 : Nat) (s_h85 : St) (x2h85 : Int32) (x3h85 : Int32) (x4h85 : Int32) (x7h85 : Int32) (x8h85 : Int32) : Prop := ∃ (I : St → Int32 → Int32 → Int32 → Int32 → Int32 → Prop) (μ : St → Int32 → Int32 → Int32 → Int32 → Int32 → Nat), I s_h85 x2h85 x3h85 x4h85 x7h85 x8h85 ∧ ∀ (u : St) (t0 : Int32) (t1 : Int32) (t2 : Int32) (t3 : Int32) (t4 : Int32), I u t0 t1 t2 t3 t4 → wb_Fi_hasFinalAbove_85 y Post K_2 (fun z t0q t1q t2q t3q t4q => I z t0q t1q t2q t3q t4q ∧ μ z t0q t1q t2q t3q t4q < μ u t0 t1 t2 t3 t4) a0 a1 u t0 t1 t2 t3 t4
def wj_Fi_hasFinalAbove_80 (y : Ly) (Post : St → Int32 → Prop) (K_2 : St → Int32 → Int32 → Prop) (a0 : Nat) (a1 : Nat) (s_j80 : St) (x2j80 : Int32) (x3j80 : Int32) (x4j80 : Int32) (z0j80 : Int32) : Prop := wl_Fi_hasFinalAbove_85 y Post K_2 a0 a1 s_j80 x2j80 x3j80 x4j80 z0j80 0
def wj_Fi_hasFinalAbove_71 (y : Ly) (Post : St → Int32 → Prop) (K_2 : St → Int32 → Int32 → Prop) (a0 : Nat) (a1 : Nat) (s_j71 : St) (x2j71 : Int32) (x3j71 : Int32) (x4j71 : Int32) : Prop := wj_Fi_hasFinalAbove_80 y Post K_2 a0 a1 s_j71 x2j71 x3j71 x4j71 (-1)
def wj_Fi_hasFinalAbove_50 (y : Ly) (Post : St → Int32 → Prop) (K_2 : St → Int32 → Int32 → Prop) (a0 : Nat) (a1 : Nat) (s_j50 : St) (x2j50 : Int32) (x3j50 : Int32) (x4j50 : Int32) (x5j50 : Int32) (z0j50 : Int32) : Prop := ((¬ z0j50 = 0 → wj_Fi_hasFinalAbove_71 y Post K_2 a0 a1 s_j50 x2j50 x3j50 x4j50) ∧ (z0j50 = 0 → ((x5j50 = 7 → wj_Fi_hasFinalAbove_71 y Post K_2 a0 a1 s_j50 x2j50 x3j50 x4j50) ∧ (¬ (x5j50 = 7) → ((¬ x5j50 = 8 → wu_Wd_up y (fun (s_16 : St) (r_15 : Int32) => wj_Fi_hasFinalAbove_80 y Post K_2 a0 a1 s_16 x2j50 x3j50 x4j50 r_15) s_j50 a1 x2j50) ∧ (x5j50 = 8 → wj_Fi_hasFinalAbove_71 y Post K_2 a0 a1 s_j50 x2j50 x3j50 x4j50))))))
def wb_Fi_hasFinalAbove_2 (y : Ly) (Post : St → Int32 → Prop) (K_2 : St → Int32 → Int32 → Prop) (a0 : Nat) (a1 : Nat) (s_h2 : St) (x2h2 : Int32) (x3h2 : Int32) : Prop := wu_Wd_of y (fun (s_2 : St) (r_1 : Int32) => ((r_1 ≤ x3h2 → (nb 0 ∧ Post s_2 0)) ∧ (¬ (r_1 ≤ x3h2) → wu_Wd_method y (fun (s_4 : St) (r_3 : Int32) => wu_Na_nameOf y (fun (s_6 : St) (r_5 : Int32) => wu_Wd_method y (fun (s_8 : St) (r_7 : Int32) => (((r_7 &&& 5) = 0 → wj_Fi_hasFinalAbove_50 y Post K_2 a0 a1 s_8 x2h2 x3h2 r_3 r_5 0) ∧ (¬ ((r_7 &&& 5) = 0) → wj_Fi_hasFinalAbove_50 y Post K_2 a0 a1 s_8 x2h2 x3h2 r_3 r_5 1))) s_6 a1 x2h2 x3h2 1) s_4 (lk a0 4) r_3) s_2 a1 x2h2 x3h2 0))) s_h2 a1 x2h2 11
def wl_Fi_hasFinalAbove_2 (y : Ly) (Post : St → Int32 → Prop) (a0 : Nat) (a1 : Nat) (s_h2 : St) (x2h2 : Int32) (x3h2 : Int32) : Prop := ∃ (I : St → Int32 → Int32 → Prop) (μ : St → Int32 → Int32 → Nat), I s_h2 x2h2 x3h2 ∧ ∀ (u : St) (t0 : Int32) (t1 : Int32), I u t0 t1 → wb_Fi_hasFinalAbove_2 y Post (fun z t0q t1q => I z t0q t1q ∧ μ z t0q t1q < μ u t0 t1) a0 a1 u t0 t1
def wu_Fi_hasFinalAbove (y : Ly) (Post : St → Int32 → Prop) (σ : St) (a0 : Nat) (a1 : Nat) (v2 : Int32) : Prop := wl_Fi_hasFinalAbove_2 y Post a0 a1 σ v2 0
set_option maxHeartbeats 4000000 in
set_option maxRecDepth 100000 in
theorem cu_Fi_hasFinalAbove (l : Launch) (D : va_G) (g : Nat → ClassId) (ad : Nat → Nat) (y : Ly) (Post : St → Int32 → Prop) (σ : St) (a0 : Nat) (a1 : Nat) (v2 : Int32) (sz : Nat) (h_a0 : cl a0 = 1) (h_a1 : cl a1 = 9) (h : wu_Fi_hasFinalAbove y Post σ a0 a1 v2) : Met l y_Fi_hasFinalAbove (mw y_Fi_hasFinalAbove b_Fi_hasFinalAbove 10 (some (.boolean))) ru_Fi_hasFinalAbove (PC g D [] [.ref (ad a0), .ref (ad a1), .int v2] sz (ws g ad y σ)) (va_Qi (fun (r : Int32) (u : St) => Post u r) (QW D (va_A (ws g ad y σ) sz) (fun u => ws g ad y u)) (va_A (ws g ad y σ) sz)) 0 0 (va_A (ws g ad y σ) sz) := by
  refine ofZ (by decide +kernel) (Nat.le_of_ble_eq_true rfl) ?_
  intro p e s m args below meth c A Q ls H locs G hsz hP hD hS hl hret
  subst hsz
  have hl : lv_has ls 10 [(0, .ref (ad a0)), (1, .ref (ad a1)), (2, .int v2)] := hl
  unfold wu_Fi_hasFinalAbove at h
  refine lv_iconst (v := 0) G.1 G.2.1 d_Fi_hasFinalAbove_0 (by decide) ?_
  refine lv_istore_n (lv' := [(3, .int 0), (0, .ref (ad a0)), (1, .ref (ad a1)), (2, .int v2)]) G.1 G.2.1 d_Fi_hasFinalAbove_1 rfl hl (by decide) rfl (fun ls hl => ?_)
  unfold wl_Fi_hasFinalAbove_2 at h
  obtain ⟨I_2, μ_2, hI_2, hB_2⟩ := h
  have L_2 : ∀ (n_2 : Nat) (s_h2 : St) (x2h2 : Int32) (x3h2 : Int32), μ_2 s_h2 x2h2 x3h2 < n_2 → I_2 s_h2 x2h2 x3h2 → ∀ (H : Heap) (locs : List Loc), va_P D CL (ws g ad y s_h2) H → va_D A (ws g ad y s_h2) → va_S A s.heap H locs → ∀ ls, lv_has ls 10 [(0, .ref (ad a0)), (1, .ref (ad a1)), (2, .int x2h2), (3, .int x3h2)] → W p l e ru_Fi_hasFinalAbove s m args below meth c H locs 0 0 Q (F0 m 2 ls []) := by
    intro n_2
    induction n_2 with
    | zero => intro s_h2 x2h2 x3h2 hμ; exact absurd hμ (Nat.not_lt_zero _)
    | succ n_2 ih_2 =>
      intro s_h2 x2h2 x3h2 hμ_2 hJ H locs hP hD hS ls hl
      obtain ⟨K_2, hK_2, h⟩ : ∃ K : St → Int32 → Int32 → Prop, (∀ z (t0 : Int32) (t1 : Int32), K z t0 t1 → I_2 z t0 t1 ∧ μ_2 z t0 t1 < μ_2 s_h2 x2h2 x3h2) ∧ wb_Fi_hasFinalAbove_2 y Post K a0 a1 s_h2 x2h2 x3h2 := ⟨_, fun _ _ _ h => h, hB_2 s_h2 x2h2 x3h2 hJ⟩
      unfold wb_Fi_hasFinalAbove_2 at h
      refine lv_iload_n G.1 G.2.1 d_Fi_hasFinalAbove_2 rfl (lv_at hl 3 rfl) ?_
      refine lv_aload_n G.1 G.2.1 d_Fi_hasFinalAbove_3 rfl (lv_at hl 1 rfl) ?_
      refine lv_iload_n G.1 G.2.1 d_Fi_hasFinalAbove_4 rfl (lv_at hl 2 rfl) ?_
      refine lv_bipush (v := 11) G.1 G.2.1 d_Fi_hasFinalAbove_5 (by decide) ?_
      refine ucVi (As := [.int x2h2, .int 11]) (rest := [.int x3h2]) G hP hD hS (cu_Wd_of l D g ad y _ s_h2 a1 x2h2 11 H.size h_a1 h) w9_Wd_of q1532 ⟨Nat.le_of_ble_eq_true rfl, Nat.le_of_ble_eq_true rfl⟩ rfl rfl h_a1 (q := (RWd, TWd, 17)) rfl rfl hl.1 rfl (Nat.le_of_ble_eq_true rfl) rfl ⟨Nat.le_refl _, Nat.le_refl _⟩ d_Fi_hasFinalAbove_7 (fun r_1 s_2 H locs h hP hD hS => ?_)
      refine lv_icmp_ge (tgt := 150) G.1 G.2.1 d_Fi_hasFinalAbove_10 (by decide) (fun c10 => ?_) (fun c10 => ?_)
      · skip
        have h := h.1 c10
        refine lv_iconst (v := 0) G.1 G.2.1 d_Fi_hasFinalAbove_150 (by decide) ?_
        exact hret _ _ _ _ _ _ _ ls (nb_n h.1) h.2 hP hD hS (Nat.le_refl _) (Nat.le_refl _) d_Fi_hasFinalAbove_151
      · skip
        have h := h.2 c10
        refine lv_aload_n G.1 G.2.1 d_Fi_hasFinalAbove_13 rfl (lv_at hl 1 rfl) ?_
        refine lv_iload_n G.1 G.2.1 d_Fi_hasFinalAbove_14 rfl (lv_at hl 2 rfl) ?_
        refine lv_iload_n G.1 G.2.1 d_Fi_hasFinalAbove_15 rfl (lv_at hl 3 rfl) ?_
        refine lv_iconst (v := 0) G.1 G.2.1 d_Fi_hasFinalAbove_16 (by decide) ?_
        refine ucVi (As := [.int x2h2, .int x3h2, .int 0]) (rest := []) G hP hD hS (cu_Wd_method l D g ad y _ s_2 a1 x2h2 x3h2 0 H.size h_a1 h) w9_Wd_method q1568 ⟨Nat.le_of_ble_eq_true rfl, Nat.le_of_ble_eq_true rfl⟩ rfl rfl h_a1 (q := (RWd, TWd, 17)) rfl rfl hl.1 rfl (Nat.le_of_ble_eq_true rfl) rfl ⟨Nat.le_refl _, Nat.le_refl _⟩ d_Fi_hasFinalAbove_17 (fun r_3 s_4 H locs h hP hD hS => ?_)
        refine W.eq (g2 := F0 m 20 ls [.int r_3]) rfl ?_
        refine lv_istore (lv' := [(4, .int r_3), (0, .ref (ad a0)), (1, .ref (ad a1)), (2, .int x2h2), (3, .int x3h2)]) G.1 G.2.1 d_Fi_hasFinalAbove_20 hl (by decide) rfl (fun ls hl => ?_)
        refine lv_aload_n G.1 G.2.1 d_Fi_hasFinalAbove_22 rfl (lv_at hl 1 rfl) ?_
        refine ugf (v := .ref (ad (lk a0 4))) G hP h_a0 iFi rfl 4 (by decide) rfl q736 rfl rfl d_Fi_hasFinalAbove_23 ?_
        refine lv_iload G.1 G.2.1 d_Fi_hasFinalAbove_26 (lv_at hl 0 rfl) ?_
        refine ucVi (As := [.int r_3]) (rest := []) G hP hD hS (cu_Na_nameOf l D g ad y _ s_4 (lk a0 4) r_3 H.size (lk_1_4 h_a0) h) w9_Na_nameOf q1569 ⟨Nat.le_of_ble_eq_true rfl, Nat.le_of_ble_eq_true rfl⟩ rfl rfl (lk_1_4 h_a0) (q := (RNa, TNa, 11)) rfl rfl hl.1 rfl (Nat.le_of_ble_eq_true rfl) rfl ⟨Nat.le_refl _, Nat.le_refl _⟩ d_Fi_hasFinalAbove_28 (fun r_5 s_6 H locs h hP hD hS => ?_)
        refine lv_istore (lv' := [(5, .int r_5), (4, .int r_3), (0, .ref (ad a0)), (1, .ref (ad a1)), (2, .int x2h2), (3, .int x3h2)]) G.1 G.2.1 d_Fi_hasFinalAbove_31 hl (by decide) rfl (fun ls hl => ?_)
        refine lv_aload_n G.1 G.2.1 d_Fi_hasFinalAbove_33 rfl (lv_at hl 3 rfl) ?_
        refine lv_iload_n G.1 G.2.1 d_Fi_hasFinalAbove_34 rfl (lv_at hl 4 rfl) ?_
        refine lv_iload_n G.1 G.2.1 d_Fi_hasFinalAbove_35 rfl (lv_at hl 5 rfl) ?_
        refine lv_iconst (v := 1) G.1 G.2.1 d_Fi_hasFinalAbove_36 (by decide) ?_
        refine ucVi (As := [.int x2h2, .int x3h2, .int 1]) (rest := []) G hP hD hS (cu_Wd_method l D g ad y _ s_6 a1 x2h2 x3h2 1 H.size h_a1 h) w9_Wd_method q1568 ⟨Nat.le_of_ble_eq_true rfl, Nat.le_of_ble_eq_true rfl⟩ rfl rfl h_a1 (q := (RWd, TWd, 17)) rfl rfl hl.1 rfl (Nat.le_of_ble_eq_true rfl) rfl ⟨Nat.le_refl _, Nat.le_refl _⟩ d_Fi_hasFinalAbove_37 (fun r_7 s_8 H locs h hP hD hS => ?_)
        refine lv_iconst (v := 5) G.1 G.2.1 d_Fi_hasFinalAbove_40 (by decide) ?_
        refine W.eq (g2 := F0 m 41 ls [.int 5, .int r_7]) rfl ?_
        refine lv_iand G.1 G.2.1 d_Fi_hasFinalAbove_41 ?_
        have J_50 : ∀ (s_j50 : St) (x2j50 : Int32) (x3j50 : Int32) (x4j50 : Int32) (x5j50 : Int32) (z0j50 : Int32) (H : Heap) (locs : List Loc), wj_Fi_hasFinalAbove_50 y Post K_2 a0 a1 s_j50 x2j50 x3j50 x4j50 x5j50 z0j50 → va_P D CL (ws g ad y s_j50) H → va_D A (ws g ad y s_j50) → va_S A s.heap H locs → ∀ ls, lv_has ls 10 [(0, .ref (ad a0)), (1, .ref (ad a1)), (2, .int x2j50), (3, .int x3j50), (4, .int x4j50), (5, .int x5j50)] → W p l e ru_Fi_hasFinalAbove s m args below meth c H locs 0 0 Q (F0 m 50 ls [.int z0j50]) := by
          intro s_j50 x2j50 x3j50 x4j50 x5j50 z0j50 H locs h hP hD hS ls hl
          unfold wj_Fi_hasFinalAbove_50 at h
          refine lv_istore (lv' := [(6, .int z0j50), (0, .ref (ad a0)), (1, .ref (ad a1)), (2, .int x2j50), (3, .int x3j50), (4, .int x4j50), (5, .int x5j50)]) G.1 G.2.1 d_Fi_hasFinalAbove_50 hl (by decide) rfl (fun ls hl => ?_)
          refine lv_iload G.1 G.2.1 d_Fi_hasFinalAbove_52 (lv_at hl 0 rfl) ?_
          have J_80 : ∀ (s_j80 : St) (x2j80 : Int32) (x3j80 : Int32) (x4j80 : Int32) (z0j80 : Int32) (H : Heap) (locs : List Loc), wj_Fi_hasFinalAbove_80 y Post K_2 a0 a1 s_j80 x2j80 x3j80 x4j80 z0j80 → va_P D CL (ws g ad y s_j80) H → va_D A (ws g ad y s_j80) → va_S A s.heap H locs → ∀ ls, lv_has ls 10 [(0, .ref (ad a0)), (1, .ref (ad a1)), (2, .int x2j80), (3, .int x3j80), (4, .int x4j80)] → W p l e ru_Fi_hasFinalAbove s m args below meth c H locs 0 0 Q (F0 m 80 ls [.int z0j80]) := by
            intro s_j80 x2j80 x3j80 x4j80 z0j80 H locs h hP hD hS ls hl
            unfold wj_Fi_hasFinalAbove_80 at h
            refine lv_istore (lv' := [(7, .int z0j80), (0, .ref (ad a0)), (1, .ref (ad a1)), (2, .int x2j80), (3, .int x3j80), (4, .int x4j80)]) G.1 G.2.1 d_Fi_hasFinalAbove_80 hl (by decide) rfl (fun ls hl => ?_)
            refine lv_iconst (v := 0) G.1 G.2.1 d_Fi_hasFinalAbove_82 (by decide) ?_
            refine lv_istore (lv' := [(8, .int 0), (7, .int z0j80), (0, .ref (ad a0)), (1, .ref (ad a1)), (2, .int x2j80), (3, .int x3j80), (4, .int x4j80)]) G.1 G.2.1 d_Fi_hasFinalAbove_83 hl (by decide) rfl (fun ls hl => ?_)
            unfold wl_Fi_hasFinalAbove_85 at h
            obtain ⟨I_85, μ_85, hI_85, hB_85⟩ := h
            have L_85 : ∀ (n_85 : Nat) (s_h85 : St) (x2h85 : Int32) (x3h85 : Int32) (x4h85 : Int32) (x7h85 : Int32) (x8h85 : Int32), μ_85 s_h85 x2h85 x3h85 x4h85 x7h85 x8h85 < n_85 → I_85 s_h85 x2h85 x3h85 x4h85 x7h85 x8h85 → ∀ (H : Heap) (locs : List Loc), va_P D CL (ws g ad y s_h85) H → va_D A (ws g ad y s_h85) → va_S A s.heap H locs → ∀ ls, lv_has ls 10 [(0, .ref (ad a0)), (1, .ref (ad a1)), (2, .int x2h85), (3, .int x3h85), (4, .int x4h85), (7, .int x7h85), (8, .int x8h85)] → W p l e ru_Fi_hasFinalAbove s m args below meth c H locs 0 0 Q (F0 m 85 ls []) := by
              intro n_85
              induction n_85 with
              | zero => intro s_h85 x2h85 x3h85 x4h85 x7h85 x8h85 hμ; exact absurd hμ (Nat.not_lt_zero _)
              | succ n_85 ih_85 =>
                intro s_h85 x2h85 x3h85 x4h85 x7h85 x8h85 hμ_85 hJ H locs hP hD hS ls hl
                obtain ⟨K_85, hK_85, h⟩ : ∃ K : St → Int32 → Int32 → Int32 → Int32 → Int32 → Prop, (∀ z (t0 : Int32) (t1 : Int32) (t2 : Int32) (t3 : Int32) (t4 : Int32), K z t0 t1 t2 t3 t4 → I_85 z t0 t1 t2 t3 t4 ∧ μ_85 z t0 t1 t2 t3 t4 < μ_85 s_h85 x2h85 x3h85 x4h85 x7h85 x8h85) ∧ wb_Fi_hasFinalAbove_85 y Post K_2 K a0 a1 s_h85 x2h85 x3h85 x4h85 x7h85 x8h85 := ⟨_, fun _ _ _ _ _ _ h => h, hB_85 s_h85 x2h85 x3h85 x4h85 x7h85 x8h85 hJ⟩
                unfold wb_Fi_hasFinalAbove_85 at h
                refine lv_iload G.1 G.2.1 d_Fi_hasFinalAbove_85 (lv_at hl 6 rfl) ?_
                refine lv_bipush (v := 51) G.1 G.2.1 d_Fi_hasFinalAbove_87 (by decide) ?_
                have J_144 : ∀ (s_j144 : St) (x2j144 : Int32) (x3j144 : Int32) (H : Heap) (locs : List Loc), wj_Fi_hasFinalAbove_144 y Post K_2 a0 a1 s_j144 x2j144 x3j144 → va_P D CL (ws g ad y s_j144) H → va_D A (ws g ad y s_j144) → va_S A s.heap H locs → ∀ ls, lv_has ls 10 [(0, .ref (ad a0)), (1, .ref (ad a1)), (2, .int x2j144), (3, .int x3j144)] → W p l e ru_Fi_hasFinalAbove s m args below meth c H locs 0 0 Q (F0 m 144 ls []) := by
                  intro s_j144 x2j144 x3j144 H locs h hP hD hS ls hl
                  unfold wj_Fi_hasFinalAbove_144 at h
                  refine lv_iinc (v := x3j144 + 1) (lv' := [(3, .int (x3j144 + 1)), (0, .ref (ad a0)), (1, .ref (ad a1)), (2, .int x2j144)]) G.1 G.2.1 d_Fi_hasFinalAbove_144 hl (k := 3) rfl rfl (by decide) rfl (fun ls hl => ?_)
                  refine lv_goto (tgt := 2) G.1 G.2.1 d_Fi_hasFinalAbove_147 (by decide) ?_
                  have h := hK_2 s_j144 x2j144 (x3j144 + 1) h
                  exact ih_2 s_j144 x2j144 (x3j144 + 1) (Nat.lt_of_lt_of_le h.2 (Nat.le_of_lt_succ hμ_2)) h.1 H locs hP hD hS ls (lv_sub hl [1, 2, 3, 0] rfl)
                refine lv_icmp_ge (tgt := 144) G.1 G.2.1 d_Fi_hasFinalAbove_89 (by decide) (fun c89 => ?_) (fun c89 => ?_)
                · skip
                  have h := h.1 c89
                  exact J_144 s_h85 x2h85 x3h85 H locs h hP hD hS ls (lv_sub hl [0, 1, 2, 3] rfl)
                · skip
                  have h := h.2 c89
                  refine lv_iload G.1 G.2.1 d_Fi_hasFinalAbove_92 (lv_at hl 5 rfl) ?_
                  refine lv_if_lt (tgt := 144) G.1 G.2.1 d_Fi_hasFinalAbove_94 (by decide) (fun c94 => ?_) (fun c94 => ?_)
                  · skip
                    have h := h.1 c94
                    exact J_144 s_h85 x2h85 x3h85 H locs h hP hD hS ls (lv_sub hl [0, 1, 2, 3] rfl)
                  · skip
                    have h := h.2 c94
                    refine lv_aload_n G.1 G.2.1 d_Fi_hasFinalAbove_97 rfl (lv_at hl 1 rfl) ?_
                    refine lv_iload G.1 G.2.1 d_Fi_hasFinalAbove_98 (lv_at hl 5 rfl) ?_
                    refine lv_iload G.1 G.2.1 d_Fi_hasFinalAbove_100 (lv_at hl 4 rfl) ?_
                    refine ucVi (As := [.int x7h85, .int x4h85]) (rest := []) G hP hD hS (cu_Wd_methodWith l D g ad y _ s_h85 a1 x7h85 x4h85 H.size h_a1 h) w9_Wd_methodWith q1571 ⟨Nat.le_of_ble_eq_true rfl, Nat.le_of_ble_eq_true rfl⟩ rfl rfl h_a1 (q := (RWd, TWd, 17)) rfl rfl hl.1 rfl (Nat.le_of_ble_eq_true rfl) rfl ⟨Nat.le_refl _, Nat.le_refl _⟩ d_Fi_hasFinalAbove_102 (fun r_9 s_10 H locs h hP hD hS => ?_)
                    refine lv_istore (lv' := [(9, .int r_9), (0, .ref (ad a0)), (1, .ref (ad a1)), (2, .int x2h85), (3, .int x3h85), (4, .int x4h85), (7, .int x7h85), (8, .int x8h85)]) G.1 G.2.1 d_Fi_hasFinalAbove_105 hl (by decide) rfl (fun ls hl => ?_)
                    refine lv_iload G.1 G.2.1 d_Fi_hasFinalAbove_107 (lv_at hl 0 rfl) ?_
                    have J_130 : ∀ (s_j130 : St) (x2j130 : Int32) (x3j130 : Int32) (x4j130 : Int32) (x7j130 : Int32) (x8j130 : Int32) (H : Heap) (locs : List Loc), wj_Fi_hasFinalAbove_130 y Post K_2 K_85 a0 a1 s_j130 x2j130 x3j130 x4j130 x7j130 x8j130 → va_P D CL (ws g ad y s_j130) H → va_D A (ws g ad y s_j130) → va_S A s.heap H locs → ∀ ls, lv_has ls 10 [(0, .ref (ad a0)), (1, .ref (ad a1)), (2, .int x2j130), (3, .int x3j130), (4, .int x4j130), (7, .int x7j130), (8, .int x8j130)] → W p l e ru_Fi_hasFinalAbove s m args below meth c H locs 0 0 Q (F0 m 130 ls []) := by
                      intro s_j130 x2j130 x3j130 x4j130 x7j130 x8j130 H locs h hP hD hS ls hl
                      unfold wj_Fi_hasFinalAbove_130 at h
                      refine lv_aload_n G.1 G.2.1 d_Fi_hasFinalAbove_130 rfl (lv_at hl 1 rfl) ?_
                      refine lv_iload G.1 G.2.1 d_Fi_hasFinalAbove_131 (lv_at hl 5 rfl) ?_
                      refine ucVi (As := [.int x7j130]) (rest := []) G hP hD hS (cu_Wd_up l D g ad y _ s_j130 a1 x7j130 H.size h_a1 h) w9_Wd_up q1570 ⟨Nat.le_of_ble_eq_true rfl, Nat.le_of_ble_eq_true rfl⟩ rfl rfl h_a1 (q := (RWd, TWd, 17)) rfl rfl hl.1 rfl (Nat.le_of_ble_eq_true rfl) rfl ⟨Nat.le_refl _, Nat.le_refl _⟩ d_Fi_hasFinalAbove_133 (fun r_11 s_12 H locs h hP hD hS => ?_)
                      refine lv_istore (lv' := [(7, .int r_11), (0, .ref (ad a0)), (1, .ref (ad a1)), (2, .int x2j130), (3, .int x3j130), (4, .int x4j130), (8, .int x8j130)]) G.1 G.2.1 d_Fi_hasFinalAbove_136 hl (by decide) rfl (fun ls hl => ?_)
                      refine lv_iinc (v := x8j130 + 1) (lv' := [(8, .int (x8j130 + 1)), (7, .int r_11), (0, .ref (ad a0)), (1, .ref (ad a1)), (2, .int x2j130), (3, .int x3j130), (4, .int x4j130)]) G.1 G.2.1 d_Fi_hasFinalAbove_138 hl (k := 6) rfl rfl (by decide) rfl (fun ls hl => ?_)
                      refine lv_goto (tgt := 85) G.1 G.2.1 d_Fi_hasFinalAbove_141 (by decide) ?_
                      have h := hK_85 s_12 x2j130 x3j130 x4j130 r_11 (x8j130 + 1) h
                      exact ih_85 s_12 x2j130 x3j130 x4j130 r_11 (x8j130 + 1) (Nat.lt_of_lt_of_le h.2 (Nat.le_of_lt_succ hμ_85)) h.1 H locs hP hD hS ls (lv_sub hl [2, 3, 4, 5, 6, 1, 0] rfl)
                    refine W.eq (g2 := F0 m 109 ls [.int r_9]) rfl ?_
                    refine lv_if_lt (tgt := 130) G.1 G.2.1 d_Fi_hasFinalAbove_109 (by decide) (fun c109 => ?_) (fun c109 => ?_)
                    · skip
                      have h := h.1 c109
                      exact J_130 s_10 x2h85 x3h85 x4h85 x7h85 x8h85 H locs h hP hD hS ls (lv_sub hl [1, 2, 3, 4, 5, 6, 7] rfl)
                    · skip
                      have h := h.2 c109
                      refine lv_aload_n G.1 G.2.1 d_Fi_hasFinalAbove_112 rfl (lv_at hl 2 rfl) ?_
                      refine lv_iload G.1 G.2.1 d_Fi_hasFinalAbove_113 (lv_at hl 6 rfl) ?_
                      refine lv_iload G.1 G.2.1 d_Fi_hasFinalAbove_115 (lv_at hl 0 rfl) ?_
                      refine lv_iconst (v := 1) G.1 G.2.1 d_Fi_hasFinalAbove_117 (by decide) ?_
                      refine ucVi (As := [.int x7h85, .int r_9, .int 1]) (rest := []) G hP hD hS (cu_Wd_method l D g ad y _ s_10 a1 x7h85 r_9 1 H.size h_a1 h) w9_Wd_method q1568 ⟨Nat.le_of_ble_eq_true rfl, Nat.le_of_ble_eq_true rfl⟩ rfl rfl h_a1 (q := (RWd, TWd, 17)) rfl rfl hl.1 rfl (Nat.le_of_ble_eq_true rfl) rfl ⟨Nat.le_refl _, Nat.le_refl _⟩ d_Fi_hasFinalAbove_118 (fun r_13 s_14 H locs h hP hD hS => ?_)
                      refine lv_bipush (v := 7) G.1 G.2.1 d_Fi_hasFinalAbove_121 (by decide) ?_
                      refine lv_iand G.1 G.2.1 d_Fi_hasFinalAbove_123 ?_
                      refine lv_iconst (v := 2) G.1 G.2.1 d_Fi_hasFinalAbove_124 (by decide) ?_
                      refine lv_icmp_ne (tgt := 130) G.1 G.2.1 d_Fi_hasFinalAbove_125 (by decide) (fun c125 => ?_) (fun c125 => ?_)
                      · skip
                        have h := h.1 c125
                        exact J_130 s_14 x2h85 x3h85 x4h85 x7h85 x8h85 H locs h hP hD hS ls (lv_sub hl [1, 2, 3, 4, 5, 6, 7] rfl)
                      · skip
                        have h := h.2 c125
                        refine lv_iconst (v := 1) G.1 G.2.1 d_Fi_hasFinalAbove_128 (by decide) ?_
                        exact hret _ _ _ _ _ _ _ ls (nb_n h.1) h.2 hP hD hS (Nat.le_refl _) (Nat.le_refl _) d_Fi_hasFinalAbove_129
            exact L_85 _ s_j80 x2j80 x3j80 x4j80 z0j80 0 (Nat.lt_succ_self _) hI_85 H locs hP hD hS ls (lv_sub hl [2, 3, 4, 5, 6, 1, 0] rfl)
          have J_71 : ∀ (s_j71 : St) (x2j71 : Int32) (x3j71 : Int32) (x4j71 : Int32) (H : Heap) (locs : List Loc), wj_Fi_hasFinalAbove_71 y Post K_2 a0 a1 s_j71 x2j71 x3j71 x4j71 → va_P D CL (ws g ad y s_j71) H → va_D A (ws g ad y s_j71) → va_S A s.heap H locs → ∀ ls, lv_has ls 10 [(0, .ref (ad a0)), (1, .ref (ad a1)), (2, .int x2j71), (3, .int x3j71), (4, .int x4j71)] → W p l e ru_Fi_hasFinalAbove s m args below meth c H locs 0 0 Q (F0 m 71 ls []) := by
            intro s_j71 x2j71 x3j71 x4j71 H locs h hP hD hS ls hl
            unfold wj_Fi_hasFinalAbove_71 at h
            refine lv_iconst (v := (-1)) G.1 G.2.1 d_Fi_hasFinalAbove_71 (by decide) ?_
            refine lv_goto (tgt := 80) G.1 G.2.1 d_Fi_hasFinalAbove_72 (by decide) ?_
            exact J_80 s_j71 x2j71 x3j71 x4j71 (-1) H locs h hP hD hS ls (lv_sub hl [0, 1, 2, 3, 4] rfl)
          refine lv_if_ne (tgt := 71) G.1 G.2.1 d_Fi_hasFinalAbove_54 (by decide) (fun c54 => ?_) (fun c54 => ?_)
          · skip
            have h := h.1 c54
            exact J_71 s_j50 x2j50 x3j50 x4j50 H locs h hP hD hS ls (lv_sub hl [1, 2, 3, 4, 5] rfl)
          · skip
            have h := h.2 c54
            refine lv_iload G.1 G.2.1 d_Fi_hasFinalAbove_57 (lv_at hl 6 rfl) ?_
            refine lv_bipush (v := 7) G.1 G.2.1 d_Fi_hasFinalAbove_59 (by decide) ?_
            refine lv_icmp_eq (tgt := 71) G.1 G.2.1 d_Fi_hasFinalAbove_61 (by decide) (fun c61 => ?_) (fun c61 => ?_)
            · skip
              have h := h.1 c61
              exact J_71 s_j50 x2j50 x3j50 x4j50 H locs h hP hD hS ls (lv_sub hl [1, 2, 3, 4, 5] rfl)
            · skip
              have h := h.2 c61
              refine lv_iload G.1 G.2.1 d_Fi_hasFinalAbove_64 (lv_at hl 6 rfl) ?_
              refine lv_bipush (v := 8) G.1 G.2.1 d_Fi_hasFinalAbove_66 (by decide) ?_
              refine lv_icmp_ne (tgt := 75) G.1 G.2.1 d_Fi_hasFinalAbove_68 (by decide) (fun c68 => ?_) (fun c68 => ?_)
              · skip
                have h := h.1 c68
                refine lv_aload_n G.1 G.2.1 d_Fi_hasFinalAbove_75 rfl (lv_at hl 2 rfl) ?_
                refine lv_iload_n G.1 G.2.1 d_Fi_hasFinalAbove_76 rfl (lv_at hl 3 rfl) ?_
                refine W.eq (g2 := F0 m 77 ls [.int x2j50, .ref (ad a1)]) rfl ?_
                refine ucVi (As := [.int x2j50]) (rest := []) G hP hD hS (cu_Wd_up l D g ad y _ s_j50 a1 x2j50 H.size h_a1 h) w9_Wd_up q1570 ⟨Nat.le_of_ble_eq_true rfl, Nat.le_of_ble_eq_true rfl⟩ rfl rfl h_a1 (q := (RWd, TWd, 17)) rfl rfl hl.1 rfl (Nat.le_of_ble_eq_true rfl) rfl ⟨Nat.le_refl _, Nat.le_refl _⟩ d_Fi_hasFinalAbove_77 (fun r_15 s_16 H locs h hP hD hS => ?_)
                exact J_80 s_16 x2j50 x3j50 x4j50 r_15 H locs h hP hD hS ls (lv_sub hl [1, 2, 3, 4, 5] rfl)
              · skip
                have h := h.2 c68
                exact J_71 s_j50 x2j50 x3j50 x4j50 H locs h hP hD hS ls (lv_sub hl [1, 2, 3, 4, 5] rfl)
        refine lv_if_eq (tgt := 49) G.1 G.2.1 d_Fi_hasFinalAbove_42 (by decide) (fun c42 => ?_) (fun c42 => ?_)
        · skip
          have h := h.1 c42
          refine lv_iconst (v := 0) G.1 G.2.1 d_Fi_hasFinalAbove_49 (by decide) ?_
          exact J_50 s_8 x2h2 x3h2 r_3 r_5 0 H locs h hP hD hS ls (lv_sub hl [2, 3, 4, 5, 1, 0] rfl)
        · skip
          have h := h.2 c42
          refine lv_iconst (v := 1) G.1 G.2.1 d_Fi_hasFinalAbove_45 (by decide) ?_
          refine lv_goto (tgt := 50) G.1 G.2.1 d_Fi_hasFinalAbove_46 (by decide) ?_
          exact J_50 s_8 x2h2 x3h2 r_3 r_5 1 H locs h hP hD hS ls (lv_sub hl [2, 3, 4, 5, 1, 0] rfl)
  exact L_2 _ σ v2 0 (Nat.lt_succ_self _) hI_2 H locs hP hD hS ls (lv_sub hl [1, 2, 3, 0] rfl)
def y_Na_resultOf : MethodName := ⟨"ClassWorks$Names", "resultOf", "(I)I"⟩
abbrev b_Na_resultOf : ByteArray := prog_7_method_11_code
theorem d_Na_resultOf_0 : decode b_Na_resultOf 0 = .ok (.aload_n 0, 1) := by decide +kernel
theorem d_Na_resultOf_1 : decode b_Na_resultOf 1 = .ok (.getfield 33, 3) := by decide +kernel
theorem d_Na_resultOf_4 : decode b_Na_resultOf 4 = .ok (.getfield 101, 3) := by decide +kernel
theorem d_Na_resultOf_7 : decode b_Na_resultOf 7 = .ok (.iload_n 1, 1) := by decide +kernel
theorem d_Na_resultOf_8 : decode b_Na_resultOf 8 = .ok (.iconst 2, 1) := by decide +kernel
theorem d_Na_resultOf_9 : decode b_Na_resultOf 9 = .ok (.iadd, 1) := by decide +kernel
theorem d_Na_resultOf_10 : decode b_Na_resultOf 10 = .ok (.iaload, 1) := by decide +kernel
theorem d_Na_resultOf_11 : decode b_Na_resultOf 11 = .ok (.ireturn, 1) := by decide +kernel
abbrev ru_Na_resultOf : Room := { frames := 0, cells := 0, slots := 0, locals := 0 }
def wu_Na_resultOf (y : Ly) (Post : St → Int32 → Prop) (σ : St) (a0 : Nat) (v1 : Int32) : Prop := xA y σ (lk a0 5) 0 (v1 + 2) (fun x_1 : Int32 => Post σ x_1)
set_option maxHeartbeats 4000000 in
set_option maxRecDepth 100000 in
theorem cu_Na_resultOf (l : Launch) (D : va_G) (g : Nat → ClassId) (ad : Nat → Nat) (y : Ly) (Post : St → Int32 → Prop) (σ : St) (a0 : Nat) (v1 : Int32) (sz : Nat) (h_a0 : cl a0 = 5) (h : wu_Na_resultOf y Post σ a0 v1) : Met l y_Na_resultOf (mw y_Na_resultOf b_Na_resultOf 2 (some .int)) ru_Na_resultOf (PC g D [] [.ref (ad a0), .int v1] sz (ws g ad y σ)) (va_Qi (fun (r : Int32) (u : St) => Post u r) (QW D (va_A (ws g ad y σ) sz) (fun u => ws g ad y u)) (va_A (ws g ad y σ) sz)) 0 0 (va_A (ws g ad y σ) sz) := by
  refine ofI (by decide +kernel) (Nat.le_of_ble_eq_true rfl) ?_
  intro p e s m args below meth c A Q ls H locs G hsz hP hD hS hl hret
  subst hsz
  have hl : lv_has ls 2 [(0, .ref (ad a0)), (1, .int v1)] := hl
  unfold wu_Na_resultOf at h
  refine lv_aload_n G.1 G.2.1 d_Na_resultOf_0 rfl (lv_at hl 0 rfl) ?_
  refine ugf (v := .ref (ad (lk a0 5))) G hP h_a0 iNa rfl 5 (by decide) rfl q509 rfl rfl d_Na_resultOf_1 ?_
  refine ugf (v := .ref (yP y (lk a0 5) 0)) G hP (lk_5_5 h_a0) iIn rfl 0 (by decide) rfl q381 rfl rfl d_Na_resultOf_4 ?_
  refine lv_iload_n G.1 G.2.1 d_Na_resultOf_7 rfl (lv_at hl 1 rfl) ?_
  refine lv_iconst (v := 2) G.1 G.2.1 d_Na_resultOf_8 (by decide) ?_
  refine lv_iadd G.1 G.2.1 d_Na_resultOf_9 ?_
  refine uiald G hP (kdp (lk_5_5 h_a0) rfl) (typ (lk_5_5 h_a0) rfl) h d_Na_resultOf_10 (fun x_1 h => ?_)
  exact hret _ _ _ _ _ _ _ ls h hP hD hS (Nat.le_refl _) (Nat.le_refl _) d_Na_resultOf_11
def y_Na_typeOf : MethodName := ⟨"ClassWorks$Names", "typeOf", "(II)I"⟩
abbrev b_Na_typeOf : ByteArray := prog_7_method_13_code
theorem d_Na_typeOf_0 : decode b_Na_typeOf 0 = .ok (.aload_n 0, 1) := by decide +kernel
theorem d_Na_typeOf_1 : decode b_Na_typeOf 1 = .ok (.getfield 33, 3) := by decide +kernel
theorem d_Na_typeOf_4 : decode b_Na_typeOf 4 = .ok (.getfield 101, 3) := by decide +kernel
theorem d_Na_typeOf_7 : decode b_Na_typeOf 7 = .ok (.iload_n 1, 1) := by decide +kernel
theorem d_Na_typeOf_8 : decode b_Na_typeOf 8 = .ok (.iconst 4, 1) := by decide +kernel
theorem d_Na_typeOf_9 : decode b_Na_typeOf 9 = .ok (.iadd, 1) := by decide +kernel
theorem d_Na_typeOf_10 : decode b_Na_typeOf 10 = .ok (.iload_n 2, 1) := by decide +kernel
theorem d_Na_typeOf_11 : decode b_Na_typeOf 11 = .ok (.iadd, 1) := by decide +kernel
theorem d_Na_typeOf_12 : decode b_Na_typeOf 12 = .ok (.iaload, 1) := by decide +kernel
theorem d_Na_typeOf_13 : decode b_Na_typeOf 13 = .ok (.ireturn, 1) := by decide +kernel
abbrev ru_Na_typeOf : Room := { frames := 0, cells := 0, slots := 0, locals := 0 }
def wu_Na_typeOf (y : Ly) (Post : St → Int32 → Prop) (σ : St) (a0 : Nat) (v1 : Int32) (v2 : Int32) : Prop := xA y σ (lk a0 5) 0 ((v1 + 4) + v2) (fun x_1 : Int32 => Post σ x_1)
set_option maxHeartbeats 4000000 in
set_option maxRecDepth 100000 in
theorem cu_Na_typeOf (l : Launch) (D : va_G) (g : Nat → ClassId) (ad : Nat → Nat) (y : Ly) (Post : St → Int32 → Prop) (σ : St) (a0 : Nat) (v1 : Int32) (v2 : Int32) (sz : Nat) (h_a0 : cl a0 = 5) (h : wu_Na_typeOf y Post σ a0 v1 v2) : Met l y_Na_typeOf (mw y_Na_typeOf b_Na_typeOf 3 (some .int)) ru_Na_typeOf (PC g D [] [.ref (ad a0), .int v1, .int v2] sz (ws g ad y σ)) (va_Qi (fun (r : Int32) (u : St) => Post u r) (QW D (va_A (ws g ad y σ) sz) (fun u => ws g ad y u)) (va_A (ws g ad y σ) sz)) 0 0 (va_A (ws g ad y σ) sz) := by
  refine ofI (by decide +kernel) (Nat.le_of_ble_eq_true rfl) ?_
  intro p e s m args below meth c A Q ls H locs G hsz hP hD hS hl hret
  subst hsz
  have hl : lv_has ls 3 [(0, .ref (ad a0)), (1, .int v1), (2, .int v2)] := hl
  unfold wu_Na_typeOf at h
  refine lv_aload_n G.1 G.2.1 d_Na_typeOf_0 rfl (lv_at hl 0 rfl) ?_
  refine ugf (v := .ref (ad (lk a0 5))) G hP h_a0 iNa rfl 5 (by decide) rfl q509 rfl rfl d_Na_typeOf_1 ?_
  refine ugf (v := .ref (yP y (lk a0 5) 0)) G hP (lk_5_5 h_a0) iIn rfl 0 (by decide) rfl q381 rfl rfl d_Na_typeOf_4 ?_
  refine lv_iload_n G.1 G.2.1 d_Na_typeOf_7 rfl (lv_at hl 1 rfl) ?_
  refine lv_iconst (v := 4) G.1 G.2.1 d_Na_typeOf_8 (by decide) ?_
  refine lv_iadd G.1 G.2.1 d_Na_typeOf_9 ?_
  refine lv_iload_n G.1 G.2.1 d_Na_typeOf_10 rfl (lv_at hl 2 rfl) ?_
  refine lv_iadd G.1 G.2.1 d_Na_typeOf_11 ?_
  refine uiald G hP (kdp (lk_5_5 h_a0) rfl) (typ (lk_5_5 h_a0) rfl) h d_Na_typeOf_12 (fun x_1 h => ?_)
  exact hret _ _ _ _ _ _ _ ls h hP hD hS (Nat.le_refl _) (Nat.le_refl _) d_Na_typeOf_13
theorem q654 : Cond.fieldLink "ClassWorks$Checker" 78 "ClassWorks$Checker" "world" "LClassWorks$World;" ∈ lw_ok := lw_okmem (List.mem_of_getElem? (i := 654) (by decide +kernel)) rfl
theorem q655 : Cond.fieldLink "ClassWorks$Checker" 18 "ClassWorks$Checker" "cls" "I" ∈ lw_ok := lw_okmem (List.mem_of_getElem? (i := 655) (by decide +kernel)) rfl
theorem q651 : Cond.fieldLink "ClassWorks$Checker" 15 "ClassWorks$Checker" "spotMethod" "I" ∈ lw_ok := lw_okmem (List.mem_of_getElem? (i := 651) (by decide +kernel)) rfl
theorem q1580 : Cond.methodLink "ClassWorks$Checker" 82 y_Wd_method ∈ lw_ok := lw_okmem (List.mem_of_getElem? (i := 1580) (by decide +kernel)) rfl
theorem q656 : Cond.fieldLink "ClassWorks$Checker" 21 "ClassWorks$Checker" "code0" "I" ∈ lw_ok := lw_okmem (List.mem_of_getElem? (i := 656) (by decide +kernel)) rfl
theorem q657 : Cond.fieldLink "ClassWorks$Checker" 24 "ClassWorks$Checker" "codes" "I" ∈ lw_ok := lw_okmem (List.mem_of_getElem? (i := 657) (by decide +kernel)) rfl
theorem q658 : Cond.fieldLink "ClassWorks$Checker" 27 "ClassWorks$Checker" "locals" "I" ∈ lw_ok := lw_okmem (List.mem_of_getElem? (i := 658) (by decide +kernel)) rfl
theorem q659 : Cond.fieldLink "ClassWorks$Checker" 30 "ClassWorks$Checker" "stack" "I" ∈ lw_ok := lw_okmem (List.mem_of_getElem? (i := 659) (by decide +kernel)) rfl
theorem q653 : Cond.fieldLink "ClassWorks$Checker" 74 "ClassWorks$Checker" "names" "LClassWorks$Names;" ∈ lw_ok := lw_okmem (List.mem_of_getElem? (i := 653) (by decide +kernel)) rfl
theorem q1581 : Cond.methodLink "ClassWorks$Checker" 88 y_Na_resultOf ∈ lw_ok := lw_okmem (List.mem_of_getElem? (i := 1581) (by decide +kernel)) rfl
theorem q1584 : Cond.code y_Na_resultOf b_Na_resultOf 2 (some .int) ∈ lw_ok := lw_okmem (List.mem_of_getElem? (i := 1584) (by decide +kernel)) rfl
theorem q1582 : Cond.instanceMethod y_Na_resultOf ∈ lw_ok := lw_okmem (List.mem_of_getElem? (i := 1582) (by decide +kernel)) rfl
theorem q1583 : Cond.selects y_Na_resultOf.cls y_Na_resultOf y_Na_resultOf ∈ lw_ok := lw_okmem (List.mem_of_getElem? (i := 1583) (by decide +kernel)) rfl
theorem w9_Na_resultOf : CWv y_Na_resultOf b_Na_resultOf 2 (some .int) 1 ∧ Cond.instanceMethod y_Na_resultOf ∈ lw_ok ∧ Cond.selects y_Na_resultOf.cls y_Na_resultOf y_Na_resultOf ∈ lw_ok := ⟨⟨q1584, q330, by decide +kernel, by decide +kernel, by decide +kernel⟩, q1582, q1583⟩
theorem q660 : Cond.fieldLink "ClassWorks$Checker" 33 "ClassWorks$Checker" "result" "I" ∈ lw_ok := lw_okmem (List.mem_of_getElem? (i := 660) (by decide +kernel)) rfl
theorem q1585 : Cond.methodLink "ClassWorks$Checker" 94 y_Na_nameOf ∈ lw_ok := lw_okmem (List.mem_of_getElem? (i := 1585) (by decide +kernel)) rfl
theorem q661 : Cond.fieldLink "ClassWorks$Checker" 36 "ClassWorks$Checker" "inMake" "Z" ∈ lw_ok := lw_okmem (List.mem_of_getElem? (i := 661) (by decide +kernel)) rfl
theorem q667 : Cond.fieldLink "ClassWorks$Checker" 56 "ClassWorks$Checker" "depth" "I" ∈ lw_ok := lw_okmem (List.mem_of_getElem? (i := 667) (by decide +kernel)) rfl
theorem q648 : Cond.fieldLink "ClassWorks$Checker" 9 "ClassWorks$Checker" "spot" "I" ∈ lw_ok := lw_okmem (List.mem_of_getElem? (i := 648) (by decide +kernel)) rfl
theorem q666 : Cond.fieldLink "ClassWorks$Checker" 52 "ClassWorks$Checker" "now" "[I" ∈ lw_ok := lw_okmem (List.mem_of_getElem? (i := 666) (by decide +kernel)) rfl
theorem q1586 : Cond.methodLink "ClassWorks$Checker" 97 y_Ja_fill_aIIV ∈ lw_ok := lw_okmem (List.mem_of_getElem? (i := 1586) (by decide +kernel)) rfl
theorem q1588 : Cond.methodLink "ClassWorks$Checker" 107 y_Na_argumentsOf ∈ lw_ok := lw_okmem (List.mem_of_getElem? (i := 1588) (by decide +kernel)) rfl
theorem q1589 : Cond.methodLink "ClassWorks$Checker" 110 y_Na_typeOf ∈ lw_ok := lw_okmem (List.mem_of_getElem? (i := 1589) (by decide +kernel)) rfl
theorem q1592 : Cond.code y_Na_typeOf b_Na_typeOf 3 (some .int) ∈ lw_ok := lw_okmem (List.mem_of_getElem? (i := 1592) (by decide +kernel)) rfl
theorem q1590 : Cond.instanceMethod y_Na_typeOf ∈ lw_ok := lw_okmem (List.mem_of_getElem? (i := 1590) (by decide +kernel)) rfl
theorem q1591 : Cond.selects y_Na_typeOf.cls y_Na_typeOf y_Na_typeOf ∈ lw_ok := lw_okmem (List.mem_of_getElem? (i := 1591) (by decide +kernel)) rfl
theorem w9_Na_typeOf : CWv y_Na_typeOf b_Na_typeOf 3 (some .int) 2 ∧ Cond.instanceMethod y_Na_typeOf ∈ lw_ok ∧ Cond.selects y_Na_typeOf.cls y_Na_typeOf y_Na_typeOf ∈ lw_ok := ⟨⟨q1592, q330, by decide +kernel, by decide +kernel, by decide +kernel⟩, q1590, q1591⟩
def y_Ck_begin : MethodName := ⟨"ClassWorks$Checker", "begin", "(LClassWorks$World;II)V"⟩
abbrev b_Ck_begin : ByteArray := prog_2_method_2_code
theorem q1587 : Cond.methodLink "ClassWorks$Checker" 103 y_Wd_of ∈ lw_ok := lw_okmem (List.mem_of_getElem? (i := 1587) (by decide +kernel)) rfl
theorem d_Ck_begin_0 : decode b_Ck_begin 0 = .ok (.aload_n 0, 1) := by decide +kernel
theorem d_Ck_begin_1 : decode b_Ck_begin 1 = .ok (.aload_n 1, 1) := by decide +kernel
theorem d_Ck_begin_2 : decode b_Ck_begin 2 = .ok (.putfield 78, 3) := by decide +kernel
theorem d_Ck_begin_5 : decode b_Ck_begin 5 = .ok (.aload_n 0, 1) := by decide +kernel
theorem d_Ck_begin_6 : decode b_Ck_begin 6 = .ok (.iload_n 2, 1) := by decide +kernel
theorem d_Ck_begin_7 : decode b_Ck_begin 7 = .ok (.putfield 18, 3) := by decide +kernel
theorem d_Ck_begin_10 : decode b_Ck_begin 10 = .ok (.aload_n 0, 1) := by decide +kernel
theorem d_Ck_begin_11 : decode b_Ck_begin 11 = .ok (.iload_n 3, 1) := by decide +kernel
theorem d_Ck_begin_12 : decode b_Ck_begin 12 = .ok (.putfield 15, 3) := by decide +kernel
theorem d_Ck_begin_15 : decode b_Ck_begin 15 = .ok (.aload_n 0, 1) := by decide +kernel
theorem d_Ck_begin_16 : decode b_Ck_begin 16 = .ok (.aload_n 1, 1) := by decide +kernel
theorem d_Ck_begin_17 : decode b_Ck_begin 17 = .ok (.iload_n 2, 1) := by decide +kernel
theorem d_Ck_begin_18 : decode b_Ck_begin 18 = .ok (.iload_n 3, 1) := by decide +kernel
theorem d_Ck_begin_19 : decode b_Ck_begin 19 = .ok (.iconst 4, 1) := by decide +kernel
theorem d_Ck_begin_20 : decode b_Ck_begin 20 = .ok (.invokevirtual 82, 3) := by decide +kernel
theorem d_Ck_begin_23 : decode b_Ck_begin 23 = .ok (.putfield 21, 3) := by decide +kernel
theorem d_Ck_begin_26 : decode b_Ck_begin 26 = .ok (.aload_n 1, 1) := by decide +kernel
theorem d_Ck_begin_27 : decode b_Ck_begin 27 = .ok (.iload_n 2, 1) := by decide +kernel
theorem d_Ck_begin_28 : decode b_Ck_begin 28 = .ok (.iload_n 3, 1) := by decide +kernel
theorem d_Ck_begin_29 : decode b_Ck_begin 29 = .ok (.iconst 0, 1) := by decide +kernel
theorem d_Ck_begin_30 : decode b_Ck_begin 30 = .ok (.invokevirtual 82, 3) := by decide +kernel
theorem d_Ck_begin_33 : decode b_Ck_begin 33 = .ok (.istore 4, 2) := by decide +kernel
theorem d_Ck_begin_35 : decode b_Ck_begin 35 = .ok (.aload_n 0, 1) := by decide +kernel
theorem d_Ck_begin_36 : decode b_Ck_begin 36 = .ok (.aload_n 1, 1) := by decide +kernel
theorem d_Ck_begin_37 : decode b_Ck_begin 37 = .ok (.iload_n 2, 1) := by decide +kernel
theorem d_Ck_begin_38 : decode b_Ck_begin 38 = .ok (.iload_n 3, 1) := by decide +kernel
theorem d_Ck_begin_39 : decode b_Ck_begin 39 = .ok (.iconst 5, 1) := by decide +kernel
theorem d_Ck_begin_40 : decode b_Ck_begin 40 = .ok (.invokevirtual 82, 3) := by decide +kernel
theorem d_Ck_begin_43 : decode b_Ck_begin 43 = .ok (.putfield 24, 3) := by decide +kernel
theorem d_Ck_begin_46 : decode b_Ck_begin 46 = .ok (.aload_n 0, 1) := by decide +kernel
theorem d_Ck_begin_47 : decode b_Ck_begin 47 = .ok (.aload_n 1, 1) := by decide +kernel
theorem d_Ck_begin_48 : decode b_Ck_begin 48 = .ok (.iload_n 2, 1) := by decide +kernel
theorem d_Ck_begin_49 : decode b_Ck_begin 49 = .ok (.iload_n 3, 1) := by decide +kernel
theorem d_Ck_begin_50 : decode b_Ck_begin 50 = .ok (.iconst 3, 1) := by decide +kernel
theorem d_Ck_begin_51 : decode b_Ck_begin 51 = .ok (.invokevirtual 82, 3) := by decide +kernel
theorem d_Ck_begin_54 : decode b_Ck_begin 54 = .ok (.putfield 27, 3) := by decide +kernel
theorem d_Ck_begin_57 : decode b_Ck_begin 57 = .ok (.aload_n 0, 1) := by decide +kernel
theorem d_Ck_begin_58 : decode b_Ck_begin 58 = .ok (.aload_n 1, 1) := by decide +kernel
theorem d_Ck_begin_59 : decode b_Ck_begin 59 = .ok (.iload_n 2, 1) := by decide +kernel
theorem d_Ck_begin_60 : decode b_Ck_begin 60 = .ok (.iload_n 3, 1) := by decide +kernel
theorem d_Ck_begin_61 : decode b_Ck_begin 61 = .ok (.iconst 2, 1) := by decide +kernel
theorem d_Ck_begin_62 : decode b_Ck_begin 62 = .ok (.invokevirtual 82, 3) := by decide +kernel
theorem d_Ck_begin_65 : decode b_Ck_begin 65 = .ok (.putfield 30, 3) := by decide +kernel
theorem d_Ck_begin_68 : decode b_Ck_begin 68 = .ok (.aload_n 0, 1) := by decide +kernel
theorem d_Ck_begin_69 : decode b_Ck_begin 69 = .ok (.aload_n 0, 1) := by decide +kernel
theorem d_Ck_begin_70 : decode b_Ck_begin 70 = .ok (.getfield 74, 3) := by decide +kernel
theorem d_Ck_begin_73 : decode b_Ck_begin 73 = .ok (.iload 4, 2) := by decide +kernel
theorem d_Ck_begin_75 : decode b_Ck_begin 75 = .ok (.invokevirtual 88, 3) := by decide +kernel
theorem d_Ck_begin_78 : decode b_Ck_begin 78 = .ok (.putfield 33, 3) := by decide +kernel
theorem d_Ck_begin_81 : decode b_Ck_begin 81 = .ok (.aload_n 0, 1) := by decide +kernel
theorem d_Ck_begin_82 : decode b_Ck_begin 82 = .ok (.aload_n 0, 1) := by decide +kernel
theorem d_Ck_begin_83 : decode b_Ck_begin 83 = .ok (.getfield 74, 3) := by decide +kernel
theorem d_Ck_begin_86 : decode b_Ck_begin 86 = .ok (.iload 4, 2) := by decide +kernel
theorem d_Ck_begin_88 : decode b_Ck_begin 88 = .ok (.invokevirtual 94, 3) := by decide +kernel
theorem d_Ck_begin_91 : decode b_Ck_begin 91 = .ok (.bipush 7, 2) := by decide +kernel
theorem d_Ck_begin_93 : decode b_Ck_begin 93 = .ok (.if_icmp .ne 7, 3) := by decide +kernel
theorem d_Ck_begin_96 : decode b_Ck_begin 96 = .ok (.iconst 1, 1) := by decide +kernel
theorem d_Ck_begin_97 : decode b_Ck_begin 97 = .ok (.goto 4, 3) := by decide +kernel
theorem d_Ck_begin_100 : decode b_Ck_begin 100 = .ok (.iconst 0, 1) := by decide +kernel
theorem d_Ck_begin_101 : decode b_Ck_begin 101 = .ok (.putfield 36, 3) := by decide +kernel
theorem d_Ck_begin_104 : decode b_Ck_begin 104 = .ok (.aload_n 0, 1) := by decide +kernel
theorem d_Ck_begin_105 : decode b_Ck_begin 105 = .ok (.iconst 0, 1) := by decide +kernel
theorem d_Ck_begin_106 : decode b_Ck_begin 106 = .ok (.putfield 56, 3) := by decide +kernel
theorem d_Ck_begin_109 : decode b_Ck_begin 109 = .ok (.aload_n 0, 1) := by decide +kernel
theorem d_Ck_begin_110 : decode b_Ck_begin 110 = .ok (.iconst 0, 1) := by decide +kernel
theorem d_Ck_begin_111 : decode b_Ck_begin 111 = .ok (.putfield 9, 3) := by decide +kernel
theorem d_Ck_begin_114 : decode b_Ck_begin 114 = .ok (.aload_n 0, 1) := by decide +kernel
theorem d_Ck_begin_115 : decode b_Ck_begin 115 = .ok (.getfield 52, 3) := by decide +kernel
theorem d_Ck_begin_118 : decode b_Ck_begin 118 = .ok (.iconst 3, 1) := by decide +kernel
theorem d_Ck_begin_119 : decode b_Ck_begin 119 = .ok (.invokestatic 97, 3) := by decide +kernel
theorem d_Ck_begin_122 : decode b_Ck_begin 122 = .ok (.aload_n 1, 1) := by decide +kernel
theorem d_Ck_begin_123 : decode b_Ck_begin 123 = .ok (.iload_n 2, 1) := by decide +kernel
theorem d_Ck_begin_124 : decode b_Ck_begin 124 = .ok (.iload_n 3, 1) := by decide +kernel
theorem d_Ck_begin_125 : decode b_Ck_begin 125 = .ok (.iconst 1, 1) := by decide +kernel
theorem d_Ck_begin_126 : decode b_Ck_begin 126 = .ok (.invokevirtual 82, 3) := by decide +kernel
theorem d_Ck_begin_129 : decode b_Ck_begin 129 = .ok (.iconst 1, 1) := by decide +kernel
theorem d_Ck_begin_130 : decode b_Ck_begin 130 = .ok (.iand, 1) := by decide +kernel
theorem d_Ck_begin_131 : decode b_Ck_begin 131 = .ok (.ifCond .eq 7, 3) := by decide +kernel
theorem d_Ck_begin_134 : decode b_Ck_begin 134 = .ok (.iconst 0, 1) := by decide +kernel
theorem d_Ck_begin_135 : decode b_Ck_begin 135 = .ok (.goto 4, 3) := by decide +kernel
theorem d_Ck_begin_138 : decode b_Ck_begin 138 = .ok (.iconst 1, 1) := by decide +kernel
theorem d_Ck_begin_139 : decode b_Ck_begin 139 = .ok (.istore 5, 2) := by decide +kernel
theorem d_Ck_begin_141 : decode b_Ck_begin 141 = .ok (.iload 5, 2) := by decide +kernel
theorem d_Ck_begin_143 : decode b_Ck_begin 143 = .ok (.iconst 1, 1) := by decide +kernel
theorem d_Ck_begin_144 : decode b_Ck_begin 144 = .ok (.if_icmp .ne 26, 3) := by decide +kernel
theorem d_Ck_begin_147 : decode b_Ck_begin 147 = .ok (.aload_n 0, 1) := by decide +kernel
theorem d_Ck_begin_148 : decode b_Ck_begin 148 = .ok (.getfield 52, 3) := by decide +kernel
theorem d_Ck_begin_151 : decode b_Ck_begin 151 = .ok (.iconst 0, 1) := by decide +kernel
theorem d_Ck_begin_152 : decode b_Ck_begin 152 = .ok (.aload_n 0, 1) := by decide +kernel
theorem d_Ck_begin_153 : decode b_Ck_begin 153 = .ok (.getfield 36, 3) := by decide +kernel
theorem d_Ck_begin_156 : decode b_Ck_begin 156 = .ok (.ifCond .eq 7, 3) := by decide +kernel
theorem d_Ck_begin_159 : decode b_Ck_begin 159 = .ok (.iconst 4, 1) := by decide +kernel
theorem d_Ck_begin_160 : decode b_Ck_begin 160 = .ok (.goto 9, 3) := by decide +kernel
theorem d_Ck_begin_163 : decode b_Ck_begin 163 = .ok (.aload_n 1, 1) := by decide +kernel
theorem d_Ck_begin_164 : decode b_Ck_begin 164 = .ok (.iload_n 2, 1) := by decide +kernel
theorem d_Ck_begin_165 : decode b_Ck_begin 165 = .ok (.iconst 0, 1) := by decide +kernel
theorem d_Ck_begin_166 : decode b_Ck_begin 166 = .ok (.invokevirtual 103, 3) := by decide +kernel
theorem d_Ck_begin_169 : decode b_Ck_begin 169 = .ok (.iastore, 1) := by decide +kernel
theorem d_Ck_begin_170 : decode b_Ck_begin 170 = .ok (.iconst 0, 1) := by decide +kernel
theorem d_Ck_begin_171 : decode b_Ck_begin 171 = .ok (.istore 6, 2) := by decide +kernel
theorem d_Ck_begin_173 : decode b_Ck_begin 173 = .ok (.iload 6, 2) := by decide +kernel
theorem d_Ck_begin_175 : decode b_Ck_begin 175 = .ok (.aload_n 0, 1) := by decide +kernel
theorem d_Ck_begin_176 : decode b_Ck_begin 176 = .ok (.getfield 74, 3) := by decide +kernel
theorem d_Ck_begin_179 : decode b_Ck_begin 179 = .ok (.iload 4, 2) := by decide +kernel
theorem d_Ck_begin_181 : decode b_Ck_begin 181 = .ok (.invokevirtual 107, 3) := by decide +kernel
theorem d_Ck_begin_184 : decode b_Ck_begin 184 = .ok (.if_icmp .ge 30, 3) := by decide +kernel
theorem d_Ck_begin_187 : decode b_Ck_begin 187 = .ok (.aload_n 0, 1) := by decide +kernel
theorem d_Ck_begin_188 : decode b_Ck_begin 188 = .ok (.getfield 52, 3) := by decide +kernel
theorem d_Ck_begin_191 : decode b_Ck_begin 191 = .ok (.iload 5, 2) := by decide +kernel
theorem d_Ck_begin_193 : decode b_Ck_begin 193 = .ok (.iload 6, 2) := by decide +kernel
theorem d_Ck_begin_195 : decode b_Ck_begin 195 = .ok (.iadd, 1) := by decide +kernel
theorem d_Ck_begin_196 : decode b_Ck_begin 196 = .ok (.aload_n 0, 1) := by decide +kernel
theorem d_Ck_begin_197 : decode b_Ck_begin 197 = .ok (.getfield 74, 3) := by decide +kernel
theorem d_Ck_begin_200 : decode b_Ck_begin 200 = .ok (.iload 4, 2) := by decide +kernel
theorem d_Ck_begin_202 : decode b_Ck_begin 202 = .ok (.iload 6, 2) := by decide +kernel
theorem d_Ck_begin_204 : decode b_Ck_begin 204 = .ok (.invokevirtual 110, 3) := by decide +kernel
theorem d_Ck_begin_207 : decode b_Ck_begin 207 = .ok (.iastore, 1) := by decide +kernel
theorem d_Ck_begin_208 : decode b_Ck_begin 208 = .ok (.iinc 6 1, 3) := by decide +kernel
theorem d_Ck_begin_211 : decode b_Ck_begin 211 = .ok (.goto (-38), 3) := by decide +kernel
theorem d_Ck_begin_214 : decode b_Ck_begin 214 = .ok (.return_, 1) := by decide +kernel
abbrev ru_Ck_begin : Room := { frames := 1, cells := 0, slots := 0, locals := 23 }
def wb_Ck_begin_173 (y : Ly) (Post : St → Prop) (K_173 : St → Int32 → Int32 → Int32 → Prop) (a0 : Nat) (a1 : Nat) (s_h173 : St) (x4h173 : Int32) (x5h173 : Int32) (x6h173 : Int32) : Prop := wu_Na_argumentsOf y (fun (s_32 : St) (r_31 : Int32) => ((r_31 ≤ x6h173 → Post s_32) ∧ (¬ (r_31 ≤ x6h173) → wu_Na_typeOf y (fun (s_34 : St) (r_33 : Int32) => xS y s_34 a0 15 (x5h173 + x6h173) r_33 (fun s_35 : St => K_173 s_35 x4h173 x5h173 (x6h173 + 1))) s_32 (lk a0 2) x4h173 x6h173))) s_h173 (lk a0 2) x4h173
def wl_Ck_begin_173 (y : Ly) (Post : St → Prop) (a0 : Nat) (a1 : Nat) (s_h173 : St) (x4h173 : Int32) (x5h173 : Int32) (x6h173 : Int32) : Prop := ∃ (I : St → Int32 → Int32 → Int32 → Prop) (μ : St → Int32 → Int32 → Int32 → Nat), I s_h173 x4h173 x5h173 x6h173 ∧ ∀ (u : St) (t0 : Int32) (t1 : Int32) (t2 : Int32), I u t0 t1 t2 → wb_Ck_begin_173 y Post (fun z t0q t1q t2q => I z t0q t1q t2q ∧ μ z t0q t1q t2q < μ u t0 t1 t2) a0 a1 u t0 t1 t2
def wj_Ck_begin_170 (y : Ly) (Post : St → Prop) (a0 : Nat) (a1 : Nat) (s_j170 : St) (x4j170 : Int32) (x5j170 : Int32) : Prop := wl_Ck_begin_173 y Post a0 a1 s_j170 x4j170 x5j170 0
def wj_Ck_begin_169 (y : Ly) (Post : St → Prop) (a0 : Nat) (a1 : Nat) (s_j169 : St) (x4j169 : Int32) (x5j169 : Int32) (z1j169 : Int32) (z2j169 : Int32) : Prop := xS y s_j169 a0 15 z1j169 z2j169 (fun s_36 : St => wj_Ck_begin_170 y Post a0 a1 s_36 x4j169 x5j169)
def wj_Ck_begin_139 (y : Ly) (Post : St → Prop) (a0 : Nat) (a1 : Nat) (s_j139 : St) (x2j139 : Int32) (x4j139 : Int32) (z0j139 : Int32) : Prop := ((¬ z0j139 = 1 → wj_Ck_begin_170 y Post a0 a1 s_j139 x4j139 z0j139) ∧ (z0j139 = 1 → (((sV s_j139 a0 10) = 0 → wu_Wd_of y (fun (s_38 : St) (r_37 : Int32) => wj_Ck_begin_169 y Post a0 a1 s_38 x4j139 z0j139 0 r_37) s_j139 a1 x2j139 0) ∧ (¬ ((sV s_j139 a0 10) = 0) → wj_Ck_begin_169 y Post a0 a1 s_j139 x4j139 z0j139 0 4))))
def wj_Ck_begin_101 (y : Ly) (Post : St → Prop) (a0 : Nat) (a1 : Nat) (s_j101 : St) (x2j101 : Int32) (x3j101 : Int32) (x4j101 : Int32) (z1j101 : Int32) : Prop := nb z1j101 ∧ xP (uV s_j101 a0 10 z1j101) (fun s_24 : St => xP (uV s_24 a0 16 0) (fun s_25 : St => xP (uV s_25 a0 0 0) (fun s_26 : St => wu_Ja_fill_aIIV y (fun (s_28 : St) => wu_Wd_method y (fun (s_30 : St) (r_29 : Int32) => (((r_29 &&& 1) = 0 → wj_Ck_begin_139 y Post a0 a1 s_30 x2j101 x4j101 1) ∧ (¬ ((r_29 &&& 1) = 0) → wj_Ck_begin_139 y Post a0 a1 s_30 x2j101 x4j101 0))) s_28 a1 x2j101 x3j101 1) s_26 a0 15 3)))
def wu_Ck_begin (y : Ly) (Post : St → Prop) (σ : St) (a0 : Nat) (a1 : Nat) (v2 : Int32) (v3 : Int32) : Prop := xP (uO σ a0 3 (some a1)) (fun s_1 : St => xP (uV s_1 a0 4 v2) (fun s_2 : St => xP (uV s_2 a0 1 v3) (fun s_3 : St => wu_Wd_method y (fun (s_5 : St) (r_4 : Int32) => xP (uV s_5 a0 5 r_4) (fun s_6 : St => wu_Wd_method y (fun (s_8 : St) (r_7 : Int32) => wu_Wd_method y (fun (s_10 : St) (r_9 : Int32) => xP (uV s_10 a0 6 r_9) (fun s_11 : St => wu_Wd_method y (fun (s_13 : St) (r_12 : Int32) => xP (uV s_13 a0 7 r_12) (fun s_14 : St => wu_Wd_method y (fun (s_16 : St) (r_15 : Int32) => xP (uV s_16 a0 8 r_15) (fun s_17 : St => wu_Na_resultOf y (fun (s_19 : St) (r_18 : Int32) => xP (uV s_19 a0 9 r_18) (fun s_20 : St => wu_Na_nameOf y (fun (s_22 : St) (r_21 : Int32) => ((¬ r_21 = 7 → wj_Ck_begin_101 y Post a0 a1 s_22 v2 v3 r_7 0) ∧ (r_21 = 7 → wj_Ck_begin_101 y Post a0 a1 s_22 v2 v3 r_7 1))) s_20 (lk a0 2) r_7)) s_17 (lk a0 2) r_7)) s_14 a1 v2 v3 2)) s_11 a1 v2 v3 3)) s_8 a1 v2 v3 5) s_6 a1 v2 v3 0)) s_3 a1 v2 v3 4)))
set_option maxHeartbeats 4000000 in
set_option maxRecDepth 100000 in
theorem cu_Ck_begin (l : Launch) (D : va_G) (g : Nat → ClassId) (ad : Nat → Nat) (y : Ly) (Post : St → Prop) (σ : St) (a0 : Nat) (a1 : Nat) (v2 : Int32) (v3 : Int32) (sz : Nat) (h_a0 : cl a0 = 0) (h_a1 : cl a1 = 9) (h : wu_Ck_begin y Post σ a0 a1 v2 v3) : Met l y_Ck_begin (mw y_Ck_begin b_Ck_begin 7 (none)) ru_Ck_begin (PC g D [] [.ref (ad a0), .ref (ad a1), .int v2, .int v3] sz (ws g ad y σ)) (va_Qv (fun u : St => Post u) (QW D (va_A (ws g ad y σ) sz) (fun u => ws g ad y u)) (va_A (ws g ad y σ) sz)) 0 0 (va_A (ws g ad y σ) sz) := by
  refine ofV (by decide +kernel) (Nat.le_of_ble_eq_true rfl) ?_
  intro p e s m args below meth c A Q ls H locs G hsz hP hD hS hl hret
  subst hsz
  have hl : lv_has ls 7 [(0, .ref (ad a0)), (1, .ref (ad a1)), (2, .int v2), (3, .int v3)] := hl
  unfold wu_Ck_begin at h
  refine lv_aload_n G.1 G.2.1 d_Ck_begin_0 rfl (lv_at hl 0 rfl) ?_
  refine lv_aload_n G.1 G.2.1 d_Ck_begin_1 rfl (lv_at hl 1 rfl) ?_
  refine upf G hP hD hS h 3 putO h_a0 iCk tCk tCk_ok nCk rfl (by decide) rfl q654 rfl rfl fO rfl rfl d_Ck_begin_2 (fun s_1 H locs h hP hD hS => ?_)
  refine lv_aload_n G.1 G.2.1 d_Ck_begin_5 rfl (lv_at hl 0 rfl) ?_
  refine lv_iload_n G.1 G.2.1 d_Ck_begin_6 rfl (lv_at hl 2 rfl) ?_
  refine upf G hP hD hS h 4 putV h_a0 iCk tCk tCk_ok nCk rfl (by decide) rfl q655 rfl rfl fV rfl rfl d_Ck_begin_7 (fun s_2 H locs h hP hD hS => ?_)
  refine lv_aload_n G.1 G.2.1 d_Ck_begin_10 rfl (lv_at hl 0 rfl) ?_
  refine lv_iload_n G.1 G.2.1 d_Ck_begin_11 rfl (lv_at hl 3 rfl) ?_
  refine upf G hP hD hS h 1 putV h_a0 iCk tCk tCk_ok nCk rfl (by decide) rfl q651 rfl rfl fV rfl rfl d_Ck_begin_12 (fun s_3 H locs h hP hD hS => ?_)
  refine lv_aload_n G.1 G.2.1 d_Ck_begin_15 rfl (lv_at hl 0 rfl) ?_
  refine lv_aload_n G.1 G.2.1 d_Ck_begin_16 rfl (lv_at hl 1 rfl) ?_
  refine W.eq (g2 := F0 m 17 ls [.ref (ad a1), .ref (ad a0)]) rfl ?_
  refine lv_iload_n G.1 G.2.1 d_Ck_begin_17 rfl (lv_at hl 2 rfl) ?_
  refine lv_iload_n G.1 G.2.1 d_Ck_begin_18 rfl (lv_at hl 3 rfl) ?_
  refine lv_iconst (v := 4) G.1 G.2.1 d_Ck_begin_19 (by decide) ?_
  refine ucVi (As := [.int v2, .int v3, .int 4]) (rest := [.ref (ad a0)]) G hP hD hS (cu_Wd_method l D g ad y _ s_3 a1 v2 v3 4 H.size h_a1 h) w9_Wd_method q1580 ⟨Nat.le_of_ble_eq_true rfl, Nat.le_of_ble_eq_true rfl⟩ rfl rfl h_a1 (q := (RWd, TWd, 17)) rfl rfl hl.1 rfl (Nat.le_of_ble_eq_true rfl) rfl ⟨Nat.le_refl _, Nat.le_refl _⟩ d_Ck_begin_20 (fun r_4 s_5 H locs h hP hD hS => ?_)
  refine upf G hP hD hS h 5 putV h_a0 iCk tCk tCk_ok nCk rfl (by decide) rfl q656 rfl rfl fV rfl rfl d_Ck_begin_23 (fun s_6 H locs h hP hD hS => ?_)
  refine lv_aload_n G.1 G.2.1 d_Ck_begin_26 rfl (lv_at hl 1 rfl) ?_
  refine lv_iload_n G.1 G.2.1 d_Ck_begin_27 rfl (lv_at hl 2 rfl) ?_
  refine lv_iload_n G.1 G.2.1 d_Ck_begin_28 rfl (lv_at hl 3 rfl) ?_
  refine lv_iconst (v := 0) G.1 G.2.1 d_Ck_begin_29 (by decide) ?_
  refine ucVi (As := [.int v2, .int v3, .int 0]) (rest := []) G hP hD hS (cu_Wd_method l D g ad y _ s_6 a1 v2 v3 0 H.size h_a1 h) w9_Wd_method q1580 ⟨Nat.le_of_ble_eq_true rfl, Nat.le_of_ble_eq_true rfl⟩ rfl rfl h_a1 (q := (RWd, TWd, 17)) rfl rfl hl.1 rfl (Nat.le_of_ble_eq_true rfl) rfl ⟨Nat.le_refl _, Nat.le_refl _⟩ d_Ck_begin_30 (fun r_7 s_8 H locs h hP hD hS => ?_)
  refine lv_istore (lv' := [(4, .int r_7), (0, .ref (ad a0)), (1, .ref (ad a1)), (2, .int v2), (3, .int v3)]) G.1 G.2.1 d_Ck_begin_33 hl (by decide) rfl (fun ls hl => ?_)
  refine lv_aload_n G.1 G.2.1 d_Ck_begin_35 rfl (lv_at hl 1 rfl) ?_
  refine W.eq (g2 := F0 m 36 ls [.ref (ad a0)]) rfl ?_
  refine lv_aload_n G.1 G.2.1 d_Ck_begin_36 rfl (lv_at hl 2 rfl) ?_
  refine lv_iload_n G.1 G.2.1 d_Ck_begin_37 rfl (lv_at hl 3 rfl) ?_
  refine lv_iload_n G.1 G.2.1 d_Ck_begin_38 rfl (lv_at hl 4 rfl) ?_
  refine lv_iconst (v := 5) G.1 G.2.1 d_Ck_begin_39 (by decide) ?_
  refine ucVi (As := [.int v2, .int v3, .int 5]) (rest := [.ref (ad a0)]) G hP hD hS (cu_Wd_method l D g ad y _ s_8 a1 v2 v3 5 H.size h_a1 h) w9_Wd_method q1580 ⟨Nat.le_of_ble_eq_true rfl, Nat.le_of_ble_eq_true rfl⟩ rfl rfl h_a1 (q := (RWd, TWd, 17)) rfl rfl hl.1 rfl (Nat.le_of_ble_eq_true rfl) rfl ⟨Nat.le_refl _, Nat.le_refl _⟩ d_Ck_begin_40 (fun r_9 s_10 H locs h hP hD hS => ?_)
  refine upf G hP hD hS h 6 putV h_a0 iCk tCk tCk_ok nCk rfl (by decide) rfl q657 rfl rfl fV rfl rfl d_Ck_begin_43 (fun s_11 H locs h hP hD hS => ?_)
  refine lv_aload_n G.1 G.2.1 d_Ck_begin_46 rfl (lv_at hl 1 rfl) ?_
  refine lv_aload_n G.1 G.2.1 d_Ck_begin_47 rfl (lv_at hl 2 rfl) ?_
  refine lv_iload_n G.1 G.2.1 d_Ck_begin_48 rfl (lv_at hl 3 rfl) ?_
  refine lv_iload_n G.1 G.2.1 d_Ck_begin_49 rfl (lv_at hl 4 rfl) ?_
  refine lv_iconst (v := 3) G.1 G.2.1 d_Ck_begin_50 (by decide) ?_
  refine ucVi (As := [.int v2, .int v3, .int 3]) (rest := [.ref (ad a0)]) G hP hD hS (cu_Wd_method l D g ad y _ s_11 a1 v2 v3 3 H.size h_a1 h) w9_Wd_method q1580 ⟨Nat.le_of_ble_eq_true rfl, Nat.le_of_ble_eq_true rfl⟩ rfl rfl h_a1 (q := (RWd, TWd, 17)) rfl rfl hl.1 rfl (Nat.le_of_ble_eq_true rfl) rfl ⟨Nat.le_refl _, Nat.le_refl _⟩ d_Ck_begin_51 (fun r_12 s_13 H locs h hP hD hS => ?_)
  refine W.eq (g2 := F0 m 54 ls [.int r_12, .ref (ad a0)]) rfl ?_
  refine upf G hP hD hS h 7 putV h_a0 iCk tCk tCk_ok nCk rfl (by decide) rfl q658 rfl rfl fV rfl rfl d_Ck_begin_54 (fun s_14 H locs h hP hD hS => ?_)
  refine lv_aload_n G.1 G.2.1 d_Ck_begin_57 rfl (lv_at hl 1 rfl) ?_
  refine lv_aload_n G.1 G.2.1 d_Ck_begin_58 rfl (lv_at hl 2 rfl) ?_
  refine lv_iload_n G.1 G.2.1 d_Ck_begin_59 rfl (lv_at hl 3 rfl) ?_
  refine lv_iload_n G.1 G.2.1 d_Ck_begin_60 rfl (lv_at hl 4 rfl) ?_
  refine lv_iconst (v := 2) G.1 G.2.1 d_Ck_begin_61 (by decide) ?_
  refine ucVi (As := [.int v2, .int v3, .int 2]) (rest := [.ref (ad a0)]) G hP hD hS (cu_Wd_method l D g ad y _ s_14 a1 v2 v3 2 H.size h_a1 h) w9_Wd_method q1580 ⟨Nat.le_of_ble_eq_true rfl, Nat.le_of_ble_eq_true rfl⟩ rfl rfl h_a1 (q := (RWd, TWd, 17)) rfl rfl hl.1 rfl (Nat.le_of_ble_eq_true rfl) rfl ⟨Nat.le_refl _, Nat.le_refl _⟩ d_Ck_begin_62 (fun r_15 s_16 H locs h hP hD hS => ?_)
  refine upf G hP hD hS h 8 putV h_a0 iCk tCk tCk_ok nCk rfl (by decide) rfl q659 rfl rfl fV rfl rfl d_Ck_begin_65 (fun s_17 H locs h hP hD hS => ?_)
  refine lv_aload_n G.1 G.2.1 d_Ck_begin_68 rfl (lv_at hl 1 rfl) ?_
  refine lv_aload_n G.1 G.2.1 d_Ck_begin_69 rfl (lv_at hl 1 rfl) ?_
  refine ugf (v := .ref (ad (lk a0 2))) G hP h_a0 iCk rfl 2 (by decide) rfl q653 rfl rfl d_Ck_begin_70 ?_
  refine lv_iload G.1 G.2.1 d_Ck_begin_73 (lv_at hl 0 rfl) ?_
  refine W.eq (g2 := F0 m 75 ls [.int r_7, .ref (ad (lk a0 2)), .ref (ad a0)]) rfl ?_
  refine ucVi (As := [.int r_7]) (rest := [.ref (ad a0)]) G hP hD hS (cu_Na_resultOf l D g ad y _ s_17 (lk a0 2) r_7 H.size (lk_0_2 h_a0) h) w9_Na_resultOf q1581 ⟨Nat.le_of_ble_eq_true rfl, Nat.le_of_ble_eq_true rfl⟩ rfl rfl (lk_0_2 h_a0) (q := (RNa, TNa, 11)) rfl rfl hl.1 rfl (Nat.le_of_ble_eq_true rfl) rfl ⟨Nat.le_refl _, Nat.le_refl _⟩ d_Ck_begin_75 (fun r_18 s_19 H locs h hP hD hS => ?_)
  refine upf G hP hD hS h 9 putV h_a0 iCk tCk tCk_ok nCk rfl (by decide) rfl q660 rfl rfl fV rfl rfl d_Ck_begin_78 (fun s_20 H locs h hP hD hS => ?_)
  refine lv_aload_n G.1 G.2.1 d_Ck_begin_81 rfl (lv_at hl 1 rfl) ?_
  refine lv_aload_n G.1 G.2.1 d_Ck_begin_82 rfl (lv_at hl 1 rfl) ?_
  refine ugf (v := .ref (ad (lk a0 2))) G hP h_a0 iCk rfl 2 (by decide) rfl q653 rfl rfl d_Ck_begin_83 ?_
  refine lv_iload G.1 G.2.1 d_Ck_begin_86 (lv_at hl 0 rfl) ?_
  refine ucVi (As := [.int r_7]) (rest := [.ref (ad a0)]) G hP hD hS (cu_Na_nameOf l D g ad y _ s_20 (lk a0 2) r_7 H.size (lk_0_2 h_a0) h) w9_Na_nameOf q1585 ⟨Nat.le_of_ble_eq_true rfl, Nat.le_of_ble_eq_true rfl⟩ rfl rfl (lk_0_2 h_a0) (q := (RNa, TNa, 11)) rfl rfl hl.1 rfl (Nat.le_of_ble_eq_true rfl) rfl ⟨Nat.le_refl _, Nat.le_refl _⟩ d_Ck_begin_88 (fun r_21 s_22 H locs h hP hD hS => ?_)
  refine lv_bipush (v := 7) G.1 G.2.1 d_Ck_begin_91 (by decide) ?_
  have J_101 : ∀ (s_j101 : St) (x2j101 : Int32) (x3j101 : Int32) (x4j101 : Int32) (z1j101 : Int32) (H : Heap) (locs : List Loc), wj_Ck_begin_101 y Post a0 a1 s_j101 x2j101 x3j101 x4j101 z1j101 → va_P D CL (ws g ad y s_j101) H → va_D A (ws g ad y s_j101) → va_S A s.heap H locs → ∀ ls, lv_has ls 7 [(0, .ref (ad a0)), (1, .ref (ad a1)), (2, .int x2j101), (3, .int x3j101), (4, .int x4j101)] → W p l e ru_Ck_begin s m args below meth c H locs 0 0 Q (F0 m 101 ls [.int z1j101, .ref (ad a0)]) := by
    intro s_j101 x2j101 x3j101 x4j101 z1j101 H locs h hP hD hS ls hl
    unfold wj_Ck_begin_101 at h
    obtain ⟨n_23, h⟩ := h
    refine upf G hP hD hS h 10 putV h_a0 iCk tCk tCk_ok nCk rfl (by decide) rfl q661 rfl rfl fV (nb_n n_23) (nb_f n_23) d_Ck_begin_101 (fun s_24 H locs h hP hD hS => ?_)
    refine lv_aload_n G.1 G.2.1 d_Ck_begin_104 rfl (lv_at hl 0 rfl) ?_
    refine lv_iconst (v := 0) G.1 G.2.1 d_Ck_begin_105 (by decide) ?_
    refine upf G hP hD hS h 16 putV h_a0 iCk tCk tCk_ok nCk rfl (by decide) rfl q667 rfl rfl fV rfl rfl d_Ck_begin_106 (fun s_25 H locs h hP hD hS => ?_)
    refine lv_aload_n G.1 G.2.1 d_Ck_begin_109 rfl (lv_at hl 0 rfl) ?_
    refine lv_iconst (v := 0) G.1 G.2.1 d_Ck_begin_110 (by decide) ?_
    refine upf G hP hD hS h 0 putV h_a0 iCk tCk tCk_ok nCk rfl (by decide) rfl q648 rfl rfl fV rfl rfl d_Ck_begin_111 (fun s_26 H locs h hP hD hS => ?_)
    refine lv_aload_n G.1 G.2.1 d_Ck_begin_114 rfl (lv_at hl 0 rfl) ?_
    refine ugf (v := .ref (yP y a0 15)) G hP h_a0 iCk rfl 15 (by decide) rfl q666 rfl rfl d_Ck_begin_115 ?_
    refine lv_iconst (v := 3) G.1 G.2.1 d_Ck_begin_118 (by decide) ?_
    refine ucSv (As := [.ref (yP y a0 15), .int 3]) (rest := []) G hP hD hS (cu_Ja_fill_aIIV l D g ad y _ s_26 a0 15 3 H.size ⟨(kdp h_a0 rfl), (typ h_a0 rfl)⟩ h) w9_Ja_fill_aIIV q1586 ⟨Nat.le_of_ble_eq_true rfl, Nat.le_of_ble_eq_true rfl⟩ rfl rfl hl.1 rfl (Nat.le_of_ble_eq_true rfl) rfl ⟨Nat.le_refl _, Nat.le_refl _⟩ d_Ck_begin_119 (fun s_28 H locs h hP hD hS => ?_)
    refine W.eq (g2 := F0 m 122 ls []) rfl ?_
    refine lv_aload_n G.1 G.2.1 d_Ck_begin_122 rfl (lv_at hl 1 rfl) ?_
    refine lv_iload_n G.1 G.2.1 d_Ck_begin_123 rfl (lv_at hl 2 rfl) ?_
    refine lv_iload_n G.1 G.2.1 d_Ck_begin_124 rfl (lv_at hl 3 rfl) ?_
    refine lv_iconst (v := 1) G.1 G.2.1 d_Ck_begin_125 (by decide) ?_
    refine ucVi (As := [.int x2j101, .int x3j101, .int 1]) (rest := []) G hP hD hS (cu_Wd_method l D g ad y _ s_28 a1 x2j101 x3j101 1 H.size h_a1 h) w9_Wd_method q1580 ⟨Nat.le_of_ble_eq_true rfl, Nat.le_of_ble_eq_true rfl⟩ rfl rfl h_a1 (q := (RWd, TWd, 17)) rfl rfl hl.1 rfl (Nat.le_of_ble_eq_true rfl) rfl ⟨Nat.le_refl _, Nat.le_refl _⟩ d_Ck_begin_126 (fun r_29 s_30 H locs h hP hD hS => ?_)
    refine lv_iconst (v := 1) G.1 G.2.1 d_Ck_begin_129 (by decide) ?_
    refine lv_iand G.1 G.2.1 d_Ck_begin_130 ?_
    have J_139 : ∀ (s_j139 : St) (x2j139 : Int32) (x4j139 : Int32) (z0j139 : Int32) (H : Heap) (locs : List Loc), wj_Ck_begin_139 y Post a0 a1 s_j139 x2j139 x4j139 z0j139 → va_P D CL (ws g ad y s_j139) H → va_D A (ws g ad y s_j139) → va_S A s.heap H locs → ∀ ls, lv_has ls 7 [(0, .ref (ad a0)), (1, .ref (ad a1)), (2, .int x2j139), (4, .int x4j139)] → W p l e ru_Ck_begin s m args below meth c H locs 0 0 Q (F0 m 139 ls [.int z0j139]) := by
      intro s_j139 x2j139 x4j139 z0j139 H locs h hP hD hS ls hl
      unfold wj_Ck_begin_139 at h
      refine lv_istore (lv' := [(5, .int z0j139), (0, .ref (ad a0)), (1, .ref (ad a1)), (2, .int x2j139), (4, .int x4j139)]) G.1 G.2.1 d_Ck_begin_139 hl (by decide) rfl (fun ls hl => ?_)
      refine lv_iload G.1 G.2.1 d_Ck_begin_141 (lv_at hl 0 rfl) ?_
      refine lv_iconst (v := 1) G.1 G.2.1 d_Ck_begin_143 (by decide) ?_
      have J_170 : ∀ (s_j170 : St) (x4j170 : Int32) (x5j170 : Int32) (H : Heap) (locs : List Loc), wj_Ck_begin_170 y Post a0 a1 s_j170 x4j170 x5j170 → va_P D CL (ws g ad y s_j170) H → va_D A (ws g ad y s_j170) → va_S A s.heap H locs → ∀ ls, lv_has ls 7 [(0, .ref (ad a0)), (4, .int x4j170), (5, .int x5j170)] → W p l e ru_Ck_begin s m args below meth c H locs 0 0 Q (F0 m 170 ls []) := by
        intro s_j170 x4j170 x5j170 H locs h hP hD hS ls hl
        unfold wj_Ck_begin_170 at h
        refine lv_iconst (v := 0) G.1 G.2.1 d_Ck_begin_170 (by decide) ?_
        refine lv_istore (lv' := [(6, .int 0), (0, .ref (ad a0)), (4, .int x4j170), (5, .int x5j170)]) G.1 G.2.1 d_Ck_begin_171 hl (by decide) rfl (fun ls hl => ?_)
        unfold wl_Ck_begin_173 at h
        obtain ⟨I_173, μ_173, hI_173, hB_173⟩ := h
        have L_173 : ∀ (n_173 : Nat) (s_h173 : St) (x4h173 : Int32) (x5h173 : Int32) (x6h173 : Int32), μ_173 s_h173 x4h173 x5h173 x6h173 < n_173 → I_173 s_h173 x4h173 x5h173 x6h173 → ∀ (H : Heap) (locs : List Loc), va_P D CL (ws g ad y s_h173) H → va_D A (ws g ad y s_h173) → va_S A s.heap H locs → ∀ ls, lv_has ls 7 [(0, .ref (ad a0)), (4, .int x4h173), (5, .int x5h173), (6, .int x6h173)] → W p l e ru_Ck_begin s m args below meth c H locs 0 0 Q (F0 m 173 ls []) := by
          intro n_173
          induction n_173 with
          | zero => intro s_h173 x4h173 x5h173 x6h173 hμ; exact absurd hμ (Nat.not_lt_zero _)
          | succ n_173 ih_173 =>
            intro s_h173 x4h173 x5h173 x6h173 hμ_173 hJ H locs hP hD hS ls hl
            obtain ⟨K_173, hK_173, h⟩ : ∃ K : St → Int32 → Int32 → Int32 → Prop, (∀ z (t0 : Int32) (t1 : Int32) (t2 : Int32), K z t0 t1 t2 → I_173 z t0 t1 t2 ∧ μ_173 z t0 t1 t2 < μ_173 s_h173 x4h173 x5h173 x6h173) ∧ wb_Ck_begin_173 y Post K a0 a1 s_h173 x4h173 x5h173 x6h173 := ⟨_, fun _ _ _ _ h => h, hB_173 s_h173 x4h173 x5h173 x6h173 hJ⟩
            unfold wb_Ck_begin_173 at h
            refine lv_iload G.1 G.2.1 d_Ck_begin_173 (lv_at hl 3 rfl) ?_
            refine lv_aload_n G.1 G.2.1 d_Ck_begin_175 rfl (lv_at hl 0 rfl) ?_
            refine ugf (v := .ref (ad (lk a0 2))) G hP h_a0 iCk rfl 2 (by decide) rfl q653 rfl rfl d_Ck_begin_176 ?_
            refine lv_iload G.1 G.2.1 d_Ck_begin_179 (lv_at hl 1 rfl) ?_
            refine ucVi (As := [.int x4h173]) (rest := [.int x6h173]) G hP hD hS (cu_Na_argumentsOf l D g ad y _ s_h173 (lk a0 2) x4h173 H.size (lk_0_2 h_a0) h) w9_Na_argumentsOf q1588 ⟨Nat.le_of_ble_eq_true rfl, Nat.le_of_ble_eq_true rfl⟩ rfl rfl (lk_0_2 h_a0) (q := (RNa, TNa, 11)) rfl rfl hl.1 rfl (Nat.le_of_ble_eq_true rfl) rfl ⟨Nat.le_refl _, Nat.le_refl _⟩ d_Ck_begin_181 (fun r_31 s_32 H locs h hP hD hS => ?_)
            refine lv_icmp_ge (tgt := 214) G.1 G.2.1 d_Ck_begin_184 (by decide) (fun c184 => ?_) (fun c184 => ?_)
            · skip
              have h := h.1 c184
              exact hret _ _ _ _ _ _ ls h hP hD hS (Nat.le_refl _) (Nat.le_refl _) d_Ck_begin_214
            · skip
              have h := h.2 c184
              refine lv_aload_n G.1 G.2.1 d_Ck_begin_187 rfl (lv_at hl 0 rfl) ?_
              refine ugf (v := .ref (yP y a0 15)) G hP h_a0 iCk rfl 15 (by decide) rfl q666 rfl rfl d_Ck_begin_188 ?_
              refine lv_iload G.1 G.2.1 d_Ck_begin_191 (lv_at hl 2 rfl) ?_
              refine lv_iload G.1 G.2.1 d_Ck_begin_193 (lv_at hl 3 rfl) ?_
              refine lv_iadd G.1 G.2.1 d_Ck_begin_195 ?_
              refine W.eq (g2 := F0 m 196 ls [.int (x5h173 + x6h173), .ref (yP y a0 15)]) rfl ?_
              refine lv_aload_n G.1 G.2.1 d_Ck_begin_196 rfl (lv_at hl 0 rfl) ?_
              refine ugf (v := .ref (ad (lk a0 2))) G hP h_a0 iCk rfl 2 (by decide) rfl q653 rfl rfl d_Ck_begin_197 ?_
              refine lv_iload G.1 G.2.1 d_Ck_begin_200 (lv_at hl 1 rfl) ?_
              refine lv_iload G.1 G.2.1 d_Ck_begin_202 (lv_at hl 3 rfl) ?_
              refine ucVi (As := [.int x4h173, .int x6h173]) (rest := [.int (x5h173 + x6h173), .ref (yP y a0 15)]) G hP hD hS (cu_Na_typeOf l D g ad y _ s_32 (lk a0 2) x4h173 x6h173 H.size (lk_0_2 h_a0) h) w9_Na_typeOf q1589 ⟨Nat.le_of_ble_eq_true rfl, Nat.le_of_ble_eq_true rfl⟩ rfl rfl (lk_0_2 h_a0) (q := (RNa, TNa, 11)) rfl rfl hl.1 rfl (Nat.le_of_ble_eq_true rfl) rfl ⟨Nat.le_refl _, Nat.le_refl _⟩ d_Ck_begin_204 (fun r_33 s_34 H locs h hP hD hS => ?_)
              refine uiast G hP hD hS (kdp h_a0 rfl) (typ h_a0 rfl) h d_Ck_begin_207 (fun s_35 H locs h hP hD hS => ?_)
              refine lv_iinc (v := x6h173 + 1) (lv' := [(6, .int (x6h173 + 1)), (0, .ref (ad a0)), (4, .int x4h173), (5, .int x5h173)]) G.1 G.2.1 d_Ck_begin_208 hl (k := 3) rfl rfl (by decide) rfl (fun ls hl => ?_)
              refine lv_goto (tgt := 173) G.1 G.2.1 d_Ck_begin_211 (by decide) ?_
              have h := hK_173 s_35 x4h173 x5h173 (x6h173 + 1) h
              exact ih_173 s_35 x4h173 x5h173 (x6h173 + 1) (Nat.lt_of_lt_of_le h.2 (Nat.le_of_lt_succ hμ_173)) h.1 H locs hP hD hS ls (lv_sub hl [1, 2, 3, 0] rfl)
        exact L_173 _ s_j170 x4j170 x5j170 0 (Nat.lt_succ_self _) hI_173 H locs hP hD hS ls (lv_sub hl [1, 2, 3, 0] rfl)
      refine lv_icmp_ne (tgt := 170) G.1 G.2.1 d_Ck_begin_144 (by decide) (fun c144 => ?_) (fun c144 => ?_)
      · skip
        have h := h.1 c144
        exact J_170 s_j139 x4j139 z0j139 H locs h hP hD hS ls (lv_sub hl [1, 4, 0] rfl)
      · skip
        have h := h.2 c144
        refine lv_aload_n G.1 G.2.1 d_Ck_begin_147 rfl (lv_at hl 1 rfl) ?_
        refine ugf (v := .ref (yP y a0 15)) G hP h_a0 iCk rfl 15 (by decide) rfl q666 rfl rfl d_Ck_begin_148 ?_
        refine lv_iconst (v := 0) G.1 G.2.1 d_Ck_begin_151 (by decide) ?_
        refine lv_aload_n G.1 G.2.1 d_Ck_begin_152 rfl (lv_at hl 1 rfl) ?_
        refine ugf (v := .int (sV s_j139 a0 10)) G hP h_a0 iCk rfl 10 (by decide) rfl q661 rfl rfl d_Ck_begin_153 ?_
        have J_169 : ∀ (s_j169 : St) (x4j169 : Int32) (x5j169 : Int32) (z1j169 : Int32) (z2j169 : Int32) (H : Heap) (locs : List Loc), wj_Ck_begin_169 y Post a0 a1 s_j169 x4j169 x5j169 z1j169 z2j169 → va_P D CL (ws g ad y s_j169) H → va_D A (ws g ad y s_j169) → va_S A s.heap H locs → ∀ ls, lv_has ls 7 [(0, .ref (ad a0)), (4, .int x4j169), (5, .int x5j169)] → W p l e ru_Ck_begin s m args below meth c H locs 0 0 Q (F0 m 169 ls [.int z2j169, .int z1j169, .ref (yP y a0 15)]) := by
          intro s_j169 x4j169 x5j169 z1j169 z2j169 H locs h hP hD hS ls hl
          unfold wj_Ck_begin_169 at h
          refine uiast G hP hD hS (kdp h_a0 rfl) (typ h_a0 rfl) h d_Ck_begin_169 (fun s_36 H locs h hP hD hS => ?_)
          exact J_170 s_36 x4j169 x5j169 H locs h hP hD hS ls (lv_sub hl [0, 1, 2] rfl)
        refine lv_if_eq (tgt := 163) G.1 G.2.1 d_Ck_begin_156 (by decide) (fun c156 => ?_) (fun c156 => ?_)
        · skip
          have h := h.1 c156
          refine lv_aload_n G.1 G.2.1 d_Ck_begin_163 rfl (lv_at hl 2 rfl) ?_
          refine W.eq (g2 := F0 m 164 ls [.ref (ad a1), .int 0, .ref (yP y a0 15)]) rfl ?_
          refine lv_iload_n G.1 G.2.1 d_Ck_begin_164 rfl (lv_at hl 3 rfl) ?_
          refine lv_iconst (v := 0) G.1 G.2.1 d_Ck_begin_165 (by decide) ?_
          refine ucVi (As := [.int x2j139, .int 0]) (rest := [.int 0, .ref (yP y a0 15)]) G hP hD hS (cu_Wd_of l D g ad y _ s_j139 a1 x2j139 0 H.size h_a1 h) w9_Wd_of q1587 ⟨Nat.le_of_ble_eq_true rfl, Nat.le_of_ble_eq_true rfl⟩ rfl rfl h_a1 (q := (RWd, TWd, 17)) rfl rfl hl.1 rfl (Nat.le_of_ble_eq_true rfl) rfl ⟨Nat.le_refl _, Nat.le_refl _⟩ d_Ck_begin_166 (fun r_37 s_38 H locs h hP hD hS => ?_)
          exact J_169 s_38 x4j139 z0j139 0 r_37 H locs h hP hD hS ls (lv_sub hl [1, 4, 0] rfl)
        · skip
          have h := h.2 c156
          refine lv_iconst (v := 4) G.1 G.2.1 d_Ck_begin_159 (by decide) ?_
          refine W.eq (g2 := F0 m 160 ls [.int 4, .int 0, .ref (yP y a0 15)]) rfl ?_
          refine lv_goto (tgt := 169) G.1 G.2.1 d_Ck_begin_160 (by decide) ?_
          exact J_169 s_j139 x4j139 z0j139 0 4 H locs h hP hD hS ls (lv_sub hl [1, 4, 0] rfl)
    refine lv_if_eq (tgt := 138) G.1 G.2.1 d_Ck_begin_131 (by decide) (fun c131 => ?_) (fun c131 => ?_)
    · skip
      have h := h.1 c131
      refine lv_iconst (v := 1) G.1 G.2.1 d_Ck_begin_138 (by decide) ?_
      exact J_139 s_30 x2j101 x4j101 1 H locs h hP hD hS ls (lv_sub hl [0, 1, 2, 4] rfl)
    · skip
      have h := h.2 c131
      refine lv_iconst (v := 0) G.1 G.2.1 d_Ck_begin_134 (by decide) ?_
      refine lv_goto (tgt := 139) G.1 G.2.1 d_Ck_begin_135 (by decide) ?_
      exact J_139 s_30 x2j101 x4j101 0 H locs h hP hD hS ls (lv_sub hl [0, 1, 2, 4] rfl)
  refine lv_icmp_ne (tgt := 100) G.1 G.2.1 d_Ck_begin_93 (by decide) (fun c93 => ?_) (fun c93 => ?_)
  · skip
    have h := h.1 c93
    refine lv_iconst (v := 0) G.1 G.2.1 d_Ck_begin_100 (by decide) ?_
    exact J_101 s_22 v2 v3 r_7 0 H locs h hP hD hS ls (lv_sub hl [1, 2, 3, 4, 0] rfl)
  · skip
    have h := h.2 c93
    refine lv_iconst (v := 1) G.1 G.2.1 d_Ck_begin_96 (by decide) ?_
    refine lv_goto (tgt := 101) G.1 G.2.1 d_Ck_begin_97 (by decide) ?_
    exact J_101 s_22 v2 v3 r_7 1 H locs h hP hD hS ls (lv_sub hl [1, 2, 3, 4, 0] rfl)
def y_Ck_forget : MethodName := ⟨"ClassWorks$Checker", "forget", "()V"⟩
abbrev b_Ck_forget : ByteArray := prog_2_method_5_code
theorem q670 : Cond.fieldLink "ClassWorks$Checker" 65 "ClassWorks$Checker" "depths" "[I" ∈ lw_ok := lw_okmem (List.mem_of_getElem? (i := 670) (by decide +kernel)) rfl
theorem q671 : Cond.fieldLink "ClassWorks$Checker" 68 "ClassWorks$Checker" "toldCodes" "I" ∈ lw_ok := lw_okmem (List.mem_of_getElem? (i := 671) (by decide +kernel)) rfl
theorem q672 : Cond.fieldLink "ClassWorks$Checker" 71 "ClassWorks$Checker" "toldLocals" "I" ∈ lw_ok := lw_okmem (List.mem_of_getElem? (i := 672) (by decide +kernel)) rfl
theorem d_Ck_forget_0 : decode b_Ck_forget 0 = .ok (.aload_n 0, 1) := by decide +kernel
theorem d_Ck_forget_1 : decode b_Ck_forget 1 = .ok (.getfield 65, 3) := by decide +kernel
theorem d_Ck_forget_4 : decode b_Ck_forget 4 = .ok (.iconst (-1), 1) := by decide +kernel
theorem d_Ck_forget_5 : decode b_Ck_forget 5 = .ok (.invokestatic 97, 3) := by decide +kernel
theorem d_Ck_forget_8 : decode b_Ck_forget 8 = .ok (.aload_n 0, 1) := by decide +kernel
theorem d_Ck_forget_9 : decode b_Ck_forget 9 = .ok (.aload_n 0, 1) := by decide +kernel
theorem d_Ck_forget_10 : decode b_Ck_forget 10 = .ok (.getfield 24, 3) := by decide +kernel
theorem d_Ck_forget_13 : decode b_Ck_forget 13 = .ok (.putfield 68, 3) := by decide +kernel
theorem d_Ck_forget_16 : decode b_Ck_forget 16 = .ok (.aload_n 0, 1) := by decide +kernel
theorem d_Ck_forget_17 : decode b_Ck_forget 17 = .ok (.aload_n 0, 1) := by decide +kernel
theorem d_Ck_forget_18 : decode b_Ck_forget 18 = .ok (.getfield 27, 3) := by decide +kernel
theorem d_Ck_forget_21 : decode b_Ck_forget 21 = .ok (.putfield 71, 3) := by decide +kernel
theorem d_Ck_forget_24 : decode b_Ck_forget 24 = .ok (.return_, 1) := by decide +kernel
abbrev ru_Ck_forget : Room := { frames := 1, cells := 0, slots := 0, locals := 23 }
def wu_Ck_forget (y : Ly) (Post : St → Prop) (σ : St) (a0 : Nat) : Prop := wu_Ja_fill_aIIV y (fun (s_2 : St) => xP (uV s_2 a0 20 (sV s_2 a0 6)) (fun s_3 : St => xP (uV s_3 a0 21 (sV s_3 a0 7)) (fun s_4 : St => Post s_4))) σ a0 19 (-1)
set_option maxHeartbeats 4000000 in
set_option maxRecDepth 100000 in
theorem cu_Ck_forget (l : Launch) (D : va_G) (g : Nat → ClassId) (ad : Nat → Nat) (y : Ly) (Post : St → Prop) (σ : St) (a0 : Nat) (sz : Nat) (h_a0 : cl a0 = 0) (h : wu_Ck_forget y Post σ a0) : Met l y_Ck_forget (mw y_Ck_forget b_Ck_forget 1 (none)) ru_Ck_forget (PC g D [] [.ref (ad a0)] sz (ws g ad y σ)) (va_Qv (fun u : St => Post u) (QW D (va_A (ws g ad y σ) sz) (fun u => ws g ad y u)) (va_A (ws g ad y σ) sz)) 0 0 (va_A (ws g ad y σ) sz) := by
  refine ofV (by decide +kernel) (Nat.le_of_ble_eq_true rfl) ?_
  intro p e s m args below meth c A Q ls H locs G hsz hP hD hS hl hret
  subst hsz
  have hl : lv_has ls 1 [(0, .ref (ad a0))] := hl
  unfold wu_Ck_forget at h
  refine lv_aload_n G.1 G.2.1 d_Ck_forget_0 rfl (lv_at hl 0 rfl) ?_
  refine ugf (v := .ref (yP y a0 19)) G hP h_a0 iCk rfl 19 (by decide) rfl q670 rfl rfl d_Ck_forget_1 ?_
  refine lv_iconst (v := (-1)) G.1 G.2.1 d_Ck_forget_4 (by decide) ?_
  refine ucSv (As := [.ref (yP y a0 19), .int (-1)]) (rest := []) G hP hD hS (cu_Ja_fill_aIIV l D g ad y _ σ a0 19 (-1) H.size ⟨(kdp h_a0 rfl), (typ h_a0 rfl)⟩ h) w9_Ja_fill_aIIV q1586 ⟨Nat.le_of_ble_eq_true rfl, Nat.le_of_ble_eq_true rfl⟩ rfl rfl hl.1 rfl (Nat.le_of_ble_eq_true rfl) rfl ⟨Nat.le_refl _, Nat.le_refl _⟩ d_Ck_forget_5 (fun s_2 H locs h hP hD hS => ?_)
  refine lv_aload_n G.1 G.2.1 d_Ck_forget_8 rfl (lv_at hl 0 rfl) ?_
  refine lv_aload_n G.1 G.2.1 d_Ck_forget_9 rfl (lv_at hl 0 rfl) ?_
  refine ugf (v := .int (sV s_2 a0 6)) G hP h_a0 iCk rfl 6 (by decide) rfl q657 rfl rfl d_Ck_forget_10 ?_
  refine upf G hP hD hS h 20 putV h_a0 iCk tCk tCk_ok nCk rfl (by decide) rfl q671 rfl rfl fV rfl rfl d_Ck_forget_13 (fun s_3 H locs h hP hD hS => ?_)
  refine lv_aload_n G.1 G.2.1 d_Ck_forget_16 rfl (lv_at hl 0 rfl) ?_
  refine lv_aload_n G.1 G.2.1 d_Ck_forget_17 rfl (lv_at hl 0 rfl) ?_
  refine ugf (v := .int (sV s_3 a0 7)) G hP h_a0 iCk rfl 7 (by decide) rfl q658 rfl rfl d_Ck_forget_18 ?_
  refine W.eq (g2 := F0 m 21 ls [.int (sV s_3 a0 7), .ref (ad a0)]) rfl ?_
  refine upf G hP hD hS h 21 putV h_a0 iCk tCk tCk_ok nCk rfl (by decide) rfl q672 rfl rfl fV rfl rfl d_Ck_forget_21 (fun s_4 H locs h hP hD hS => ?_)
  exact hret _ _ _ _ _ _ ls h hP hD hS (Nat.le_refl _) (Nat.le_refl _) d_Ck_forget_24
def y_Ck_operand : MethodName := ⟨"ClassWorks$Checker", "operand", "(I)I"⟩
abbrev b_Ck_operand : ByteArray := prog_2_method_4_code
theorem q843 : Cond.fieldLink "ClassWorks$Checker" 113 "ClassWorks$World" "codes" "LClassWorks$Ints;" ∈ lw_ok := lw_okmem (List.mem_of_getElem? (i := 843) (by decide +kernel)) rfl
theorem q380 : Cond.fieldLink "ClassWorks$Checker" 116 "ClassWorks$Ints" "row" "[I" ∈ lw_ok := lw_okmem (List.mem_of_getElem? (i := 380) (by decide +kernel)) rfl
theorem q662 : Cond.fieldLink "ClassWorks$Checker" 40 "ClassWorks$Checker" "row" "I" ∈ lw_ok := lw_okmem (List.mem_of_getElem? (i := 662) (by decide +kernel)) rfl
theorem d_Ck_operand_0 : decode b_Ck_operand 0 = .ok (.aload_n 0, 1) := by decide +kernel
theorem d_Ck_operand_1 : decode b_Ck_operand 1 = .ok (.getfield 78, 3) := by decide +kernel
theorem d_Ck_operand_4 : decode b_Ck_operand 4 = .ok (.getfield 113, 3) := by decide +kernel
theorem d_Ck_operand_7 : decode b_Ck_operand 7 = .ok (.getfield 116, 3) := by decide +kernel
theorem d_Ck_operand_10 : decode b_Ck_operand 10 = .ok (.aload_n 0, 1) := by decide +kernel
theorem d_Ck_operand_11 : decode b_Ck_operand 11 = .ok (.getfield 40, 3) := by decide +kernel
theorem d_Ck_operand_14 : decode b_Ck_operand 14 = .ok (.iload_n 1, 1) := by decide +kernel
theorem d_Ck_operand_15 : decode b_Ck_operand 15 = .ok (.iadd, 1) := by decide +kernel
theorem d_Ck_operand_16 : decode b_Ck_operand 16 = .ok (.iaload, 1) := by decide +kernel
theorem d_Ck_operand_17 : decode b_Ck_operand 17 = .ok (.ireturn, 1) := by decide +kernel
abbrev ru_Ck_operand : Room := { frames := 0, cells := 0, slots := 0, locals := 0 }
def wu_Ck_operand (y : Ly) (Post : St → Int32 → Prop) (σ : St) (a0 : Nat) (v1 : Int32) : Prop := ∃ b_1 : Nat, sO σ a0 3 = some b_1 ∧ cl b_1 = 9 ∧ xA y σ (lk b_1 10) 0 ((sV σ a0 11) + v1) (fun x_4 : Int32 => Post σ x_4)
set_option maxHeartbeats 4000000 in
set_option maxRecDepth 100000 in
theorem cu_Ck_operand (l : Launch) (D : va_G) (g : Nat → ClassId) (ad : Nat → Nat) (y : Ly) (Post : St → Int32 → Prop) (σ : St) (a0 : Nat) (v1 : Int32) (sz : Nat) (h_a0 : cl a0 = 0) (h : wu_Ck_operand y Post σ a0 v1) : Met l y_Ck_operand (mw y_Ck_operand b_Ck_operand 2 (some .int)) ru_Ck_operand (PC g D [] [.ref (ad a0), .int v1] sz (ws g ad y σ)) (va_Qi (fun (r : Int32) (u : St) => Post u r) (QW D (va_A (ws g ad y σ) sz) (fun u => ws g ad y u)) (va_A (ws g ad y σ) sz)) 0 0 (va_A (ws g ad y σ) sz) := by
  refine ofI (by decide +kernel) (Nat.le_of_ble_eq_true rfl) ?_
  intro p e s m args below meth c A Q ls H locs G hsz hP hD hS hl hret
  subst hsz
  have hl : lv_has ls 2 [(0, .ref (ad a0)), (1, .int v1)] := hl
  unfold wu_Ck_operand at h
  refine lv_aload_n G.1 G.2.1 d_Ck_operand_0 rfl (lv_at hl 0 rfl) ?_
  obtain ⟨b_1, e_2, c_3, h⟩ := h
  refine ugf (v := .ref (ad b_1)) G hP h_a0 iCk rfl 3 (by decide) rfl q654 rfl (by show va_rf ((sO σ a0 3).map ad) = _; rw [e_2]; rfl) d_Ck_operand_1 ?_
  refine ugf (v := .ref (ad (lk b_1 10))) G hP c_3 iWd rfl 10 (by decide) rfl q843 rfl rfl d_Ck_operand_4 ?_
  refine ugf (v := .ref (yP y (lk b_1 10) 0)) G hP (lk_9_10 c_3) iIn rfl 0 (by decide) rfl q380 rfl rfl d_Ck_operand_7 ?_
  refine lv_aload_n G.1 G.2.1 d_Ck_operand_10 rfl (lv_at hl 0 rfl) ?_
  refine ugf (v := .int (sV σ a0 11)) G hP h_a0 iCk rfl 11 (by decide) rfl q662 rfl rfl d_Ck_operand_11 ?_
  refine lv_iload_n G.1 G.2.1 d_Ck_operand_14 rfl (lv_at hl 1 rfl) ?_
  refine lv_iadd G.1 G.2.1 d_Ck_operand_15 ?_
  refine uiald G hP (kdp (lk_9_10 c_3) rfl) (typ (lk_9_10 c_3) rfl) h d_Ck_operand_16 (fun x_4 h => ?_)
  exact hret _ _ _ _ _ _ _ ls h hP hD hS (Nat.le_refl _) (Nat.le_refl _) d_Ck_operand_17
def y_Ck_frameWrong : MethodName := ⟨"ClassWorks$Checker", "frameWrong", "(I)Z"⟩
abbrev b_Ck_frameWrong : ByteArray := prog_2_method_9_code
theorem q854 : Cond.fieldLink "ClassWorks$Checker" 183 "ClassWorks$World" "extra" "LClassWorks$Ints;" ∈ lw_ok := lw_okmem (List.mem_of_getElem? (i := 854) (by decide +kernel)) rfl
theorem d_Ck_frameWrong_0 : decode b_Ck_frameWrong 0 = .ok (.aload_n 0, 1) := by decide +kernel
theorem d_Ck_frameWrong_1 : decode b_Ck_frameWrong 1 = .ok (.getfield 78, 3) := by decide +kernel
theorem d_Ck_frameWrong_4 : decode b_Ck_frameWrong 4 = .ok (.getfield 183, 3) := by decide +kernel
theorem d_Ck_frameWrong_7 : decode b_Ck_frameWrong 7 = .ok (.getfield 116, 3) := by decide +kernel
theorem d_Ck_frameWrong_10 : decode b_Ck_frameWrong 10 = .ok (.astore_n 2, 1) := by decide +kernel
theorem d_Ck_frameWrong_11 : decode b_Ck_frameWrong 11 = .ok (.aload_n 2, 1) := by decide +kernel
theorem d_Ck_frameWrong_12 : decode b_Ck_frameWrong 12 = .ok (.iload_n 1, 1) := by decide +kernel
theorem d_Ck_frameWrong_13 : decode b_Ck_frameWrong 13 = .ok (.iaload, 1) := by decide +kernel
theorem d_Ck_frameWrong_14 : decode b_Ck_frameWrong 14 = .ok (.istore_n 3, 1) := by decide +kernel
theorem d_Ck_frameWrong_15 : decode b_Ck_frameWrong 15 = .ok (.aload_n 2, 1) := by decide +kernel
theorem d_Ck_frameWrong_16 : decode b_Ck_frameWrong 16 = .ok (.iload_n 1, 1) := by decide +kernel
theorem d_Ck_frameWrong_17 : decode b_Ck_frameWrong 17 = .ok (.iconst 1, 1) := by decide +kernel
theorem d_Ck_frameWrong_18 : decode b_Ck_frameWrong 18 = .ok (.iadd, 1) := by decide +kernel
theorem d_Ck_frameWrong_19 : decode b_Ck_frameWrong 19 = .ok (.iload_n 3, 1) := by decide +kernel
theorem d_Ck_frameWrong_20 : decode b_Ck_frameWrong 20 = .ok (.iadd, 1) := by decide +kernel
theorem d_Ck_frameWrong_21 : decode b_Ck_frameWrong 21 = .ok (.iaload, 1) := by decide +kernel
theorem d_Ck_frameWrong_22 : decode b_Ck_frameWrong 22 = .ok (.istore 4, 2) := by decide +kernel
theorem d_Ck_frameWrong_24 : decode b_Ck_frameWrong 24 = .ok (.iload_n 3, 1) := by decide +kernel
theorem d_Ck_frameWrong_25 : decode b_Ck_frameWrong 25 = .ok (.aload_n 0, 1) := by decide +kernel
theorem d_Ck_frameWrong_26 : decode b_Ck_frameWrong 26 = .ok (.getfield 27, 3) := by decide +kernel
theorem d_Ck_frameWrong_29 : decode b_Ck_frameWrong 29 = .ok (.if_icmp .gt 12, 3) := by decide +kernel
theorem d_Ck_frameWrong_32 : decode b_Ck_frameWrong 32 = .ok (.iload 4, 2) := by decide +kernel
theorem d_Ck_frameWrong_34 : decode b_Ck_frameWrong 34 = .ok (.aload_n 0, 1) := by decide +kernel
theorem d_Ck_frameWrong_35 : decode b_Ck_frameWrong 35 = .ok (.getfield 30, 3) := by decide +kernel
theorem d_Ck_frameWrong_38 : decode b_Ck_frameWrong 38 = .ok (.if_icmp .le 5, 3) := by decide +kernel
theorem d_Ck_frameWrong_41 : decode b_Ck_frameWrong 41 = .ok (.iconst 1, 1) := by decide +kernel
theorem d_Ck_frameWrong_42 : decode b_Ck_frameWrong 42 = .ok (.ireturn, 1) := by decide +kernel
theorem d_Ck_frameWrong_43 : decode b_Ck_frameWrong 43 = .ok (.iconst 0, 1) := by decide +kernel
theorem d_Ck_frameWrong_44 : decode b_Ck_frameWrong 44 = .ok (.istore 5, 2) := by decide +kernel
theorem d_Ck_frameWrong_46 : decode b_Ck_frameWrong 46 = .ok (.iload 5, 2) := by decide +kernel
theorem d_Ck_frameWrong_48 : decode b_Ck_frameWrong 48 = .ok (.iload_n 3, 1) := by decide +kernel
theorem d_Ck_frameWrong_49 : decode b_Ck_frameWrong 49 = .ok (.iload 4, 2) := by decide +kernel
theorem d_Ck_frameWrong_51 : decode b_Ck_frameWrong 51 = .ok (.iadd, 1) := by decide +kernel
theorem d_Ck_frameWrong_52 : decode b_Ck_frameWrong 52 = .ok (.if_icmp .ge 63, 3) := by decide +kernel
theorem d_Ck_frameWrong_55 : decode b_Ck_frameWrong 55 = .ok (.iload 5, 2) := by decide +kernel
theorem d_Ck_frameWrong_57 : decode b_Ck_frameWrong 57 = .ok (.iload_n 3, 1) := by decide +kernel
theorem d_Ck_frameWrong_58 : decode b_Ck_frameWrong 58 = .ok (.if_icmp .ge 14, 3) := by decide +kernel
theorem d_Ck_frameWrong_61 : decode b_Ck_frameWrong 61 = .ok (.aload_n 2, 1) := by decide +kernel
theorem d_Ck_frameWrong_62 : decode b_Ck_frameWrong 62 = .ok (.iload_n 1, 1) := by decide +kernel
theorem d_Ck_frameWrong_63 : decode b_Ck_frameWrong 63 = .ok (.iconst 1, 1) := by decide +kernel
theorem d_Ck_frameWrong_64 : decode b_Ck_frameWrong 64 = .ok (.iadd, 1) := by decide +kernel
theorem d_Ck_frameWrong_65 : decode b_Ck_frameWrong 65 = .ok (.iload 5, 2) := by decide +kernel
theorem d_Ck_frameWrong_67 : decode b_Ck_frameWrong 67 = .ok (.iadd, 1) := by decide +kernel
theorem d_Ck_frameWrong_68 : decode b_Ck_frameWrong 68 = .ok (.iaload, 1) := by decide +kernel
theorem d_Ck_frameWrong_69 : decode b_Ck_frameWrong 69 = .ok (.goto 11, 3) := by decide +kernel
theorem d_Ck_frameWrong_72 : decode b_Ck_frameWrong 72 = .ok (.aload_n 2, 1) := by decide +kernel
theorem d_Ck_frameWrong_73 : decode b_Ck_frameWrong 73 = .ok (.iload_n 1, 1) := by decide +kernel
theorem d_Ck_frameWrong_74 : decode b_Ck_frameWrong 74 = .ok (.iconst 2, 1) := by decide +kernel
theorem d_Ck_frameWrong_75 : decode b_Ck_frameWrong 75 = .ok (.iadd, 1) := by decide +kernel
theorem d_Ck_frameWrong_76 : decode b_Ck_frameWrong 76 = .ok (.iload 5, 2) := by decide +kernel
theorem d_Ck_frameWrong_78 : decode b_Ck_frameWrong 78 = .ok (.iadd, 1) := by decide +kernel
theorem d_Ck_frameWrong_79 : decode b_Ck_frameWrong 79 = .ok (.iaload, 1) := by decide +kernel
theorem d_Ck_frameWrong_80 : decode b_Ck_frameWrong 80 = .ok (.istore 6, 2) := by decide +kernel
theorem d_Ck_frameWrong_82 : decode b_Ck_frameWrong 82 = .ok (.iload 6, 2) := by decide +kernel
theorem d_Ck_frameWrong_84 : decode b_Ck_frameWrong 84 = .ok (.iconst 4, 1) := by decide +kernel
theorem d_Ck_frameWrong_85 : decode b_Ck_frameWrong 85 = .ok (.if_icmp .ne 10, 3) := by decide +kernel
theorem d_Ck_frameWrong_88 : decode b_Ck_frameWrong 88 = .ok (.aload_n 0, 1) := by decide +kernel
theorem d_Ck_frameWrong_89 : decode b_Ck_frameWrong 89 = .ok (.getfield 36, 3) := by decide +kernel
theorem d_Ck_frameWrong_92 : decode b_Ck_frameWrong 92 = .ok (.ifCond .eq 15, 3) := by decide +kernel
theorem d_Ck_frameWrong_95 : decode b_Ck_frameWrong 95 = .ok (.iload 6, 2) := by decide +kernel
theorem d_Ck_frameWrong_97 : decode b_Ck_frameWrong 97 = .ok (.iconst 3, 1) := by decide +kernel
theorem d_Ck_frameWrong_98 : decode b_Ck_frameWrong 98 = .ok (.if_icmp .ne 11, 3) := by decide +kernel
theorem d_Ck_frameWrong_101 : decode b_Ck_frameWrong 101 = .ok (.iload 5, 2) := by decide +kernel
theorem d_Ck_frameWrong_103 : decode b_Ck_frameWrong 103 = .ok (.iload_n 3, 1) := by decide +kernel
theorem d_Ck_frameWrong_104 : decode b_Ck_frameWrong 104 = .ok (.if_icmp .lt 5, 3) := by decide +kernel
theorem d_Ck_frameWrong_107 : decode b_Ck_frameWrong 107 = .ok (.iconst 1, 1) := by decide +kernel
theorem d_Ck_frameWrong_108 : decode b_Ck_frameWrong 108 = .ok (.ireturn, 1) := by decide +kernel
theorem d_Ck_frameWrong_109 : decode b_Ck_frameWrong 109 = .ok (.iinc 5 1, 3) := by decide +kernel
theorem d_Ck_frameWrong_112 : decode b_Ck_frameWrong 112 = .ok (.goto (-66), 3) := by decide +kernel
theorem d_Ck_frameWrong_115 : decode b_Ck_frameWrong 115 = .ok (.iconst 0, 1) := by decide +kernel
theorem d_Ck_frameWrong_116 : decode b_Ck_frameWrong 116 = .ok (.ireturn, 1) := by decide +kernel
abbrev ru_Ck_frameWrong : Room := { frames := 0, cells := 0, slots := 0, locals := 0 }
def wj_Ck_frameWrong_41 (y : Ly) (Post : St → Int32 → Prop) (a0 : Nat) (s_j41 : St) : Prop := (nb 1 ∧ Post s_j41 1)
def wj_Ck_frameWrong_107 (y : Ly) (Post : St → Int32 → Prop) (a0 : Nat) (s_j107 : St) : Prop := (nb 1 ∧ Post s_j107 1)
def wj_Ck_frameWrong_109 (y : Ly) (Post : St → Int32 → Prop) (K_46 : St → Int32 → Nat → Nat → Int32 → Int32 → Int32 → Prop) (a0 : Nat) (s_j109 : St) (x1j109 : Int32) (x2j109 : Nat) (x2j109k : Nat) (x3j109 : Int32) (x4j109 : Int32) (x5j109 : Int32) : Prop := (kd (cl x2j109) x2j109k = 2 ∧ tyx (cl x2j109) x2j109k = 0) ∧ K_46 s_j109 x1j109 x2j109 x2j109k x3j109 x4j109 (x5j109 + 1)
def wj_Ck_frameWrong_95 (y : Ly) (Post : St → Int32 → Prop) (K_46 : St → Int32 → Nat → Nat → Int32 → Int32 → Int32 → Prop) (a0 : Nat) (s_j95 : St) (x1j95 : Int32) (x2j95 : Nat) (x2j95k : Nat) (x3j95 : Int32) (x4j95 : Int32) (x5j95 : Int32) (x6j95 : Int32) : Prop := (kd (cl x2j95) x2j95k = 2 ∧ tyx (cl x2j95) x2j95k = 0) ∧ ((¬ x6j95 = 3 → wj_Ck_frameWrong_109 y Post K_46 a0 s_j95 x1j95 x2j95 x2j95k x3j95 x4j95 x5j95) ∧ (x6j95 = 3 → ((x5j95 < x3j95 → wj_Ck_frameWrong_109 y Post K_46 a0 s_j95 x1j95 x2j95 x2j95k x3j95 x4j95 x5j95) ∧ (¬ (x5j95 < x3j95) → wj_Ck_frameWrong_107 y Post a0 s_j95))))
def wj_Ck_frameWrong_80 (y : Ly) (Post : St → Int32 → Prop) (K_46 : St → Int32 → Nat → Nat → Int32 → Int32 → Int32 → Prop) (a0 : Nat) (s_j80 : St) (x1j80 : Int32) (x2j80 : Nat) (x2j80k : Nat) (x3j80 : Int32) (x4j80 : Int32) (x5j80 : Int32) (z0j80 : Int32) : Prop := (kd (cl x2j80) x2j80k = 2 ∧ tyx (cl x2j80) x2j80k = 0) ∧ ((¬ z0j80 = 4 → wj_Ck_frameWrong_95 y Post K_46 a0 s_j80 x1j80 x2j80 x2j80k x3j80 x4j80 x5j80 z0j80) ∧ (z0j80 = 4 → (((sV s_j80 a0 10) = 0 → wj_Ck_frameWrong_107 y Post a0 s_j80) ∧ (¬ ((sV s_j80 a0 10) = 0) → wj_Ck_frameWrong_95 y Post K_46 a0 s_j80 x1j80 x2j80 x2j80k x3j80 x4j80 x5j80 z0j80))))
def wb_Ck_frameWrong_46 (y : Ly) (Post : St → Int32 → Prop) (K_46 : St → Int32 → Nat → Nat → Int32 → Int32 → Int32 → Prop) (a0 : Nat) (s_h46 : St) (x1h46 : Int32) (x2h46 : Nat) (x2h46k : Nat) (x3h46 : Int32) (x4h46 : Int32) (x5h46 : Int32) : Prop := (kd (cl x2h46) x2h46k = 2 ∧ tyx (cl x2h46) x2h46k = 0) ∧ (((x3h46 + x4h46) ≤ x5h46 → (nb 0 ∧ Post s_h46 0)) ∧ (¬ ((x3h46 + x4h46) ≤ x5h46) → ((x3h46 ≤ x5h46 → xA y s_h46 x2h46 x2h46k ((x1h46 + 2) + x5h46) (fun x_6 : Int32 => wj_Ck_frameWrong_80 y Post K_46 a0 s_h46 x1h46 x2h46 x2h46k x3h46 x4h46 x5h46 x_6)) ∧ (¬ (x3h46 ≤ x5h46) → xA y s_h46 x2h46 x2h46k ((x1h46 + 1) + x5h46) (fun x_7 : Int32 => wj_Ck_frameWrong_80 y Post K_46 a0 s_h46 x1h46 x2h46 x2h46k x3h46 x4h46 x5h46 x_7)))))
def wl_Ck_frameWrong_46 (y : Ly) (Post : St → Int32 → Prop) (a0 : Nat) (s_h46 : St) (x1h46 : Int32) (x2h46 : Nat) (x2h46k : Nat) (x3h46 : Int32) (x4h46 : Int32) (x5h46 : Int32) : Prop := ∃ (I : St → Int32 → Nat → Nat → Int32 → Int32 → Int32 → Prop) (μ : St → Int32 → Nat → Nat → Int32 → Int32 → Int32 → Nat), I s_h46 x1h46 x2h46 x2h46k x3h46 x4h46 x5h46 ∧ ∀ (u : St) (t0 : Int32) (t1 : Nat) (t2 : Nat) (t3 : Int32) (t4 : Int32) (t5 : Int32), I u t0 t1 t2 t3 t4 t5 → wb_Ck_frameWrong_46 y Post (fun z t0q t1q t2q t3q t4q t5q => I z t0q t1q t2q t3q t4q t5q ∧ μ z t0q t1q t2q t3q t4q t5q < μ u t0 t1 t2 t3 t4 t5) a0 u t0 t1 t2 t3 t4 t5
def wu_Ck_frameWrong (y : Ly) (Post : St → Int32 → Prop) (σ : St) (a0 : Nat) (v1 : Int32) : Prop := ∃ b_1 : Nat, sO σ a0 3 = some b_1 ∧ cl b_1 = 9 ∧ xA y σ (lk b_1 12) 0 v1 (fun x_4 : Int32 => xA y σ (lk b_1 12) 0 ((v1 + 1) + x_4) (fun x_5 : Int32 => (((sV σ a0 7) < x_4 → wj_Ck_frameWrong_41 y Post a0 σ) ∧ (¬ ((sV σ a0 7) < x_4) → ((x_5 ≤ (sV σ a0 8) → wl_Ck_frameWrong_46 y Post a0 σ v1 (lk b_1 12) 0 x_4 x_5 0) ∧ (¬ (x_5 ≤ (sV σ a0 8)) → wj_Ck_frameWrong_41 y Post a0 σ))))))
set_option maxHeartbeats 4000000 in
set_option maxRecDepth 100000 in
theorem cu_Ck_frameWrong (l : Launch) (D : va_G) (g : Nat → ClassId) (ad : Nat → Nat) (y : Ly) (Post : St → Int32 → Prop) (σ : St) (a0 : Nat) (v1 : Int32) (sz : Nat) (h_a0 : cl a0 = 0) (h : wu_Ck_frameWrong y Post σ a0 v1) : Met l y_Ck_frameWrong (mw y_Ck_frameWrong b_Ck_frameWrong 7 (some (.boolean))) ru_Ck_frameWrong (PC g D [] [.ref (ad a0), .int v1] sz (ws g ad y σ)) (va_Qi (fun (r : Int32) (u : St) => Post u r) (QW D (va_A (ws g ad y σ) sz) (fun u => ws g ad y u)) (va_A (ws g ad y σ) sz)) 0 0 (va_A (ws g ad y σ) sz) := by
  refine ofZ (by decide +kernel) (Nat.le_of_ble_eq_true rfl) ?_
  intro p e s m args below meth c A Q ls H locs G hsz hP hD hS hl hret
  subst hsz
  have hl : lv_has ls 7 [(0, .ref (ad a0)), (1, .int v1)] := hl
  unfold wu_Ck_frameWrong at h
  refine lv_aload_n G.1 G.2.1 d_Ck_frameWrong_0 rfl (lv_at hl 0 rfl) ?_
  obtain ⟨b_1, e_2, c_3, h⟩ := h
  refine ugf (v := .ref (ad b_1)) G hP h_a0 iCk rfl 3 (by decide) rfl q654 rfl (by show va_rf ((sO σ a0 3).map ad) = _; rw [e_2]; rfl) d_Ck_frameWrong_1 ?_
  refine ugf (v := .ref (ad (lk b_1 12))) G hP c_3 iWd rfl 12 (by decide) rfl q854 rfl rfl d_Ck_frameWrong_4 ?_
  refine ugf (v := .ref (yP y (lk b_1 12) 0)) G hP (lk_9_12 c_3) iIn rfl 0 (by decide) rfl q380 rfl rfl d_Ck_frameWrong_7 ?_
  refine lv_astore_n (lv' := [(2, .ref (yP y (lk b_1 12) 0)), (0, .ref (ad a0)), (1, .int v1)]) G.1 G.2.1 d_Ck_frameWrong_10 rfl hl (by decide) rfl (fun ls hl => ?_)
  refine lv_aload_n G.1 G.2.1 d_Ck_frameWrong_11 rfl (lv_at hl 0 rfl) ?_
  refine lv_iload_n G.1 G.2.1 d_Ck_frameWrong_12 rfl (lv_at hl 2 rfl) ?_
  refine uiald G hP (kdp (lk_9_12 c_3) rfl) (typ (lk_9_12 c_3) rfl) h d_Ck_frameWrong_13 (fun x_4 h => ?_)
  refine lv_istore_n (lv' := [(3, .int x_4), (2, .ref (yP y (lk b_1 12) 0)), (0, .ref (ad a0)), (1, .int v1)]) G.1 G.2.1 d_Ck_frameWrong_14 rfl hl (by decide) rfl (fun ls hl => ?_)
  refine lv_aload_n G.1 G.2.1 d_Ck_frameWrong_15 rfl (lv_at hl 1 rfl) ?_
  refine lv_iload_n G.1 G.2.1 d_Ck_frameWrong_16 rfl (lv_at hl 3 rfl) ?_
  refine W.eq (g2 := F0 m 17 ls [.int v1, .ref (yP y (lk b_1 12) 0)]) rfl ?_
  refine lv_iconst (v := 1) G.1 G.2.1 d_Ck_frameWrong_17 (by decide) ?_
  refine lv_iadd G.1 G.2.1 d_Ck_frameWrong_18 ?_
  refine lv_iload_n G.1 G.2.1 d_Ck_frameWrong_19 rfl (lv_at hl 0 rfl) ?_
  refine lv_iadd G.1 G.2.1 d_Ck_frameWrong_20 ?_
  refine uiald G hP (kdp (lk_9_12 c_3) rfl) (typ (lk_9_12 c_3) rfl) h d_Ck_frameWrong_21 (fun x_5 h => ?_)
  refine lv_istore (lv' := [(4, .int x_5), (3, .int x_4), (2, .ref (yP y (lk b_1 12) 0)), (0, .ref (ad a0)), (1, .int v1)]) G.1 G.2.1 d_Ck_frameWrong_22 hl (by decide) rfl (fun ls hl => ?_)
  refine lv_iload_n G.1 G.2.1 d_Ck_frameWrong_24 rfl (lv_at hl 1 rfl) ?_
  refine lv_aload_n G.1 G.2.1 d_Ck_frameWrong_25 rfl (lv_at hl 3 rfl) ?_
  refine ugf (v := .int (sV σ a0 7)) G hP h_a0 iCk rfl 7 (by decide) rfl q658 rfl rfl d_Ck_frameWrong_26 ?_
  have J_41 : ∀ (s_j41 : St) (H : Heap) (locs : List Loc), wj_Ck_frameWrong_41 y Post a0 s_j41 → va_P D CL (ws g ad y s_j41) H → va_D A (ws g ad y s_j41) → va_S A s.heap H locs → ∀ ls, lv_has ls 7 [] → W p l e ru_Ck_frameWrong s m args below meth c H locs 0 0 Q (F0 m 41 ls []) := by
    intro s_j41 H locs h hP hD hS ls hl
    unfold wj_Ck_frameWrong_41 at h
    refine lv_iconst (v := 1) G.1 G.2.1 d_Ck_frameWrong_41 (by decide) ?_
    exact hret _ _ _ _ _ _ _ ls (nb_n h.1) h.2 hP hD hS (Nat.le_refl _) (Nat.le_refl _) d_Ck_frameWrong_42
  refine lv_icmp_gt (tgt := 41) G.1 G.2.1 d_Ck_frameWrong_29 (by decide) (fun c29 => ?_) (fun c29 => ?_)
  · skip
    have h := h.1 c29
    exact J_41 σ H locs h hP hD hS ls (lv_sub hl [] rfl)
  · skip
    have h := h.2 c29
    refine lv_iload G.1 G.2.1 d_Ck_frameWrong_32 (lv_at hl 0 rfl) ?_
    refine lv_aload_n G.1 G.2.1 d_Ck_frameWrong_34 rfl (lv_at hl 3 rfl) ?_
    refine W.eq (g2 := F0 m 35 ls [.ref (ad a0), .int x_5]) rfl ?_
    refine ugf (v := .int (sV σ a0 8)) G hP h_a0 iCk rfl 8 (by decide) rfl q659 rfl rfl d_Ck_frameWrong_35 ?_
    refine lv_icmp_le (tgt := 43) G.1 G.2.1 d_Ck_frameWrong_38 (by decide) (fun c38 => ?_) (fun c38 => ?_)
    · skip
      have h := h.1 c38
      refine lv_iconst (v := 0) G.1 G.2.1 d_Ck_frameWrong_43 (by decide) ?_
      refine lv_istore (lv' := [(5, .int 0), (4, .int x_5), (3, .int x_4), (2, .ref (yP y (lk b_1 12) 0)), (0, .ref (ad a0)), (1, .int v1)]) G.1 G.2.1 d_Ck_frameWrong_44 hl (by decide) rfl (fun ls hl => ?_)
      unfold wl_Ck_frameWrong_46 at h
      obtain ⟨I_46, μ_46, hI_46, hB_46⟩ := h
      have L_46 : ∀ (n_46 : Nat) (s_h46 : St) (x1h46 : Int32) (x2h46 : Nat) (x2h46k : Nat) (x3h46 : Int32) (x4h46 : Int32) (x5h46 : Int32), μ_46 s_h46 x1h46 x2h46 x2h46k x3h46 x4h46 x5h46 < n_46 → I_46 s_h46 x1h46 x2h46 x2h46k x3h46 x4h46 x5h46 → ∀ (H : Heap) (locs : List Loc), va_P D CL (ws g ad y s_h46) H → va_D A (ws g ad y s_h46) → va_S A s.heap H locs → ∀ ls, lv_has ls 7 [(0, .ref (ad a0)), (1, .int x1h46), (2, .ref (yP y x2h46 x2h46k)), (3, .int x3h46), (4, .int x4h46), (5, .int x5h46)] → W p l e ru_Ck_frameWrong s m args below meth c H locs 0 0 Q (F0 m 46 ls []) := by
        intro n_46
        induction n_46 with
        | zero => intro s_h46 x1h46 x2h46 x2h46k x3h46 x4h46 x5h46 hμ; exact absurd hμ (Nat.not_lt_zero _)
        | succ n_46 ih_46 =>
          intro s_h46 x1h46 x2h46 x2h46k x3h46 x4h46 x5h46 hμ_46 hJ H locs hP hD hS ls hl
          obtain ⟨K_46, hK_46, h⟩ : ∃ K : St → Int32 → Nat → Nat → Int32 → Int32 → Int32 → Prop, (∀ z (t0 : Int32) (t1 : Nat) (t2 : Nat) (t3 : Int32) (t4 : Int32) (t5 : Int32), K z t0 t1 t2 t3 t4 t5 → I_46 z t0 t1 t2 t3 t4 t5 ∧ μ_46 z t0 t1 t2 t3 t4 t5 < μ_46 s_h46 x1h46 x2h46 x2h46k x3h46 x4h46 x5h46) ∧ wb_Ck_frameWrong_46 y Post K a0 s_h46 x1h46 x2h46 x2h46k x3h46 x4h46 x5h46 := ⟨_, fun _ _ _ _ _ _ _ h => h, hB_46 s_h46 x1h46 x2h46 x2h46k x3h46 x4h46 x5h46 hJ⟩
          unfold wb_Ck_frameWrong_46 at h
          obtain ⟨c_x2h46, h⟩ := h
          refine lv_iload G.1 G.2.1 d_Ck_frameWrong_46 (lv_at hl 5 rfl) ?_
          refine lv_iload_n G.1 G.2.1 d_Ck_frameWrong_48 rfl (lv_at hl 3 rfl) ?_
          refine lv_iload G.1 G.2.1 d_Ck_frameWrong_49 (lv_at hl 4 rfl) ?_
          refine lv_iadd G.1 G.2.1 d_Ck_frameWrong_51 ?_
          refine lv_icmp_ge (tgt := 115) G.1 G.2.1 d_Ck_frameWrong_52 (by decide) (fun c52 => ?_) (fun c52 => ?_)
          · skip
            have h := h.1 c52
            refine lv_iconst (v := 0) G.1 G.2.1 d_Ck_frameWrong_115 (by decide) ?_
            exact hret _ _ _ _ _ _ _ ls (nb_n h.1) h.2 hP hD hS (Nat.le_refl _) (Nat.le_refl _) d_Ck_frameWrong_116
          · skip
            have h := h.2 c52
            refine lv_iload G.1 G.2.1 d_Ck_frameWrong_55 (lv_at hl 5 rfl) ?_
            refine lv_iload_n G.1 G.2.1 d_Ck_frameWrong_57 rfl (lv_at hl 3 rfl) ?_
            have J_80 : ∀ (s_j80 : St) (x1j80 : Int32) (x2j80 : Nat) (x2j80k : Nat) (x3j80 : Int32) (x4j80 : Int32) (x5j80 : Int32) (z0j80 : Int32) (H : Heap) (locs : List Loc), wj_Ck_frameWrong_80 y Post K_46 a0 s_j80 x1j80 x2j80 x2j80k x3j80 x4j80 x5j80 z0j80 → va_P D CL (ws g ad y s_j80) H → va_D A (ws g ad y s_j80) → va_S A s.heap H locs → ∀ ls, lv_has ls 7 [(0, .ref (ad a0)), (1, .int x1j80), (2, .ref (yP y x2j80 x2j80k)), (3, .int x3j80), (4, .int x4j80), (5, .int x5j80)] → W p l e ru_Ck_frameWrong s m args below meth c H locs 0 0 Q (F0 m 80 ls [.int z0j80]) := by
              intro s_j80 x1j80 x2j80 x2j80k x3j80 x4j80 x5j80 z0j80 H locs h hP hD hS ls hl
              unfold wj_Ck_frameWrong_80 at h
              obtain ⟨c_x2j80, h⟩ := h
              refine lv_istore (lv' := [(6, .int z0j80), (0, .ref (ad a0)), (1, .int x1j80), (2, .ref (yP y x2j80 x2j80k)), (3, .int x3j80), (4, .int x4j80), (5, .int x5j80)]) G.1 G.2.1 d_Ck_frameWrong_80 hl (by decide) rfl (fun ls hl => ?_)
              refine lv_iload G.1 G.2.1 d_Ck_frameWrong_82 (lv_at hl 0 rfl) ?_
              refine lv_iconst (v := 4) G.1 G.2.1 d_Ck_frameWrong_84 (by decide) ?_
              have J_107 : ∀ (s_j107 : St) (H : Heap) (locs : List Loc), wj_Ck_frameWrong_107 y Post a0 s_j107 → va_P D CL (ws g ad y s_j107) H → va_D A (ws g ad y s_j107) → va_S A s.heap H locs → ∀ ls, lv_has ls 7 [] → W p l e ru_Ck_frameWrong s m args below meth c H locs 0 0 Q (F0 m 107 ls []) := by
                intro s_j107 H locs h hP hD hS ls hl
                unfold wj_Ck_frameWrong_107 at h
                refine lv_iconst (v := 1) G.1 G.2.1 d_Ck_frameWrong_107 (by decide) ?_
                exact hret _ _ _ _ _ _ _ ls (nb_n h.1) h.2 hP hD hS (Nat.le_refl _) (Nat.le_refl _) d_Ck_frameWrong_108
              have J_95 : ∀ (s_j95 : St) (x1j95 : Int32) (x2j95 : Nat) (x2j95k : Nat) (x3j95 : Int32) (x4j95 : Int32) (x5j95 : Int32) (x6j95 : Int32) (H : Heap) (locs : List Loc), wj_Ck_frameWrong_95 y Post K_46 a0 s_j95 x1j95 x2j95 x2j95k x3j95 x4j95 x5j95 x6j95 → va_P D CL (ws g ad y s_j95) H → va_D A (ws g ad y s_j95) → va_S A s.heap H locs → ∀ ls, lv_has ls 7 [(0, .ref (ad a0)), (1, .int x1j95), (2, .ref (yP y x2j95 x2j95k)), (3, .int x3j95), (4, .int x4j95), (5, .int x5j95), (6, .int x6j95)] → W p l e ru_Ck_frameWrong s m args below meth c H locs 0 0 Q (F0 m 95 ls []) := by
                intro s_j95 x1j95 x2j95 x2j95k x3j95 x4j95 x5j95 x6j95 H locs h hP hD hS ls hl
                unfold wj_Ck_frameWrong_95 at h
                obtain ⟨c_x2j95, h⟩ := h
                refine lv_iload G.1 G.2.1 d_Ck_frameWrong_95 (lv_at hl 6 rfl) ?_
                refine lv_iconst (v := 3) G.1 G.2.1 d_Ck_frameWrong_97 (by decide) ?_
                have J_109 : ∀ (s_j109 : St) (x1j109 : Int32) (x2j109 : Nat) (x2j109k : Nat) (x3j109 : Int32) (x4j109 : Int32) (x5j109 : Int32) (H : Heap) (locs : List Loc), wj_Ck_frameWrong_109 y Post K_46 a0 s_j109 x1j109 x2j109 x2j109k x3j109 x4j109 x5j109 → va_P D CL (ws g ad y s_j109) H → va_D A (ws g ad y s_j109) → va_S A s.heap H locs → ∀ ls, lv_has ls 7 [(0, .ref (ad a0)), (1, .int x1j109), (2, .ref (yP y x2j109 x2j109k)), (3, .int x3j109), (4, .int x4j109), (5, .int x5j109)] → W p l e ru_Ck_frameWrong s m args below meth c H locs 0 0 Q (F0 m 109 ls []) := by
                  intro s_j109 x1j109 x2j109 x2j109k x3j109 x4j109 x5j109 H locs h hP hD hS ls hl
                  unfold wj_Ck_frameWrong_109 at h
                  obtain ⟨c_x2j109, h⟩ := h
                  refine lv_iinc (v := x5j109 + 1) (lv' := [(5, .int (x5j109 + 1)), (0, .ref (ad a0)), (1, .int x1j109), (2, .ref (yP y x2j109 x2j109k)), (3, .int x3j109), (4, .int x4j109)]) G.1 G.2.1 d_Ck_frameWrong_109 hl (k := 5) rfl rfl (by decide) rfl (fun ls hl => ?_)
                  refine lv_goto (tgt := 46) G.1 G.2.1 d_Ck_frameWrong_112 (by decide) ?_
                  have h := hK_46 s_j109 x1j109 x2j109 x2j109k x3j109 x4j109 (x5j109 + 1) h
                  exact ih_46 s_j109 x1j109 x2j109 x2j109k x3j109 x4j109 (x5j109 + 1) (Nat.lt_of_lt_of_le h.2 (Nat.le_of_lt_succ hμ_46)) h.1 H locs hP hD hS ls (lv_sub hl [1, 2, 3, 4, 5, 0] rfl)
                refine lv_icmp_ne (tgt := 109) G.1 G.2.1 d_Ck_frameWrong_98 (by decide) (fun c98 => ?_) (fun c98 => ?_)
                · skip
                  have h := h.1 c98
                  exact J_109 s_j95 x1j95 x2j95 x2j95k x3j95 x4j95 x5j95 H locs h hP hD hS ls (lv_sub hl [0, 1, 2, 3, 4, 5] rfl)
                · skip
                  have h := h.2 c98
                  refine lv_iload G.1 G.2.1 d_Ck_frameWrong_101 (lv_at hl 5 rfl) ?_
                  refine lv_iload_n G.1 G.2.1 d_Ck_frameWrong_103 rfl (lv_at hl 3 rfl) ?_
                  refine lv_icmp_lt (tgt := 109) G.1 G.2.1 d_Ck_frameWrong_104 (by decide) (fun c104 => ?_) (fun c104 => ?_)
                  · skip
                    have h := h.1 c104
                    exact J_109 s_j95 x1j95 x2j95 x2j95k x3j95 x4j95 x5j95 H locs h hP hD hS ls (lv_sub hl [0, 1, 2, 3, 4, 5] rfl)
                  · skip
                    have h := h.2 c104
                    exact J_107 s_j95 H locs h hP hD hS ls (lv_sub hl [] rfl)
              refine lv_icmp_ne (tgt := 95) G.1 G.2.1 d_Ck_frameWrong_85 (by decide) (fun c85 => ?_) (fun c85 => ?_)
              · skip
                have h := h.1 c85
                exact J_95 s_j80 x1j80 x2j80 x2j80k x3j80 x4j80 x5j80 z0j80 H locs h hP hD hS ls (lv_sub hl [1, 2, 3, 4, 5, 6, 0] rfl)
              · skip
                have h := h.2 c85
                refine lv_aload_n G.1 G.2.1 d_Ck_frameWrong_88 rfl (lv_at hl 1 rfl) ?_
                refine ugf (v := .int (sV s_j80 a0 10)) G hP h_a0 iCk rfl 10 (by decide) rfl q661 rfl rfl d_Ck_frameWrong_89 ?_
                refine lv_if_eq (tgt := 107) G.1 G.2.1 d_Ck_frameWrong_92 (by decide) (fun c92 => ?_) (fun c92 => ?_)
                · skip
                  have h := h.1 c92
                  exact J_107 s_j80 H locs h hP hD hS ls (lv_sub hl [] rfl)
                · skip
                  have h := h.2 c92
                  exact J_95 s_j80 x1j80 x2j80 x2j80k x3j80 x4j80 x5j80 z0j80 H locs h hP hD hS ls (lv_sub hl [1, 2, 3, 4, 5, 6, 0] rfl)
            refine lv_icmp_ge (tgt := 72) G.1 G.2.1 d_Ck_frameWrong_58 (by decide) (fun c58 => ?_) (fun c58 => ?_)
            · skip
              have h := h.1 c58
              refine lv_aload_n G.1 G.2.1 d_Ck_frameWrong_72 rfl (lv_at hl 2 rfl) ?_
              refine lv_iload_n G.1 G.2.1 d_Ck_frameWrong_73 rfl (lv_at hl 1 rfl) ?_
              refine lv_iconst (v := 2) G.1 G.2.1 d_Ck_frameWrong_74 (by decide) ?_
              refine W.eq (g2 := F0 m 75 ls [.int 2, .int x1h46, .ref (yP y x2h46 x2h46k)]) rfl ?_
              refine lv_iadd G.1 G.2.1 d_Ck_frameWrong_75 ?_
              refine lv_iload G.1 G.2.1 d_Ck_frameWrong_76 (lv_at hl 5 rfl) ?_
              refine lv_iadd G.1 G.2.1 d_Ck_frameWrong_78 ?_
              refine uiald G hP c_x2h46.1 c_x2h46.2 h d_Ck_frameWrong_79 (fun x_6 h => ?_)
              exact J_80 s_h46 x1h46 x2h46 x2h46k x3h46 x4h46 x5h46 x_6 H locs h hP hD hS ls (lv_sub hl [0, 1, 2, 3, 4, 5] rfl)
            · skip
              have h := h.2 c58
              refine lv_aload_n G.1 G.2.1 d_Ck_frameWrong_61 rfl (lv_at hl 2 rfl) ?_
              refine lv_iload_n G.1 G.2.1 d_Ck_frameWrong_62 rfl (lv_at hl 1 rfl) ?_
              refine lv_iconst (v := 1) G.1 G.2.1 d_Ck_frameWrong_63 (by decide) ?_
              refine W.eq (g2 := F0 m 64 ls [.int 1, .int x1h46, .ref (yP y x2h46 x2h46k)]) rfl ?_
              refine lv_iadd G.1 G.2.1 d_Ck_frameWrong_64 ?_
              refine lv_iload G.1 G.2.1 d_Ck_frameWrong_65 (lv_at hl 5 rfl) ?_
              refine lv_iadd G.1 G.2.1 d_Ck_frameWrong_67 ?_
              refine uiald G hP c_x2h46.1 c_x2h46.2 h d_Ck_frameWrong_68 (fun x_7 h => ?_)
              refine lv_goto (tgt := 80) G.1 G.2.1 d_Ck_frameWrong_69 (by decide) ?_
              exact J_80 s_h46 x1h46 x2h46 x2h46k x3h46 x4h46 x5h46 x_7 H locs h hP hD hS ls (lv_sub hl [0, 1, 2, 3, 4, 5] rfl)
      exact L_46 _ σ v1 (lk b_1 12) 0 x_4 x_5 0 (Nat.lt_succ_self _) hI_46 H locs hP hD hS ls (lv_sub hl [4, 5, 3, 2, 1, 0] rfl)
    · skip
      have h := h.2 c38
      exact J_41 σ H locs h hP hD hS ls (lv_sub hl [] rfl)
