def y_Mo_isRef : MethodName := ⟨"ClassWorksModel", "isRef", "(I)Z"⟩
abbrev b_Mo_isRef : ByteArray := prog_14_method_60_code
theorem d_Mo_isRef_0 : decode b_Mo_isRef 0 = .ok (.iload_n 0, 1) := by decide +kernel
theorem d_Mo_isRef_1 : decode b_Mo_isRef 1 = .ok (.iconst 3, 1) := by decide +kernel
theorem d_Mo_isRef_2 : decode b_Mo_isRef 2 = .ok (.if_icmp .eq 14, 3) := by decide +kernel
theorem d_Mo_isRef_5 : decode b_Mo_isRef 5 = .ok (.iload_n 0, 1) := by decide +kernel
theorem d_Mo_isRef_6 : decode b_Mo_isRef 6 = .ok (.iconst 2, 1) := by decide +kernel
theorem d_Mo_isRef_7 : decode b_Mo_isRef 7 = .ok (.if_icmp .eq 9, 3) := by decide +kernel
theorem d_Mo_isRef_10 : decode b_Mo_isRef 10 = .ok (.iload_n 0, 1) := by decide +kernel
theorem d_Mo_isRef_11 : decode b_Mo_isRef 11 = .ok (.bipush 16, 2) := by decide +kernel
theorem d_Mo_isRef_13 : decode b_Mo_isRef 13 = .ok (.if_icmp .lt 7, 3) := by decide +kernel
theorem d_Mo_isRef_16 : decode b_Mo_isRef 16 = .ok (.iconst 1, 1) := by decide +kernel
theorem d_Mo_isRef_17 : decode b_Mo_isRef 17 = .ok (.goto 4, 3) := by decide +kernel
theorem d_Mo_isRef_20 : decode b_Mo_isRef 20 = .ok (.iconst 0, 1) := by decide +kernel
theorem d_Mo_isRef_21 : decode b_Mo_isRef 21 = .ok (.ireturn, 1) := by decide +kernel
abbrev ru_Mo_isRef : Room := { frames := 0, cells := 0, slots := 0, locals := 0 }
def wj_Mo_isRef_21 (y : Ly) (Post : St → Int32 → Prop) (s_j21 : St) (z0j21 : Int32) : Prop := (nb z0j21 ∧ Post s_j21 z0j21)
def wj_Mo_isRef_16 (y : Ly) (Post : St → Int32 → Prop) (s_j16 : St) : Prop := wj_Mo_isRef_21 y Post s_j16 1
def wu_Mo_isRef (y : Ly) (Post : St → Int32 → Prop) (σ : St) (v0 : Int32) : Prop := ((v0 = 3 → wj_Mo_isRef_16 y Post σ) ∧ (¬ (v0 = 3) → ((v0 = 2 → wj_Mo_isRef_16 y Post σ) ∧ (¬ (v0 = 2) → ((v0 < 16 → wj_Mo_isRef_21 y Post σ 0) ∧ (¬ (v0 < 16) → wj_Mo_isRef_16 y Post σ))))))
set_option maxHeartbeats 4000000 in
set_option maxRecDepth 100000 in
theorem cu_Mo_isRef (l : Launch) (D : va_G) (g : Nat → ClassId) (ad : Nat → Nat) (y : Ly) (Post : St → Int32 → Prop) (σ : St) (v0 : Int32) (sz : Nat) (h : wu_Mo_isRef y Post σ v0) : Met l y_Mo_isRef (mw y_Mo_isRef b_Mo_isRef 1 (some (.boolean))) ru_Mo_isRef (PC g D [] [.int v0] sz (ws g ad y σ)) (va_Qi (fun (r : Int32) (u : St) => Post u r) (QW D (va_A (ws g ad y σ) sz) (fun u => ws g ad y u)) (va_A (ws g ad y σ) sz)) 0 0 (va_A (ws g ad y σ) sz) := by
  refine ofZ (by decide +kernel) (Nat.le_of_ble_eq_true rfl) ?_
  intro p e s m args below meth c A Q ls H locs G hsz hP hD hS hl hret
  subst hsz
  have hl : lv_has ls 1 [(0, .int v0)] := hl
  unfold wu_Mo_isRef at h
  refine lv_iload_n G.1 G.2.1 d_Mo_isRef_0 rfl (lv_at hl 0 rfl) ?_
  refine lv_iconst (v := 3) G.1 G.2.1 d_Mo_isRef_1 (by decide) ?_
  have J_21 : ∀ (s_j21 : St) (z0j21 : Int32) (H : Heap) (locs : List Loc), wj_Mo_isRef_21 y Post s_j21 z0j21 → va_P D CL (ws g ad y s_j21) H → va_D A (ws g ad y s_j21) → va_S A s.heap H locs → ∀ ls, lv_has ls 1 [] → W p l e ru_Mo_isRef s m args below meth c H locs 0 0 Q (F0 m 21 ls [.int z0j21]) := by
    intro s_j21 z0j21 H locs h hP hD hS ls hl
    unfold wj_Mo_isRef_21 at h
    exact hret _ _ _ _ _ _ _ ls (nb_n h.1) h.2 hP hD hS (Nat.le_refl _) (Nat.le_refl _) d_Mo_isRef_21
  have J_16 : ∀ (s_j16 : St) (H : Heap) (locs : List Loc), wj_Mo_isRef_16 y Post s_j16 → va_P D CL (ws g ad y s_j16) H → va_D A (ws g ad y s_j16) → va_S A s.heap H locs → ∀ ls, lv_has ls 1 [] → W p l e ru_Mo_isRef s m args below meth c H locs 0 0 Q (F0 m 16 ls []) := by
    intro s_j16 H locs h hP hD hS ls hl
    unfold wj_Mo_isRef_16 at h
    refine lv_iconst (v := 1) G.1 G.2.1 d_Mo_isRef_16 (by decide) ?_
    refine lv_goto (tgt := 21) G.1 G.2.1 d_Mo_isRef_17 (by decide) ?_
    exact J_21 s_j16 1 H locs h hP hD hS ls (lv_sub hl [] rfl)
  refine lv_icmp_eq (tgt := 16) G.1 G.2.1 d_Mo_isRef_2 (by decide) (fun c2 => ?_) (fun c2 => ?_)
  · skip
    have h := h.1 c2
    exact J_16 σ H locs h hP hD hS ls (lv_sub hl [] rfl)
  · skip
    have h := h.2 c2
    refine lv_iload_n G.1 G.2.1 d_Mo_isRef_5 rfl (lv_at hl 0 rfl) ?_
    refine lv_iconst (v := 2) G.1 G.2.1 d_Mo_isRef_6 (by decide) ?_
    refine lv_icmp_eq (tgt := 16) G.1 G.2.1 d_Mo_isRef_7 (by decide) (fun c7 => ?_) (fun c7 => ?_)
    · skip
      have h := h.1 c7
      exact J_16 σ H locs h hP hD hS ls (lv_sub hl [] rfl)
    · skip
      have h := h.2 c7
      refine lv_iload_n G.1 G.2.1 d_Mo_isRef_10 rfl (lv_at hl 0 rfl) ?_
      refine lv_bipush (v := 16) G.1 G.2.1 d_Mo_isRef_11 (by decide) ?_
      refine lv_icmp_lt (tgt := 20) G.1 G.2.1 d_Mo_isRef_13 (by decide) (fun c13 => ?_) (fun c13 => ?_)
      · skip
        have h := h.1 c13
        refine lv_iconst (v := 0) G.1 G.2.1 d_Mo_isRef_20 (by decide) ?_
        exact J_21 σ 0 H locs h hP hD hS ls (lv_sub hl [] rfl)
      · skip
        have h := h.2 c13
        exact J_16 σ H locs h hP hD hS ls (lv_sub hl [] rfl)
def y_Mo_isUnmade : MethodName := ⟨"ClassWorksModel", "isUnmade", "(I)Z"⟩
abbrev b_Mo_isUnmade : ByteArray := prog_14_method_61_code
theorem d_Mo_isUnmade_0 : decode b_Mo_isUnmade 0 = .ok (.iload_n 0, 1) := by decide +kernel
theorem d_Mo_isUnmade_1 : decode b_Mo_isUnmade 1 = .ok (.iconst 5, 1) := by decide +kernel
theorem d_Mo_isUnmade_2 : decode b_Mo_isUnmade 2 = .ok (.if_icmp .eq 7, 3) := by decide +kernel
theorem d_Mo_isUnmade_5 : decode b_Mo_isUnmade 5 = .ok (.iload_n 0, 1) := by decide +kernel
theorem d_Mo_isUnmade_6 : decode b_Mo_isUnmade 6 = .ok (.ifCond .ge 7, 3) := by decide +kernel
theorem d_Mo_isUnmade_9 : decode b_Mo_isUnmade 9 = .ok (.iconst 1, 1) := by decide +kernel
theorem d_Mo_isUnmade_10 : decode b_Mo_isUnmade 10 = .ok (.goto 4, 3) := by decide +kernel
theorem d_Mo_isUnmade_13 : decode b_Mo_isUnmade 13 = .ok (.iconst 0, 1) := by decide +kernel
theorem d_Mo_isUnmade_14 : decode b_Mo_isUnmade 14 = .ok (.ireturn, 1) := by decide +kernel
abbrev ru_Mo_isUnmade : Room := { frames := 0, cells := 0, slots := 0, locals := 0 }
def wj_Mo_isUnmade_14 (y : Ly) (Post : St → Int32 → Prop) (s_j14 : St) (z0j14 : Int32) : Prop := (nb z0j14 ∧ Post s_j14 z0j14)
def wj_Mo_isUnmade_9 (y : Ly) (Post : St → Int32 → Prop) (s_j9 : St) : Prop := wj_Mo_isUnmade_14 y Post s_j9 1
def wu_Mo_isUnmade (y : Ly) (Post : St → Int32 → Prop) (σ : St) (v0 : Int32) : Prop := ((v0 = 5 → wj_Mo_isUnmade_9 y Post σ) ∧ (¬ (v0 = 5) → ((0 ≤ v0 → wj_Mo_isUnmade_14 y Post σ 0) ∧ (¬ (0 ≤ v0) → wj_Mo_isUnmade_9 y Post σ))))
set_option maxHeartbeats 4000000 in
set_option maxRecDepth 100000 in
theorem cu_Mo_isUnmade (l : Launch) (D : va_G) (g : Nat → ClassId) (ad : Nat → Nat) (y : Ly) (Post : St → Int32 → Prop) (σ : St) (v0 : Int32) (sz : Nat) (h : wu_Mo_isUnmade y Post σ v0) : Met l y_Mo_isUnmade (mw y_Mo_isUnmade b_Mo_isUnmade 1 (some (.boolean))) ru_Mo_isUnmade (PC g D [] [.int v0] sz (ws g ad y σ)) (va_Qi (fun (r : Int32) (u : St) => Post u r) (QW D (va_A (ws g ad y σ) sz) (fun u => ws g ad y u)) (va_A (ws g ad y σ) sz)) 0 0 (va_A (ws g ad y σ) sz) := by
  refine ofZ (by decide +kernel) (Nat.le_of_ble_eq_true rfl) ?_
  intro p e s m args below meth c A Q ls H locs G hsz hP hD hS hl hret
  subst hsz
  have hl : lv_has ls 1 [(0, .int v0)] := hl
  unfold wu_Mo_isUnmade at h
  refine lv_iload_n G.1 G.2.1 d_Mo_isUnmade_0 rfl (lv_at hl 0 rfl) ?_
  refine lv_iconst (v := 5) G.1 G.2.1 d_Mo_isUnmade_1 (by decide) ?_
  have J_14 : ∀ (s_j14 : St) (z0j14 : Int32) (H : Heap) (locs : List Loc), wj_Mo_isUnmade_14 y Post s_j14 z0j14 → va_P D CL (ws g ad y s_j14) H → va_D A (ws g ad y s_j14) → va_S A s.heap H locs → ∀ ls, lv_has ls 1 [] → W p l e ru_Mo_isUnmade s m args below meth c H locs 0 0 Q (F0 m 14 ls [.int z0j14]) := by
    intro s_j14 z0j14 H locs h hP hD hS ls hl
    unfold wj_Mo_isUnmade_14 at h
    exact hret _ _ _ _ _ _ _ ls (nb_n h.1) h.2 hP hD hS (Nat.le_refl _) (Nat.le_refl _) d_Mo_isUnmade_14
  have J_9 : ∀ (s_j9 : St) (H : Heap) (locs : List Loc), wj_Mo_isUnmade_9 y Post s_j9 → va_P D CL (ws g ad y s_j9) H → va_D A (ws g ad y s_j9) → va_S A s.heap H locs → ∀ ls, lv_has ls 1 [] → W p l e ru_Mo_isUnmade s m args below meth c H locs 0 0 Q (F0 m 9 ls []) := by
    intro s_j9 H locs h hP hD hS ls hl
    unfold wj_Mo_isUnmade_9 at h
    refine lv_iconst (v := 1) G.1 G.2.1 d_Mo_isUnmade_9 (by decide) ?_
    refine lv_goto (tgt := 14) G.1 G.2.1 d_Mo_isUnmade_10 (by decide) ?_
    exact J_14 s_j9 1 H locs h hP hD hS ls (lv_sub hl [] rfl)
  refine lv_icmp_eq (tgt := 9) G.1 G.2.1 d_Mo_isUnmade_2 (by decide) (fun c2 => ?_) (fun c2 => ?_)
  · skip
    have h := h.1 c2
    exact J_9 σ H locs h hP hD hS ls (lv_sub hl [] rfl)
  · skip
    have h := h.2 c2
    refine lv_iload_n G.1 G.2.1 d_Mo_isUnmade_5 rfl (lv_at hl 0 rfl) ?_
    refine lv_if_ge (tgt := 13) G.1 G.2.1 d_Mo_isUnmade_6 (by decide) (fun c6 => ?_) (fun c6 => ?_)
    · skip
      have h := h.1 c6
      refine lv_iconst (v := 0) G.1 G.2.1 d_Mo_isUnmade_13 (by decide) ?_
      exact J_14 σ 0 H locs h hP hD hS ls (lv_sub hl [] rfl)
    · skip
      have h := h.2 c6
      exact J_9 σ H locs h hP hD hS ls (lv_sub hl [] rfl)
theorem q3753 : Cond.methodLink "ClassWorksModel" 829 y_Mo_listWants ∈ lw_ok := lw_okmem (List.mem_of_getElem? (i := 3753) (by decide +kernel)) rfl
set_option maxRecDepth 100000 in
theorem q3756 : Cond.code y_Mo_listWants b_Mo_listWants 5 (none) ∈ lw_ok := lw_okmem (List.mem_of_getElem? (i := 3756) (by rfl)) rfl
theorem q3755 : Cond.instanceMethod y_Mo_listWants ∈ lw_ok := lw_okmem (List.mem_of_getElem? (i := 3755) (by decide +kernel)) rfl
theorem q235 : Cond.selects y_Mo_listWants.cls y_Mo_listWants y_Mo_listWants ∈ lw_ok := lw_okmem (List.mem_of_getElem? (i := 235) (by decide +kernel)) rfl
theorem w9_Mo_listWants : CWv y_Mo_listWants b_Mo_listWants 5 (none) 2 ∧ Cond.instanceMethod y_Mo_listWants ∈ lw_ok ∧ Cond.selects y_Mo_listWants.cls y_Mo_listWants y_Mo_listWants ∈ lw_ok := ⟨⟨q3756, q348, by decide +kernel, by decide +kernel, by decide +kernel⟩, q3755, q235⟩
theorem q3761 : Cond.methodLink "ClassWorksModel" 832 y_Mo_isRef ∈ lw_ok := lw_okmem (List.mem_of_getElem? (i := 3761) (by decide +kernel)) rfl
theorem q3763 : Cond.code y_Mo_isRef b_Mo_isRef 1 (some (.boolean)) ∈ lw_ok := lw_okmem (List.mem_of_getElem? (i := 3763) (by decide +kernel)) rfl
theorem q3762 : Cond.static y_Mo_isRef ∈ lw_ok := lw_okmem (List.mem_of_getElem? (i := 3762) (by decide +kernel)) rfl
theorem w9_Mo_isRef : CWv y_Mo_isRef b_Mo_isRef 1 (some (.boolean)) 1 ∧ Cond.static y_Mo_isRef ∈ lw_ok := ⟨⟨q3763, q348, by decide +kernel, by decide +kernel, by decide +kernel⟩, q3762⟩
theorem q3764 : Cond.methodLink "ClassWorksModel" 835 y_Mo_isUnmade ∈ lw_ok := lw_okmem (List.mem_of_getElem? (i := 3764) (by decide +kernel)) rfl
theorem q3766 : Cond.code y_Mo_isUnmade b_Mo_isUnmade 1 (some (.boolean)) ∈ lw_ok := lw_okmem (List.mem_of_getElem? (i := 3766) (by decide +kernel)) rfl
theorem q3765 : Cond.static y_Mo_isUnmade ∈ lw_ok := lw_okmem (List.mem_of_getElem? (i := 3765) (by decide +kernel)) rfl
theorem w9_Mo_isUnmade : CWv y_Mo_isUnmade b_Mo_isUnmade 1 (some (.boolean)) 1 ∧ Cond.static y_Mo_isUnmade ∈ lw_ok := ⟨⟨q3766, q348, by decide +kernel, by decide +kernel, by decide +kernel⟩, q3765⟩
def y_Mo_checkTaken : MethodName := ⟨"ClassWorksModel", "checkTaken", "(II)I"⟩
abbrev b_Mo_checkTaken : ByteArray := prog_14_method_75_code
theorem d_Mo_checkTaken_0 : decode b_Mo_checkTaken 0 = .ok (.iload_n 1, 1) := by decide +kernel
theorem d_Mo_checkTaken_1 : decode b_Mo_checkTaken 1 = .ok (.iconst 3, 1) := by decide +kernel
theorem d_Mo_checkTaken_2 : decode b_Mo_checkTaken 2 = .ok (.if_icmp .eq 25, 3) := by decide +kernel
theorem d_Mo_checkTaken_5 : decode b_Mo_checkTaken 5 = .ok (.iload_n 1, 1) := by decide +kernel
theorem d_Mo_checkTaken_6 : decode b_Mo_checkTaken 6 = .ok (.iconst 4, 1) := by decide +kernel
theorem d_Mo_checkTaken_7 : decode b_Mo_checkTaken 7 = .ok (.if_icmp .eq 20, 3) := by decide +kernel
theorem d_Mo_checkTaken_10 : decode b_Mo_checkTaken 10 = .ok (.iload_n 1, 1) := by decide +kernel
theorem d_Mo_checkTaken_11 : decode b_Mo_checkTaken 11 = .ok (.iconst 5, 1) := by decide +kernel
theorem d_Mo_checkTaken_12 : decode b_Mo_checkTaken 12 = .ok (.if_icmp .eq 15, 3) := by decide +kernel
theorem d_Mo_checkTaken_15 : decode b_Mo_checkTaken 15 = .ok (.iload_n 1, 1) := by decide +kernel
theorem d_Mo_checkTaken_16 : decode b_Mo_checkTaken 16 = .ok (.bipush 6, 2) := by decide +kernel
theorem d_Mo_checkTaken_18 : decode b_Mo_checkTaken 18 = .ok (.if_icmp .eq 9, 3) := by decide +kernel
theorem d_Mo_checkTaken_21 : decode b_Mo_checkTaken 21 = .ok (.iload_n 1, 1) := by decide +kernel
theorem d_Mo_checkTaken_22 : decode b_Mo_checkTaken 22 = .ok (.bipush 7, 2) := by decide +kernel
theorem d_Mo_checkTaken_24 : decode b_Mo_checkTaken 24 = .ok (.if_icmp .ne 7, 3) := by decide +kernel
theorem d_Mo_checkTaken_27 : decode b_Mo_checkTaken 27 = .ok (.iconst 1, 1) := by decide +kernel
theorem d_Mo_checkTaken_28 : decode b_Mo_checkTaken 28 = .ok (.goto 4, 3) := by decide +kernel
theorem d_Mo_checkTaken_31 : decode b_Mo_checkTaken 31 = .ok (.iconst 0, 1) := by decide +kernel
theorem d_Mo_checkTaken_32 : decode b_Mo_checkTaken 32 = .ok (.istore_n 3, 1) := by decide +kernel
theorem d_Mo_checkTaken_33 : decode b_Mo_checkTaken 33 = .ok (.aload_n 0, 1) := by decide +kernel
theorem d_Mo_checkTaken_34 : decode b_Mo_checkTaken 34 = .ok (.getfield 522, 3) := by decide +kernel
theorem d_Mo_checkTaken_37 : decode b_Mo_checkTaken 37 = .ok (.getfield 677, 3) := by decide +kernel
theorem d_Mo_checkTaken_40 : decode b_Mo_checkTaken 40 = .ok (.iload_n 2, 1) := by decide +kernel
theorem d_Mo_checkTaken_41 : decode b_Mo_checkTaken 41 = .ok (.iaload, 1) := by decide +kernel
theorem d_Mo_checkTaken_42 : decode b_Mo_checkTaken 42 = .ok (.istore 4, 2) := by decide +kernel
theorem d_Mo_checkTaken_44 : decode b_Mo_checkTaken 44 = .ok (.iload_n 3, 1) := by decide +kernel
theorem d_Mo_checkTaken_45 : decode b_Mo_checkTaken 45 = .ok (.ifCond .eq 23, 3) := by decide +kernel
theorem d_Mo_checkTaken_48 : decode b_Mo_checkTaken 48 = .ok (.iload 4, 2) := by decide +kernel
theorem d_Mo_checkTaken_50 : decode b_Mo_checkTaken 50 = .ok (.aload_n 0, 1) := by decide +kernel
theorem d_Mo_checkTaken_51 : decode b_Mo_checkTaken 51 = .ok (.getfield 522, 3) := by decide +kernel
theorem d_Mo_checkTaken_54 : decode b_Mo_checkTaken 54 = .ok (.getfield 459, 3) := by decide +kernel
theorem d_Mo_checkTaken_57 : decode b_Mo_checkTaken 57 = .ok (.aload_n 0, 1) := by decide +kernel
theorem d_Mo_checkTaken_58 : decode b_Mo_checkTaken 58 = .ok (.getfield 768, 3) := by decide +kernel
theorem d_Mo_checkTaken_61 : decode b_Mo_checkTaken 61 = .ok (.iaload, 1) := by decide +kernel
theorem d_Mo_checkTaken_62 : decode b_Mo_checkTaken 62 = .ok (.if_icmp .lt 6, 3) := by decide +kernel
theorem d_Mo_checkTaken_65 : decode b_Mo_checkTaken 65 = .ok (.bipush 33, 2) := by decide +kernel
theorem d_Mo_checkTaken_67 : decode b_Mo_checkTaken 67 = .ok (.ireturn, 1) := by decide +kernel
theorem d_Mo_checkTaken_68 : decode b_Mo_checkTaken 68 = .ok (.aload_n 0, 1) := by decide +kernel
theorem d_Mo_checkTaken_69 : decode b_Mo_checkTaken 69 = .ok (.iload_n 1, 1) := by decide +kernel
theorem d_Mo_checkTaken_70 : decode b_Mo_checkTaken 70 = .ok (.iload_n 2, 1) := by decide +kernel
theorem d_Mo_checkTaken_71 : decode b_Mo_checkTaken 71 = .ok (.invokevirtual 829, 3) := by decide +kernel
theorem d_Mo_checkTaken_74 : decode b_Mo_checkTaken 74 = .ok (.aload_n 0, 1) := by decide +kernel
theorem d_Mo_checkTaken_75 : decode b_Mo_checkTaken 75 = .ok (.getfield 780, 3) := by decide +kernel
theorem d_Mo_checkTaken_78 : decode b_Mo_checkTaken 78 = .ok (.aload_n 0, 1) := by decide +kernel
theorem d_Mo_checkTaken_79 : decode b_Mo_checkTaken 79 = .ok (.getfield 823, 3) := by decide +kernel
theorem d_Mo_checkTaken_82 : decode b_Mo_checkTaken 82 = .ok (.if_icmp .ge 6, 3) := by decide +kernel
theorem d_Mo_checkTaken_85 : decode b_Mo_checkTaken 85 = .ok (.bipush 31, 2) := by decide +kernel
theorem d_Mo_checkTaken_87 : decode b_Mo_checkTaken 87 = .ok (.ireturn, 1) := by decide +kernel
theorem d_Mo_checkTaken_88 : decode b_Mo_checkTaken 88 = .ok (.iconst 0, 1) := by decide +kernel
theorem d_Mo_checkTaken_89 : decode b_Mo_checkTaken 89 = .ok (.istore 5, 2) := by decide +kernel
theorem d_Mo_checkTaken_91 : decode b_Mo_checkTaken 91 = .ok (.iconst 0, 1) := by decide +kernel
theorem d_Mo_checkTaken_92 : decode b_Mo_checkTaken 92 = .ok (.istore 6, 2) := by decide +kernel
theorem d_Mo_checkTaken_94 : decode b_Mo_checkTaken 94 = .ok (.iload 6, 2) := by decide +kernel
theorem d_Mo_checkTaken_96 : decode b_Mo_checkTaken 96 = .ok (.aload_n 0, 1) := by decide +kernel
theorem d_Mo_checkTaken_97 : decode b_Mo_checkTaken 97 = .ok (.getfield 823, 3) := by decide +kernel
theorem d_Mo_checkTaken_100 : decode b_Mo_checkTaken 100 = .ok (.if_icmp .ge 174, 3) := by decide +kernel
theorem d_Mo_checkTaken_103 : decode b_Mo_checkTaken 103 = .ok (.aload_n 0, 1) := by decide +kernel
theorem d_Mo_checkTaken_104 : decode b_Mo_checkTaken 104 = .ok (.getfield 308, 3) := by decide +kernel
theorem d_Mo_checkTaken_107 : decode b_Mo_checkTaken 107 = .ok (.aload_n 0, 1) := by decide +kernel
theorem d_Mo_checkTaken_108 : decode b_Mo_checkTaken 108 = .ok (.getfield 780, 3) := by decide +kernel
theorem d_Mo_checkTaken_111 : decode b_Mo_checkTaken 111 = .ok (.iconst 1, 1) := by decide +kernel
theorem d_Mo_checkTaken_112 : decode b_Mo_checkTaken 112 = .ok (.isub, 1) := by decide +kernel
theorem d_Mo_checkTaken_113 : decode b_Mo_checkTaken 113 = .ok (.iload 6, 2) := by decide +kernel
theorem d_Mo_checkTaken_115 : decode b_Mo_checkTaken 115 = .ok (.isub, 1) := by decide +kernel
theorem d_Mo_checkTaken_116 : decode b_Mo_checkTaken 116 = .ok (.iaload, 1) := by decide +kernel
theorem d_Mo_checkTaken_117 : decode b_Mo_checkTaken 117 = .ok (.istore 7, 2) := by decide +kernel
theorem d_Mo_checkTaken_119 : decode b_Mo_checkTaken 119 = .ok (.aload_n 0, 1) := by decide +kernel
theorem d_Mo_checkTaken_120 : decode b_Mo_checkTaken 120 = .ok (.getfield 311, 3) := by decide +kernel
theorem d_Mo_checkTaken_123 : decode b_Mo_checkTaken 123 = .ok (.iload 6, 2) := by decide +kernel
theorem d_Mo_checkTaken_125 : decode b_Mo_checkTaken 125 = .ok (.iaload, 1) := by decide +kernel
theorem d_Mo_checkTaken_126 : decode b_Mo_checkTaken 126 = .ok (.istore 8, 2) := by decide +kernel
theorem d_Mo_checkTaken_128 : decode b_Mo_checkTaken 128 = .ok (.iconst 0, 1) := by decide +kernel
theorem d_Mo_checkTaken_129 : decode b_Mo_checkTaken 129 = .ok (.istore 9, 2) := by decide +kernel
theorem d_Mo_checkTaken_131 : decode b_Mo_checkTaken 131 = .ok (.iload 8, 2) := by decide +kernel
theorem d_Mo_checkTaken_133 : decode b_Mo_checkTaken 133 = .ok (.bipush 8, 2) := by decide +kernel
theorem d_Mo_checkTaken_135 : decode b_Mo_checkTaken 135 = .ok (.if_icmp .ne 6, 3) := by decide +kernel
theorem d_Mo_checkTaken_138 : decode b_Mo_checkTaken 138 = .ok (.goto 130, 3) := by decide +kernel
theorem d_Mo_checkTaken_141 : decode b_Mo_checkTaken 141 = .ok (.iload 8, 2) := by decide +kernel
theorem d_Mo_checkTaken_143 : decode b_Mo_checkTaken 143 = .ok (.bipush 7, 2) := by decide +kernel
theorem d_Mo_checkTaken_145 : decode b_Mo_checkTaken 145 = .ok (.if_icmp .ne 30, 3) := by decide +kernel
theorem d_Mo_checkTaken_148 : decode b_Mo_checkTaken 148 = .ok (.iload 7, 2) := by decide +kernel
theorem d_Mo_checkTaken_150 : decode b_Mo_checkTaken 150 = .ok (.invokestatic 832, 3) := by decide +kernel
theorem d_Mo_checkTaken_153 : decode b_Mo_checkTaken 153 = .ok (.ifCond .ne 11, 3) := by decide +kernel
theorem d_Mo_checkTaken_156 : decode b_Mo_checkTaken 156 = .ok (.iload 7, 2) := by decide +kernel
theorem d_Mo_checkTaken_158 : decode b_Mo_checkTaken 158 = .ok (.invokestatic 835, 3) := by decide +kernel
theorem d_Mo_checkTaken_161 : decode b_Mo_checkTaken 161 = .ok (.ifCond .eq 7, 3) := by decide +kernel
theorem d_Mo_checkTaken_164 : decode b_Mo_checkTaken 164 = .ok (.iconst 0, 1) := by decide +kernel
theorem d_Mo_checkTaken_165 : decode b_Mo_checkTaken 165 = .ok (.goto 5, 3) := by decide +kernel
theorem d_Mo_checkTaken_168 : decode b_Mo_checkTaken 168 = .ok (.bipush 37, 2) := by decide +kernel
theorem d_Mo_checkTaken_170 : decode b_Mo_checkTaken 170 = .ok (.istore 9, 2) := by decide +kernel
theorem d_Mo_checkTaken_172 : decode b_Mo_checkTaken 172 = .ok (.goto 76, 3) := by decide +kernel
theorem d_Mo_checkTaken_175 : decode b_Mo_checkTaken 175 = .ok (.iload 8, 2) := by decide +kernel
theorem d_Mo_checkTaken_177 : decode b_Mo_checkTaken 177 = .ok (.iconst 1, 1) := by decide +kernel
theorem d_Mo_checkTaken_178 : decode b_Mo_checkTaken 178 = .ok (.if_icmp .ne 20, 3) := by decide +kernel
theorem d_Mo_checkTaken_181 : decode b_Mo_checkTaken 181 = .ok (.iload 7, 2) := by decide +kernel
theorem d_Mo_checkTaken_183 : decode b_Mo_checkTaken 183 = .ok (.iconst 1, 1) := by decide +kernel
theorem d_Mo_checkTaken_184 : decode b_Mo_checkTaken 184 = .ok (.if_icmp .ne 7, 3) := by decide +kernel
theorem d_Mo_checkTaken_187 : decode b_Mo_checkTaken 187 = .ok (.iconst 0, 1) := by decide +kernel
theorem d_Mo_checkTaken_188 : decode b_Mo_checkTaken 188 = .ok (.goto 5, 3) := by decide +kernel
theorem d_Mo_checkTaken_191 : decode b_Mo_checkTaken 191 = .ok (.bipush 37, 2) := by decide +kernel
theorem d_Mo_checkTaken_193 : decode b_Mo_checkTaken 193 = .ok (.istore 9, 2) := by decide +kernel
theorem d_Mo_checkTaken_195 : decode b_Mo_checkTaken 195 = .ok (.goto 53, 3) := by decide +kernel
theorem d_Mo_checkTaken_198 : decode b_Mo_checkTaken 198 = .ok (.iload 7, 2) := by decide +kernel
theorem d_Mo_checkTaken_200 : decode b_Mo_checkTaken 200 = .ok (.invokestatic 835, 3) := by decide +kernel
theorem d_Mo_checkTaken_203 : decode b_Mo_checkTaken 203 = .ok (.ifCond .eq 9, 3) := by decide +kernel
theorem d_Mo_checkTaken_206 : decode b_Mo_checkTaken 206 = .ok (.iconst 1, 1) := by decide +kernel
theorem d_Mo_checkTaken_207 : decode b_Mo_checkTaken 207 = .ok (.istore 5, 2) := by decide +kernel
theorem d_Mo_checkTaken_209 : decode b_Mo_checkTaken 209 = .ok (.goto 39, 3) := by decide +kernel
theorem d_Mo_checkTaken_212 : decode b_Mo_checkTaken 212 = .ok (.iload 8, 2) := by decide +kernel
theorem d_Mo_checkTaken_214 : decode b_Mo_checkTaken 214 = .ok (.bipush 6, 2) := by decide +kernel
theorem d_Mo_checkTaken_216 : decode b_Mo_checkTaken 216 = .ok (.if_icmp .ne 22, 3) := by decide +kernel
theorem d_Mo_checkTaken_219 : decode b_Mo_checkTaken 219 = .ok (.iload 7, 2) := by decide +kernel
theorem d_Mo_checkTaken_221 : decode b_Mo_checkTaken 221 = .ok (.invokestatic 832, 3) := by decide +kernel
theorem d_Mo_checkTaken_224 : decode b_Mo_checkTaken 224 = .ok (.ifCond .eq 7, 3) := by decide +kernel
theorem d_Mo_checkTaken_227 : decode b_Mo_checkTaken 227 = .ok (.iconst 0, 1) := by decide +kernel
theorem d_Mo_checkTaken_228 : decode b_Mo_checkTaken 228 = .ok (.goto 5, 3) := by decide +kernel
theorem d_Mo_checkTaken_231 : decode b_Mo_checkTaken 231 = .ok (.bipush 37, 2) := by decide +kernel
theorem d_Mo_checkTaken_233 : decode b_Mo_checkTaken 233 = .ok (.istore 9, 2) := by decide +kernel
theorem d_Mo_checkTaken_235 : decode b_Mo_checkTaken 235 = .ok (.goto 13, 3) := by decide +kernel
theorem d_Mo_checkTaken_238 : decode b_Mo_checkTaken 238 = .ok (.aload_n 0, 1) := by decide +kernel
theorem d_Mo_checkTaken_239 : decode b_Mo_checkTaken 239 = .ok (.iload 7, 2) := by decide +kernel
theorem d_Mo_checkTaken_241 : decode b_Mo_checkTaken 241 = .ok (.iload 8, 2) := by decide +kernel
theorem d_Mo_checkTaken_243 : decode b_Mo_checkTaken 243 = .ok (.invokevirtual 774, 3) := by decide +kernel
theorem d_Mo_checkTaken_246 : decode b_Mo_checkTaken 246 = .ok (.istore 9, 2) := by decide +kernel
theorem d_Mo_checkTaken_248 : decode b_Mo_checkTaken 248 = .ok (.iload 9, 2) := by decide +kernel
theorem d_Mo_checkTaken_250 : decode b_Mo_checkTaken 250 = .ok (.ifCond .le 18, 3) := by decide +kernel
theorem d_Mo_checkTaken_253 : decode b_Mo_checkTaken 253 = .ok (.iload 9, 2) := by decide +kernel
theorem d_Mo_checkTaken_255 : decode b_Mo_checkTaken 255 = .ok (.bipush 43, 2) := by decide +kernel
theorem d_Mo_checkTaken_257 : decode b_Mo_checkTaken 257 = .ok (.if_icmp .ne 8, 3) := by decide +kernel
theorem d_Mo_checkTaken_260 : decode b_Mo_checkTaken 260 = .ok (.bipush 43, 2) := by decide +kernel
theorem d_Mo_checkTaken_262 : decode b_Mo_checkTaken 262 = .ok (.goto 5, 3) := by decide +kernel
theorem d_Mo_checkTaken_265 : decode b_Mo_checkTaken 265 = .ok (.bipush 32, 2) := by decide +kernel
theorem d_Mo_checkTaken_267 : decode b_Mo_checkTaken 267 = .ok (.ireturn, 1) := by decide +kernel
theorem d_Mo_checkTaken_268 : decode b_Mo_checkTaken 268 = .ok (.iinc 6 1, 3) := by decide +kernel
theorem d_Mo_checkTaken_271 : decode b_Mo_checkTaken 271 = .ok (.goto (-177), 3) := by decide +kernel
theorem d_Mo_checkTaken_274 : decode b_Mo_checkTaken 274 = .ok (.iload_n 1, 1) := by decide +kernel
theorem d_Mo_checkTaken_275 : decode b_Mo_checkTaken 275 = .ok (.iconst 3, 1) := by decide +kernel
theorem d_Mo_checkTaken_276 : decode b_Mo_checkTaken 276 = .ok (.if_icmp .eq 9, 3) := by decide +kernel
theorem d_Mo_checkTaken_279 : decode b_Mo_checkTaken 279 = .ok (.iload_n 1, 1) := by decide +kernel
theorem d_Mo_checkTaken_280 : decode b_Mo_checkTaken 280 = .ok (.bipush 7, 2) := by decide +kernel
theorem d_Mo_checkTaken_282 : decode b_Mo_checkTaken 282 = .ok (.if_icmp .ne 14, 3) := by decide +kernel
theorem d_Mo_checkTaken_285 : decode b_Mo_checkTaken 285 = .ok (.aload_n 0, 1) := by decide +kernel
theorem d_Mo_checkTaken_286 : decode b_Mo_checkTaken 286 = .ok (.getfield 305, 3) := by decide +kernel
theorem d_Mo_checkTaken_289 : decode b_Mo_checkTaken 289 = .ok (.iload 4, 2) := by decide +kernel
theorem d_Mo_checkTaken_291 : decode b_Mo_checkTaken 291 = .ok (.iaload, 1) := by decide +kernel
theorem d_Mo_checkTaken_292 : decode b_Mo_checkTaken 292 = .ok (.iconst 1, 1) := by decide +kernel
theorem d_Mo_checkTaken_293 : decode b_Mo_checkTaken 293 = .ok (.if_icmp .ne 34, 3) := by decide +kernel
theorem d_Mo_checkTaken_296 : decode b_Mo_checkTaken 296 = .ok (.iload_n 1, 1) := by decide +kernel
theorem d_Mo_checkTaken_297 : decode b_Mo_checkTaken 297 = .ok (.iconst 4, 1) := by decide +kernel
theorem d_Mo_checkTaken_298 : decode b_Mo_checkTaken 298 = .ok (.if_icmp .ne 32, 3) := by decide +kernel
theorem d_Mo_checkTaken_301 : decode b_Mo_checkTaken 301 = .ok (.aload_n 0, 1) := by decide +kernel
theorem d_Mo_checkTaken_302 : decode b_Mo_checkTaken 302 = .ok (.getfield 305, 3) := by decide +kernel
theorem d_Mo_checkTaken_305 : decode b_Mo_checkTaken 305 = .ok (.iload 4, 2) := by decide +kernel
theorem d_Mo_checkTaken_307 : decode b_Mo_checkTaken 307 = .ok (.iaload, 1) := by decide +kernel
theorem d_Mo_checkTaken_308 : decode b_Mo_checkTaken 308 = .ok (.invokestatic 832, 3) := by decide +kernel
theorem d_Mo_checkTaken_311 : decode b_Mo_checkTaken 311 = .ok (.ifCond .ne 19, 3) := by decide +kernel
theorem d_Mo_checkTaken_314 : decode b_Mo_checkTaken 314 = .ok (.aload_n 0, 1) := by decide +kernel
theorem d_Mo_checkTaken_315 : decode b_Mo_checkTaken 315 = .ok (.getfield 305, 3) := by decide +kernel
theorem d_Mo_checkTaken_318 : decode b_Mo_checkTaken 318 = .ok (.iload 4, 2) := by decide +kernel
theorem d_Mo_checkTaken_320 : decode b_Mo_checkTaken 320 = .ok (.iaload, 1) := by decide +kernel
theorem d_Mo_checkTaken_321 : decode b_Mo_checkTaken 321 = .ok (.invokestatic 835, 3) := by decide +kernel
theorem d_Mo_checkTaken_324 : decode b_Mo_checkTaken 324 = .ok (.ifCond .ne 6, 3) := by decide +kernel
theorem d_Mo_checkTaken_327 : decode b_Mo_checkTaken 327 = .ok (.bipush 34, 2) := by decide +kernel
theorem d_Mo_checkTaken_329 : decode b_Mo_checkTaken 329 = .ok (.ireturn, 1) := by decide +kernel
theorem d_Mo_checkTaken_330 : decode b_Mo_checkTaken 330 = .ok (.iload 5, 2) := by decide +kernel
theorem d_Mo_checkTaken_332 : decode b_Mo_checkTaken 332 = .ok (.ifCond .eq 8, 3) := by decide +kernel
theorem d_Mo_checkTaken_335 : decode b_Mo_checkTaken 335 = .ok (.bipush 39, 2) := by decide +kernel
theorem d_Mo_checkTaken_337 : decode b_Mo_checkTaken 337 = .ok (.goto 4, 3) := by decide +kernel
theorem d_Mo_checkTaken_340 : decode b_Mo_checkTaken 340 = .ok (.iconst 0, 1) := by decide +kernel
theorem d_Mo_checkTaken_341 : decode b_Mo_checkTaken 341 = .ok (.ireturn, 1) := by decide +kernel
abbrev ru_Mo_checkTaken : Room := { frames := 3, cells := 0, slots := 0, locals := 70 }
def wj_Mo_checkTaken_327 (y : Ly) (Post : St → Int32 → Prop) (a0 : Nat) (s_j327 : St) : Prop := Post s_j327 34
def wj_Mo_checkTaken_341 (y : Ly) (Post : St → Int32 → Prop) (a0 : Nat) (s_j341 : St) (z0j341 : Int32) : Prop := Post s_j341 z0j341
def wj_Mo_checkTaken_330 (y : Ly) (Post : St → Int32 → Prop) (a0 : Nat) (s_j330 : St) (x5j330 : Int32) : Prop := ((x5j330 = 0 → wj_Mo_checkTaken_341 y Post a0 s_j330 0) ∧ (¬ (x5j330 = 0) → wj_Mo_checkTaken_341 y Post a0 s_j330 39))
def wj_Mo_checkTaken_296 (y : Ly) (Post : St → Int32 → Prop) (a0 : Nat) (s_j296 : St) (x1j296 : Int32) (x4j296 : Int32) (x5j296 : Int32) : Prop := ((¬ x1j296 = 4 → wj_Mo_checkTaken_330 y Post a0 s_j296 x5j296) ∧ (x1j296 = 4 → xA y s_j296 a0 70 x4j296 (fun x_7 : Int32 => wu_Mo_isRef y (fun (s_9 : St) (r_8 : Int32) => ((¬ r_8 = 0 → wj_Mo_checkTaken_330 y Post a0 s_9 x5j296) ∧ (r_8 = 0 → xA y s_9 a0 70 x4j296 (fun x_10 : Int32 => wu_Mo_isUnmade y (fun (s_12 : St) (r_11 : Int32) => ((¬ r_11 = 0 → wj_Mo_checkTaken_330 y Post a0 s_12 x5j296) ∧ (r_11 = 0 → wj_Mo_checkTaken_327 y Post a0 s_12))) s_9 x_10)))) s_j296 x_7)))
def wj_Mo_checkTaken_285 (y : Ly) (Post : St → Int32 → Prop) (a0 : Nat) (s_j285 : St) (x1j285 : Int32) (x4j285 : Int32) (x5j285 : Int32) : Prop := xA y s_j285 a0 70 x4j285 (fun x_13 : Int32 => ((¬ x_13 = 1 → wj_Mo_checkTaken_327 y Post a0 s_j285) ∧ (x_13 = 1 → wj_Mo_checkTaken_296 y Post a0 s_j285 x1j285 x4j285 x5j285)))
def wj_Mo_checkTaken_268 (y : Ly) (Post : St → Int32 → Prop) (K_94 : St → Int32 → Int32 → Int32 → Int32 → Prop) (a0 : Nat) (s_j268 : St) (x1j268 : Int32) (x4j268 : Int32) (x5j268 : Int32) (x6j268 : Int32) : Prop := K_94 s_j268 x1j268 x4j268 x5j268 (x6j268 + 1)
def wj_Mo_checkTaken_267 (y : Ly) (Post : St → Int32 → Prop) (a0 : Nat) (s_j267 : St) (z0j267 : Int32) : Prop := Post s_j267 z0j267
def wj_Mo_checkTaken_248 (y : Ly) (Post : St → Int32 → Prop) (K_94 : St → Int32 → Int32 → Int32 → Int32 → Prop) (a0 : Nat) (s_j248 : St) (x1j248 : Int32) (x4j248 : Int32) (x5j248 : Int32) (x6j248 : Int32) (x9j248 : Int32) : Prop := ((x9j248 ≤ 0 → wj_Mo_checkTaken_268 y Post K_94 a0 s_j248 x1j248 x4j248 x5j248 x6j248) ∧ (¬ (x9j248 ≤ 0) → ((¬ x9j248 = 43 → wj_Mo_checkTaken_267 y Post a0 s_j248 32) ∧ (x9j248 = 43 → wj_Mo_checkTaken_267 y Post a0 s_j248 43))))
def wj_Mo_checkTaken_233 (y : Ly) (Post : St → Int32 → Prop) (K_94 : St → Int32 → Int32 → Int32 → Int32 → Prop) (a0 : Nat) (s_j233 : St) (x1j233 : Int32) (x4j233 : Int32) (x5j233 : Int32) (x6j233 : Int32) (z0j233 : Int32) : Prop := wj_Mo_checkTaken_248 y Post K_94 a0 s_j233 x1j233 x4j233 x5j233 x6j233 z0j233
def wj_Mo_checkTaken_193 (y : Ly) (Post : St → Int32 → Prop) (K_94 : St → Int32 → Int32 → Int32 → Int32 → Prop) (a0 : Nat) (s_j193 : St) (x1j193 : Int32) (x4j193 : Int32) (x5j193 : Int32) (x6j193 : Int32) (z0j193 : Int32) : Prop := wj_Mo_checkTaken_248 y Post K_94 a0 s_j193 x1j193 x4j193 x5j193 x6j193 z0j193
def wj_Mo_checkTaken_170 (y : Ly) (Post : St → Int32 → Prop) (K_94 : St → Int32 → Int32 → Int32 → Int32 → Prop) (a0 : Nat) (s_j170 : St) (x1j170 : Int32) (x4j170 : Int32) (x5j170 : Int32) (x6j170 : Int32) (z0j170 : Int32) : Prop := wj_Mo_checkTaken_248 y Post K_94 a0 s_j170 x1j170 x4j170 x5j170 x6j170 z0j170
def wj_Mo_checkTaken_164 (y : Ly) (Post : St → Int32 → Prop) (K_94 : St → Int32 → Int32 → Int32 → Int32 → Prop) (a0 : Nat) (s_j164 : St) (x1j164 : Int32) (x4j164 : Int32) (x5j164 : Int32) (x6j164 : Int32) : Prop := wj_Mo_checkTaken_170 y Post K_94 a0 s_j164 x1j164 x4j164 x5j164 x6j164 0
def wb_Mo_checkTaken_94 (y : Ly) (Post : St → Int32 → Prop) (K_94 : St → Int32 → Int32 → Int32 → Int32 → Prop) (a0 : Nat) (s_h94 : St) (x1h94 : Int32) (x4h94 : Int32) (x5h94 : Int32) (x6h94 : Int32) : Prop := (((sV s_h94 a0 79) ≤ x6h94 → ((x1h94 = 3 → wj_Mo_checkTaken_285 y Post a0 s_h94 x1h94 x4h94 x5h94) ∧ (¬ (x1h94 = 3) → ((¬ x1h94 = 7 → wj_Mo_checkTaken_296 y Post a0 s_h94 x1h94 x4h94 x5h94) ∧ (x1h94 = 7 → wj_Mo_checkTaken_285 y Post a0 s_h94 x1h94 x4h94 x5h94))))) ∧ (¬ ((sV s_h94 a0 79) ≤ x6h94) → xA y s_h94 a0 71 (((sV s_h94 a0 72) - 1) - x6h94) (fun x_14 : Int32 => xA y s_h94 a0 78 x6h94 (fun x_15 : Int32 => ((¬ x_15 = 8 → ((¬ x_15 = 7 → ((¬ x_15 = 1 → wu_Mo_isUnmade y (fun (s_17 : St) (r_16 : Int32) => ((r_16 = 0 → ((¬ x_15 = 6 → wu_Mo_fit y (fun (s_19 : St) (r_18 : Int32) => wj_Mo_checkTaken_248 y Post K_94 a0 s_19 x1h94 x4h94 x5h94 x6h94 r_18) s_17 a0 x_14 x_15) ∧ (x_15 = 6 → wu_Mo_isRef y (fun (s_21 : St) (r_20 : Int32) => ((r_20 = 0 → wj_Mo_checkTaken_233 y Post K_94 a0 s_21 x1h94 x4h94 x5h94 x6h94 37) ∧ (¬ (r_20 = 0) → wj_Mo_checkTaken_233 y Post K_94 a0 s_21 x1h94 x4h94 x5h94 x6h94 0))) s_17 x_14))) ∧ (¬ (r_16 = 0) → wj_Mo_checkTaken_248 y Post K_94 a0 s_17 x1h94 x4h94 1 x6h94 0))) s_h94 x_14) ∧ (x_15 = 1 → ((¬ x_14 = 1 → wj_Mo_checkTaken_193 y Post K_94 a0 s_h94 x1h94 x4h94 x5h94 x6h94 37) ∧ (x_14 = 1 → wj_Mo_checkTaken_193 y Post K_94 a0 s_h94 x1h94 x4h94 x5h94 x6h94 0))))) ∧ (x_15 = 7 → wu_Mo_isRef y (fun (s_23 : St) (r_22 : Int32) => ((¬ r_22 = 0 → wj_Mo_checkTaken_164 y Post K_94 a0 s_23 x1h94 x4h94 x5h94 x6h94) ∧ (r_22 = 0 → wu_Mo_isUnmade y (fun (s_25 : St) (r_24 : Int32) => ((r_24 = 0 → wj_Mo_checkTaken_170 y Post K_94 a0 s_25 x1h94 x4h94 x5h94 x6h94 37) ∧ (¬ (r_24 = 0) → wj_Mo_checkTaken_164 y Post K_94 a0 s_25 x1h94 x4h94 x5h94 x6h94))) s_23 x_14))) s_h94 x_14))) ∧ (x_15 = 8 → wj_Mo_checkTaken_268 y Post K_94 a0 s_h94 x1h94 x4h94 x5h94 x6h94))))))
def wl_Mo_checkTaken_94 (y : Ly) (Post : St → Int32 → Prop) (a0 : Nat) (s_h94 : St) (x1h94 : Int32) (x4h94 : Int32) (x5h94 : Int32) (x6h94 : Int32) : Prop := ∃ (I : St → Int32 → Int32 → Int32 → Int32 → Prop) (μ : St → Int32 → Int32 → Int32 → Int32 → Nat), I s_h94 x1h94 x4h94 x5h94 x6h94 ∧ ∀ (u : St) (t0 : Int32) (t1 : Int32) (t2 : Int32) (t3 : Int32), I u t0 t1 t2 t3 → wb_Mo_checkTaken_94 y Post (fun z t0q t1q t2q t3q => I z t0q t1q t2q t3q ∧ μ z t0q t1q t2q t3q < μ u t0 t1 t2 t3) a0 u t0 t1 t2 t3
def wj_Mo_checkTaken_68 (y : Ly) (Post : St → Int32 → Prop) (a0 : Nat) (s_j68 : St) (x1j68 : Int32) (x2j68 : Int32) (x4j68 : Int32) : Prop := wu_Mo_listWants y (fun (s_6 : St) => (((sV s_6 a0 79) ≤ (sV s_6 a0 72) → wl_Mo_checkTaken_94 y Post a0 s_6 x1j68 x4j68 0 0) ∧ (¬ ((sV s_6 a0 79) ≤ (sV s_6 a0 72)) → Post s_6 31))) s_j68 a0 x1j68 x2j68
def wj_Mo_checkTaken_32 (y : Ly) (Post : St → Int32 → Prop) (a0 : Nat) (s_j32 : St) (x1j32 : Int32) (x2j32 : Int32) (z0j32 : Int32) : Prop := ∃ b_1 : Nat, sO s_j32 a0 45 = some b_1 ∧ cl b_1 = 13 ∧ xA y s_j32 b_1 31 x2j32 (fun x_4 : Int32 => ((z0j32 = 0 → wj_Mo_checkTaken_68 y Post a0 s_j32 x1j32 x2j32 x_4) ∧ (¬ (z0j32 = 0) → ∃ b_26 : Nat, sO s_j32 a0 45 = some b_26 ∧ cl b_26 = 13 ∧ xA y s_j32 b_26 22 (sV s_j32 a0 75) (fun x_29 : Int32 => ((x_4 < x_29 → wj_Mo_checkTaken_68 y Post a0 s_j32 x1j32 x2j32 x_4) ∧ (¬ (x_4 < x_29) → Post s_j32 33))))))
def wj_Mo_checkTaken_27 (y : Ly) (Post : St → Int32 → Prop) (a0 : Nat) (s_j27 : St) (x1j27 : Int32) (x2j27 : Int32) : Prop := wj_Mo_checkTaken_32 y Post a0 s_j27 x1j27 x2j27 1
def wu_Mo_checkTaken (y : Ly) (Post : St → Int32 → Prop) (σ : St) (a0 : Nat) (v1 : Int32) (v2 : Int32) : Prop := ((v1 = 3 → wj_Mo_checkTaken_27 y Post a0 σ v1 v2) ∧ (¬ (v1 = 3) → ((v1 = 4 → wj_Mo_checkTaken_27 y Post a0 σ v1 v2) ∧ (¬ (v1 = 4) → ((v1 = 5 → wj_Mo_checkTaken_27 y Post a0 σ v1 v2) ∧ (¬ (v1 = 5) → ((v1 = 6 → wj_Mo_checkTaken_27 y Post a0 σ v1 v2) ∧ (¬ (v1 = 6) → ((¬ v1 = 7 → wj_Mo_checkTaken_32 y Post a0 σ v1 v2 0) ∧ (v1 = 7 → wj_Mo_checkTaken_27 y Post a0 σ v1 v2))))))))))
set_option maxHeartbeats 4000000 in
set_option maxRecDepth 100000 in
theorem cu_Mo_checkTaken (l : Launch) (D : va_G) (g : Nat → ClassId) (ad : Nat → Nat) (y : Ly) (Post : St → Int32 → Prop) (σ : St) (a0 : Nat) (v1 : Int32) (v2 : Int32) (sz : Nat) (h_a0 : cl a0 = 14) (h : wu_Mo_checkTaken y Post σ a0 v1 v2) : Met l y_Mo_checkTaken (mw y_Mo_checkTaken b_Mo_checkTaken 10 (some .int)) ru_Mo_checkTaken (PC g D [] [.ref (ad a0), .int v1, .int v2] sz (ws g ad y σ)) (va_Qi (fun (r : Int32) (u : St) => Post u r) (QW D (va_A (ws g ad y σ) sz) (fun u => ws g ad y u)) (va_A (ws g ad y σ) sz)) 0 0 (va_A (ws g ad y σ) sz) := by
  refine ofI (by decide +kernel) (Nat.le_of_ble_eq_true rfl) ?_
  intro p e s m args below meth c A Q ls H locs G hsz hP hD hS hl hret
  subst hsz
  have hl : lv_has ls 10 [(0, .ref (ad a0)), (1, .int v1), (2, .int v2)] := hl
  unfold wu_Mo_checkTaken at h
  refine lv_iload_n G.1 G.2.1 d_Mo_checkTaken_0 rfl (lv_at hl 1 rfl) ?_
  refine lv_iconst (v := 3) G.1 G.2.1 d_Mo_checkTaken_1 (by decide) ?_
  have J_32 : ∀ (s_j32 : St) (x1j32 : Int32) (x2j32 : Int32) (z0j32 : Int32) (H : Heap) (locs : List Loc), wj_Mo_checkTaken_32 y Post a0 s_j32 x1j32 x2j32 z0j32 → va_P D CL (ws g ad y s_j32) H → va_D A (ws g ad y s_j32) → va_S A s.heap H locs → ∀ ls, lv_has ls 10 [(0, .ref (ad a0)), (1, .int x1j32), (2, .int x2j32)] → W p l e ru_Mo_checkTaken s m args below meth c H locs 0 0 Q (F0 m 32 ls [.int z0j32]) := by
    intro s_j32 x1j32 x2j32 z0j32 H locs h hP hD hS ls hl
    unfold wj_Mo_checkTaken_32 at h
    refine lv_istore_n (lv' := [(3, .int z0j32), (0, .ref (ad a0)), (1, .int x1j32), (2, .int x2j32)]) G.1 G.2.1 d_Mo_checkTaken_32 rfl hl (by decide) rfl (fun ls hl => ?_)
    refine lv_aload_n G.1 G.2.1 d_Mo_checkTaken_33 rfl (lv_at hl 1 rfl) ?_
    obtain ⟨b_1, e_2, c_3, h⟩ := h
    refine ugf (v := .ref (ad b_1)) G hP h_a0 iMo rfl 45 (by decide) rfl q3109 rfl (by show va_rf ((sO s_j32 a0 45).map ad) = _; rw [e_2]; rfl) d_Mo_checkTaken_34 ?_
    refine ugfN (v := .ref (yP y b_1 31)) G hP c_3 iMw rfl 31 (by decide) rfl q2766 rfl rfl d_Mo_checkTaken_37 ?_
    refine lv_iload_n G.1 G.2.1 d_Mo_checkTaken_40 rfl (lv_at hl 3 rfl) ?_
    refine uiald G hP (kdp c_3 rfl) (typ c_3 rfl) h d_Mo_checkTaken_41 (fun x_4 h => ?_)
    refine lv_istore (lv' := [(4, .int x_4), (3, .int z0j32), (0, .ref (ad a0)), (1, .int x1j32), (2, .int x2j32)]) G.1 G.2.1 d_Mo_checkTaken_42 hl (by decide) rfl (fun ls hl => ?_)
    refine lv_iload_n G.1 G.2.1 d_Mo_checkTaken_44 rfl (lv_at hl 1 rfl) ?_
    have J_68 : ∀ (s_j68 : St) (x1j68 : Int32) (x2j68 : Int32) (x4j68 : Int32) (H : Heap) (locs : List Loc), wj_Mo_checkTaken_68 y Post a0 s_j68 x1j68 x2j68 x4j68 → va_P D CL (ws g ad y s_j68) H → va_D A (ws g ad y s_j68) → va_S A s.heap H locs → ∀ ls, lv_has ls 10 [(0, .ref (ad a0)), (1, .int x1j68), (2, .int x2j68), (4, .int x4j68)] → W p l e ru_Mo_checkTaken s m args below meth c H locs 0 0 Q (F0 m 68 ls []) := by
      intro s_j68 x1j68 x2j68 x4j68 H locs h hP hD hS ls hl
      unfold wj_Mo_checkTaken_68 at h
      refine lv_aload_n G.1 G.2.1 d_Mo_checkTaken_68 rfl (lv_at hl 0 rfl) ?_
      refine lv_iload_n G.1 G.2.1 d_Mo_checkTaken_69 rfl (lv_at hl 1 rfl) ?_
      refine lv_iload_n G.1 G.2.1 d_Mo_checkTaken_70 rfl (lv_at hl 2 rfl) ?_
      refine ucVv (As := [.int x1j68, .int x2j68]) (rest := []) G hP hD hS (cu_Mo_listWants l D g ad y _ s_j68 a0 x1j68 x2j68 H.size h_a0 h) w9_Mo_listWants q3753 ⟨Nat.le_of_ble_eq_true rfl, Nat.le_of_ble_eq_true rfl⟩ rfl rfl h_a0 (q := (RMo, TMo, 131)) rfl rfl hl.1 rfl (Nat.le_of_ble_eq_true rfl) rfl ⟨Nat.le_refl _, Nat.le_refl _⟩ d_Mo_checkTaken_71 (fun s_6 H locs h hP hD hS => ?_)
      refine lv_aload_n G.1 G.2.1 d_Mo_checkTaken_74 rfl (lv_at hl 0 rfl) ?_
      refine ugf (v := .int (sV s_6 a0 72)) G hP h_a0 iMo rfl 72 (by decide) rfl q3136 rfl rfl d_Mo_checkTaken_75 ?_
      refine lv_aload_n G.1 G.2.1 d_Mo_checkTaken_78 rfl (lv_at hl 0 rfl) ?_
      refine ugf (v := .int (sV s_6 a0 79)) G hP h_a0 iMo rfl 79 (by decide) rfl q3143 rfl rfl d_Mo_checkTaken_79 ?_
      refine lv_icmp_ge (tgt := 88) G.1 G.2.1 d_Mo_checkTaken_82 (by decide) (fun c82 => ?_) (fun c82 => ?_)
      · skip
        have h := h.1 c82
        refine lv_iconst (v := 0) G.1 G.2.1 d_Mo_checkTaken_88 (by decide) ?_
        refine lv_istore (lv' := [(5, .int 0), (0, .ref (ad a0)), (1, .int x1j68), (2, .int x2j68), (4, .int x4j68)]) G.1 G.2.1 d_Mo_checkTaken_89 hl (by decide) rfl (fun ls hl => ?_)
        refine W.eq (g2 := F0 m 91 ls []) rfl ?_
        refine lv_iconst (v := 0) G.1 G.2.1 d_Mo_checkTaken_91 (by decide) ?_
        refine lv_istore (lv' := [(6, .int 0), (5, .int 0), (0, .ref (ad a0)), (1, .int x1j68), (2, .int x2j68), (4, .int x4j68)]) G.1 G.2.1 d_Mo_checkTaken_92 hl (by decide) rfl (fun ls hl => ?_)
        unfold wl_Mo_checkTaken_94 at h
        obtain ⟨I_94, μ_94, hI_94, hB_94⟩ := h
        have L_94 : ∀ (n_94 : Nat) (s_h94 : St) (x1h94 : Int32) (x4h94 : Int32) (x5h94 : Int32) (x6h94 : Int32), μ_94 s_h94 x1h94 x4h94 x5h94 x6h94 < n_94 → I_94 s_h94 x1h94 x4h94 x5h94 x6h94 → ∀ (H : Heap) (locs : List Loc), va_P D CL (ws g ad y s_h94) H → va_D A (ws g ad y s_h94) → va_S A s.heap H locs → ∀ ls, lv_has ls 10 [(0, .ref (ad a0)), (1, .int x1h94), (4, .int x4h94), (5, .int x5h94), (6, .int x6h94)] → W p l e ru_Mo_checkTaken s m args below meth c H locs 0 0 Q (F0 m 94 ls []) := by
          intro n_94
          induction n_94 with
          | zero => intro s_h94 x1h94 x4h94 x5h94 x6h94 hμ; exact absurd hμ (Nat.not_lt_zero _)
          | succ n_94 ih_94 =>
            intro s_h94 x1h94 x4h94 x5h94 x6h94 hμ_94 hJ H locs hP hD hS ls hl
            obtain ⟨K_94, hK_94, h⟩ : ∃ K : St → Int32 → Int32 → Int32 → Int32 → Prop, (∀ z (t0 : Int32) (t1 : Int32) (t2 : Int32) (t3 : Int32), K z t0 t1 t2 t3 → I_94 z t0 t1 t2 t3 ∧ μ_94 z t0 t1 t2 t3 < μ_94 s_h94 x1h94 x4h94 x5h94 x6h94) ∧ wb_Mo_checkTaken_94 y Post K a0 s_h94 x1h94 x4h94 x5h94 x6h94 := ⟨_, fun _ _ _ _ _ h => h, hB_94 s_h94 x1h94 x4h94 x5h94 x6h94 hJ⟩
            unfold wb_Mo_checkTaken_94 at h
            refine lv_iload G.1 G.2.1 d_Mo_checkTaken_94 (lv_at hl 4 rfl) ?_
            refine lv_aload_n G.1 G.2.1 d_Mo_checkTaken_96 rfl (lv_at hl 0 rfl) ?_
            refine ugf (v := .int (sV s_h94 a0 79)) G hP h_a0 iMo rfl 79 (by decide) rfl q3143 rfl rfl d_Mo_checkTaken_97 ?_
            refine lv_icmp_ge (tgt := 274) G.1 G.2.1 d_Mo_checkTaken_100 (by decide) (fun c100 => ?_) (fun c100 => ?_)
            · skip
              have h := h.1 c100
              refine lv_iload_n G.1 G.2.1 d_Mo_checkTaken_274 rfl (lv_at hl 1 rfl) ?_
              refine lv_iconst (v := 3) G.1 G.2.1 d_Mo_checkTaken_275 (by decide) ?_
              have J_327 : ∀ (s_j327 : St) (H : Heap) (locs : List Loc), wj_Mo_checkTaken_327 y Post a0 s_j327 → va_P D CL (ws g ad y s_j327) H → va_D A (ws g ad y s_j327) → va_S A s.heap H locs → ∀ ls, lv_has ls 10 [] → W p l e ru_Mo_checkTaken s m args below meth c H locs 0 0 Q (F0 m 327 ls []) := by
                intro s_j327 H locs h hP hD hS ls hl
                unfold wj_Mo_checkTaken_327 at h
                refine lv_bipush (v := 34) G.1 G.2.1 d_Mo_checkTaken_327 (by decide) ?_
                exact hret _ _ _ _ _ _ _ ls h hP hD hS (Nat.le_refl _) (Nat.le_refl _) d_Mo_checkTaken_329
              have J_296 : ∀ (s_j296 : St) (x1j296 : Int32) (x4j296 : Int32) (x5j296 : Int32) (H : Heap) (locs : List Loc), wj_Mo_checkTaken_296 y Post a0 s_j296 x1j296 x4j296 x5j296 → va_P D CL (ws g ad y s_j296) H → va_D A (ws g ad y s_j296) → va_S A s.heap H locs → ∀ ls, lv_has ls 10 [(0, .ref (ad a0)), (1, .int x1j296), (4, .int x4j296), (5, .int x5j296)] → W p l e ru_Mo_checkTaken s m args below meth c H locs 0 0 Q (F0 m 296 ls []) := by
                intro s_j296 x1j296 x4j296 x5j296 H locs h hP hD hS ls hl
                unfold wj_Mo_checkTaken_296 at h
                refine lv_iload_n G.1 G.2.1 d_Mo_checkTaken_296 rfl (lv_at hl 1 rfl) ?_
                refine lv_iconst (v := 4) G.1 G.2.1 d_Mo_checkTaken_297 (by decide) ?_
                have J_330 : ∀ (s_j330 : St) (x5j330 : Int32) (H : Heap) (locs : List Loc), wj_Mo_checkTaken_330 y Post a0 s_j330 x5j330 → va_P D CL (ws g ad y s_j330) H → va_D A (ws g ad y s_j330) → va_S A s.heap H locs → ∀ ls, lv_has ls 10 [(5, .int x5j330)] → W p l e ru_Mo_checkTaken s m args below meth c H locs 0 0 Q (F0 m 330 ls []) := by
                  intro s_j330 x5j330 H locs h hP hD hS ls hl
                  unfold wj_Mo_checkTaken_330 at h
                  refine lv_iload G.1 G.2.1 d_Mo_checkTaken_330 (lv_at hl 0 rfl) ?_
                  have J_341 : ∀ (s_j341 : St) (z0j341 : Int32) (H : Heap) (locs : List Loc), wj_Mo_checkTaken_341 y Post a0 s_j341 z0j341 → va_P D CL (ws g ad y s_j341) H → va_D A (ws g ad y s_j341) → va_S A s.heap H locs → ∀ ls, lv_has ls 10 [] → W p l e ru_Mo_checkTaken s m args below meth c H locs 0 0 Q (F0 m 341 ls [.int z0j341]) := by
                    intro s_j341 z0j341 H locs h hP hD hS ls hl
                    unfold wj_Mo_checkTaken_341 at h
                    exact hret _ _ _ _ _ _ _ ls h hP hD hS (Nat.le_refl _) (Nat.le_refl _) d_Mo_checkTaken_341
                  refine lv_if_eq (tgt := 340) G.1 G.2.1 d_Mo_checkTaken_332 (by decide) (fun c332 => ?_) (fun c332 => ?_)
                  · skip
                    have h := h.1 c332
                    refine lv_iconst (v := 0) G.1 G.2.1 d_Mo_checkTaken_340 (by decide) ?_
                    exact J_341 s_j330 0 H locs h hP hD hS ls (lv_sub hl [] rfl)
                  · skip
                    have h := h.2 c332
                    refine lv_bipush (v := 39) G.1 G.2.1 d_Mo_checkTaken_335 (by decide) ?_
                    refine lv_goto (tgt := 341) G.1 G.2.1 d_Mo_checkTaken_337 (by decide) ?_
                    exact J_341 s_j330 39 H locs h hP hD hS ls (lv_sub hl [] rfl)
                refine lv_icmp_ne (tgt := 330) G.1 G.2.1 d_Mo_checkTaken_298 (by decide) (fun c298 => ?_) (fun c298 => ?_)
                · skip
                  have h := h.1 c298
                  exact J_330 s_j296 x5j296 H locs h hP hD hS ls (lv_sub hl [3] rfl)
                · skip
                  have h := h.2 c298
                  refine lv_aload_n G.1 G.2.1 d_Mo_checkTaken_301 rfl (lv_at hl 0 rfl) ?_
                  refine ugf (v := .ref (yP y a0 70)) G hP h_a0 iMo rfl 70 (by decide) rfl q3134 rfl rfl d_Mo_checkTaken_302 ?_
                  refine lv_iload G.1 G.2.1 d_Mo_checkTaken_305 (lv_at hl 2 rfl) ?_
                  refine uiald G hP (kdp h_a0 rfl) (typ h_a0 rfl) h d_Mo_checkTaken_307 (fun x_7 h => ?_)
                  refine ucSi (As := [.int x_7]) (rest := []) G hP hD hS (cu_Mo_isRef l D g ad y _ s_j296 x_7 H.size  h) w9_Mo_isRef q3761 ⟨Nat.le_of_ble_eq_true rfl, Nat.le_of_ble_eq_true rfl⟩ rfl rfl hl.1 rfl (Nat.le_of_ble_eq_true rfl) rfl ⟨Nat.le_refl _, Nat.le_refl _⟩ d_Mo_checkTaken_308 (fun r_8 s_9 H locs h hP hD hS => ?_)
                  refine lv_if_ne (tgt := 330) G.1 G.2.1 d_Mo_checkTaken_311 (by decide) (fun c311 => ?_) (fun c311 => ?_)
                  · skip
                    have h := h.1 c311
                    exact J_330 s_9 x5j296 H locs h hP hD hS ls (lv_sub hl [3] rfl)
                  · skip
                    have h := h.2 c311
                    refine lv_aload_n G.1 G.2.1 d_Mo_checkTaken_314 rfl (lv_at hl 0 rfl) ?_
                    refine ugf (v := .ref (yP y a0 70)) G hP h_a0 iMo rfl 70 (by decide) rfl q3134 rfl rfl d_Mo_checkTaken_315 ?_
                    refine W.eq (g2 := F0 m 318 ls [.ref (yP y a0 70)]) rfl ?_
                    refine lv_iload G.1 G.2.1 d_Mo_checkTaken_318 (lv_at hl 2 rfl) ?_
                    refine uiald G hP (kdp h_a0 rfl) (typ h_a0 rfl) h d_Mo_checkTaken_320 (fun x_10 h => ?_)
                    refine ucSi (As := [.int x_10]) (rest := []) G hP hD hS (cu_Mo_isUnmade l D g ad y _ s_9 x_10 H.size  h) w9_Mo_isUnmade q3764 ⟨Nat.le_of_ble_eq_true rfl, Nat.le_of_ble_eq_true rfl⟩ rfl rfl hl.1 rfl (Nat.le_of_ble_eq_true rfl) rfl ⟨Nat.le_refl _, Nat.le_refl _⟩ d_Mo_checkTaken_321 (fun r_11 s_12 H locs h hP hD hS => ?_)
                    refine lv_if_ne (tgt := 330) G.1 G.2.1 d_Mo_checkTaken_324 (by decide) (fun c324 => ?_) (fun c324 => ?_)
                    · skip
                      have h := h.1 c324
                      exact J_330 s_12 x5j296 H locs h hP hD hS ls (lv_sub hl [3] rfl)
                    · skip
                      have h := h.2 c324
                      exact J_327 s_12 H locs h hP hD hS ls (lv_sub hl [] rfl)
              have J_285 : ∀ (s_j285 : St) (x1j285 : Int32) (x4j285 : Int32) (x5j285 : Int32) (H : Heap) (locs : List Loc), wj_Mo_checkTaken_285 y Post a0 s_j285 x1j285 x4j285 x5j285 → va_P D CL (ws g ad y s_j285) H → va_D A (ws g ad y s_j285) → va_S A s.heap H locs → ∀ ls, lv_has ls 10 [(0, .ref (ad a0)), (1, .int x1j285), (4, .int x4j285), (5, .int x5j285)] → W p l e ru_Mo_checkTaken s m args below meth c H locs 0 0 Q (F0 m 285 ls []) := by
                intro s_j285 x1j285 x4j285 x5j285 H locs h hP hD hS ls hl
                unfold wj_Mo_checkTaken_285 at h
                refine lv_aload_n G.1 G.2.1 d_Mo_checkTaken_285 rfl (lv_at hl 0 rfl) ?_
                refine ugf (v := .ref (yP y a0 70)) G hP h_a0 iMo rfl 70 (by decide) rfl q3134 rfl rfl d_Mo_checkTaken_286 ?_
                refine lv_iload G.1 G.2.1 d_Mo_checkTaken_289 (lv_at hl 2 rfl) ?_
                refine uiald G hP (kdp h_a0 rfl) (typ h_a0 rfl) h d_Mo_checkTaken_291 (fun x_13 h => ?_)
                refine lv_iconst (v := 1) G.1 G.2.1 d_Mo_checkTaken_292 (by decide) ?_
                refine lv_icmp_ne (tgt := 327) G.1 G.2.1 d_Mo_checkTaken_293 (by decide) (fun c293 => ?_) (fun c293 => ?_)
                · skip
                  have h := h.1 c293
                  exact J_327 s_j285 H locs h hP hD hS ls (lv_sub hl [] rfl)
                · skip
                  have h := h.2 c293
                  exact J_296 s_j285 x1j285 x4j285 x5j285 H locs h hP hD hS ls (lv_sub hl [0, 1, 2, 3] rfl)
              refine lv_icmp_eq (tgt := 285) G.1 G.2.1 d_Mo_checkTaken_276 (by decide) (fun c276 => ?_) (fun c276 => ?_)
              · skip
                have h := h.1 c276
                exact J_285 s_h94 x1h94 x4h94 x5h94 H locs h hP hD hS ls (lv_sub hl [0, 1, 2, 3] rfl)
              · skip
                have h := h.2 c276
                refine lv_iload_n G.1 G.2.1 d_Mo_checkTaken_279 rfl (lv_at hl 1 rfl) ?_
                refine lv_bipush (v := 7) G.1 G.2.1 d_Mo_checkTaken_280 (by decide) ?_
                refine lv_icmp_ne (tgt := 296) G.1 G.2.1 d_Mo_checkTaken_282 (by decide) (fun c282 => ?_) (fun c282 => ?_)
                · skip
                  have h := h.1 c282
                  exact J_296 s_h94 x1h94 x4h94 x5h94 H locs h hP hD hS ls (lv_sub hl [0, 1, 2, 3] rfl)
                · skip
                  have h := h.2 c282
                  exact J_285 s_h94 x1h94 x4h94 x5h94 H locs h hP hD hS ls (lv_sub hl [0, 1, 2, 3] rfl)
            · skip
              have h := h.2 c100
              refine lv_aload_n G.1 G.2.1 d_Mo_checkTaken_103 rfl (lv_at hl 0 rfl) ?_
              refine ugf (v := .ref (yP y a0 71)) G hP h_a0 iMo rfl 71 (by decide) rfl q3135 rfl rfl d_Mo_checkTaken_104 ?_
              refine lv_aload_n G.1 G.2.1 d_Mo_checkTaken_107 rfl (lv_at hl 0 rfl) ?_
              refine ugf (v := .int (sV s_h94 a0 72)) G hP h_a0 iMo rfl 72 (by decide) rfl q3136 rfl rfl d_Mo_checkTaken_108 ?_
              refine lv_iconst (v := 1) G.1 G.2.1 d_Mo_checkTaken_111 (by decide) ?_
              refine lv_isub G.1 G.2.1 d_Mo_checkTaken_112 ?_
              refine lv_iload G.1 G.2.1 d_Mo_checkTaken_113 (lv_at hl 4 rfl) ?_
              refine W.eq (g2 := F0 m 115 ls [.int x6h94, .int ((sV s_h94 a0 72) - 1), .ref (yP y a0 71)]) rfl ?_
              refine lv_isub G.1 G.2.1 d_Mo_checkTaken_115 ?_
              refine uiald G hP (kdp h_a0 rfl) (typ h_a0 rfl) h d_Mo_checkTaken_116 (fun x_14 h => ?_)
              refine lv_istore (lv' := [(7, .int x_14), (0, .ref (ad a0)), (1, .int x1h94), (4, .int x4h94), (5, .int x5h94), (6, .int x6h94)]) G.1 G.2.1 d_Mo_checkTaken_117 hl (by decide) rfl (fun ls hl => ?_)
              refine lv_aload_n G.1 G.2.1 d_Mo_checkTaken_119 rfl (lv_at hl 1 rfl) ?_
              refine ugf (v := .ref (yP y a0 78)) G hP h_a0 iMo rfl 78 (by decide) rfl q3142 rfl rfl d_Mo_checkTaken_120 ?_
              refine lv_iload G.1 G.2.1 d_Mo_checkTaken_123 (lv_at hl 5 rfl) ?_
              refine uiald G hP (kdp h_a0 rfl) (typ h_a0 rfl) h d_Mo_checkTaken_125 (fun x_15 h => ?_)
              refine lv_istore (lv' := [(8, .int x_15), (7, .int x_14), (0, .ref (ad a0)), (1, .int x1h94), (4, .int x4h94), (5, .int x5h94), (6, .int x6h94)]) G.1 G.2.1 d_Mo_checkTaken_126 hl (by decide) rfl (fun ls hl => ?_)
              refine lv_iconst (v := 0) G.1 G.2.1 d_Mo_checkTaken_128 (by decide) ?_
              refine lv_istore (lv' := [(9, .int 0), (8, .int x_15), (7, .int x_14), (0, .ref (ad a0)), (1, .int x1h94), (4, .int x4h94), (5, .int x5h94), (6, .int x6h94)]) G.1 G.2.1 d_Mo_checkTaken_129 hl (by decide) rfl (fun ls hl => ?_)
              refine lv_iload G.1 G.2.1 d_Mo_checkTaken_131 (lv_at hl 1 rfl) ?_
              refine lv_bipush (v := 8) G.1 G.2.1 d_Mo_checkTaken_133 (by decide) ?_
              have J_268 : ∀ (s_j268 : St) (x1j268 : Int32) (x4j268 : Int32) (x5j268 : Int32) (x6j268 : Int32) (H : Heap) (locs : List Loc), wj_Mo_checkTaken_268 y Post K_94 a0 s_j268 x1j268 x4j268 x5j268 x6j268 → va_P D CL (ws g ad y s_j268) H → va_D A (ws g ad y s_j268) → va_S A s.heap H locs → ∀ ls, lv_has ls 10 [(0, .ref (ad a0)), (1, .int x1j268), (4, .int x4j268), (5, .int x5j268), (6, .int x6j268)] → W p l e ru_Mo_checkTaken s m args below meth c H locs 0 0 Q (F0 m 268 ls []) := by
                intro s_j268 x1j268 x4j268 x5j268 x6j268 H locs h hP hD hS ls hl
                unfold wj_Mo_checkTaken_268 at h
                refine lv_iinc (v := x6j268 + 1) (lv' := [(6, .int (x6j268 + 1)), (0, .ref (ad a0)), (1, .int x1j268), (4, .int x4j268), (5, .int x5j268)]) G.1 G.2.1 d_Mo_checkTaken_268 hl (k := 4) rfl rfl (by decide) rfl (fun ls hl => ?_)
                refine lv_goto (tgt := 94) G.1 G.2.1 d_Mo_checkTaken_271 (by decide) ?_
                have h := hK_94 s_j268 x1j268 x4j268 x5j268 (x6j268 + 1) h
                exact ih_94 s_j268 x1j268 x4j268 x5j268 (x6j268 + 1) (Nat.lt_of_lt_of_le h.2 (Nat.le_of_lt_succ hμ_94)) h.1 H locs hP hD hS ls (lv_sub hl [1, 2, 3, 4, 0] rfl)
              refine W.eq (g2 := F0 m 135 ls [.int 8, .int x_15]) rfl ?_
              refine lv_icmp_ne (tgt := 141) G.1 G.2.1 d_Mo_checkTaken_135 (by decide) (fun c135 => ?_) (fun c135 => ?_)
              · skip
                have h := h.1 c135
                refine lv_iload G.1 G.2.1 d_Mo_checkTaken_141 (lv_at hl 1 rfl) ?_
                refine lv_bipush (v := 7) G.1 G.2.1 d_Mo_checkTaken_143 (by decide) ?_
                have J_248 : ∀ (s_j248 : St) (x1j248 : Int32) (x4j248 : Int32) (x5j248 : Int32) (x6j248 : Int32) (x9j248 : Int32) (H : Heap) (locs : List Loc), wj_Mo_checkTaken_248 y Post K_94 a0 s_j248 x1j248 x4j248 x5j248 x6j248 x9j248 → va_P D CL (ws g ad y s_j248) H → va_D A (ws g ad y s_j248) → va_S A s.heap H locs → ∀ ls, lv_has ls 10 [(0, .ref (ad a0)), (1, .int x1j248), (4, .int x4j248), (5, .int x5j248), (6, .int x6j248), (9, .int x9j248)] → W p l e ru_Mo_checkTaken s m args below meth c H locs 0 0 Q (F0 m 248 ls []) := by
                  intro s_j248 x1j248 x4j248 x5j248 x6j248 x9j248 H locs h hP hD hS ls hl
                  unfold wj_Mo_checkTaken_248 at h
                  refine lv_iload G.1 G.2.1 d_Mo_checkTaken_248 (lv_at hl 5 rfl) ?_
                  refine lv_if_le (tgt := 268) G.1 G.2.1 d_Mo_checkTaken_250 (by decide) (fun c250 => ?_) (fun c250 => ?_)
                  · skip
                    have h := h.1 c250
                    exact J_268 s_j248 x1j248 x4j248 x5j248 x6j248 H locs h hP hD hS ls (lv_sub hl [0, 1, 2, 3, 4] rfl)
                  · skip
                    have h := h.2 c250
                    refine lv_iload G.1 G.2.1 d_Mo_checkTaken_253 (lv_at hl 5 rfl) ?_
                    refine lv_bipush (v := 43) G.1 G.2.1 d_Mo_checkTaken_255 (by decide) ?_
                    have J_267 : ∀ (s_j267 : St) (z0j267 : Int32) (H : Heap) (locs : List Loc), wj_Mo_checkTaken_267 y Post a0 s_j267 z0j267 → va_P D CL (ws g ad y s_j267) H → va_D A (ws g ad y s_j267) → va_S A s.heap H locs → ∀ ls, lv_has ls 10 [] → W p l e ru_Mo_checkTaken s m args below meth c H locs 0 0 Q (F0 m 267 ls [.int z0j267]) := by
                      intro s_j267 z0j267 H locs h hP hD hS ls hl
                      unfold wj_Mo_checkTaken_267 at h
                      exact hret _ _ _ _ _ _ _ ls h hP hD hS (Nat.le_refl _) (Nat.le_refl _) d_Mo_checkTaken_267
                    refine lv_icmp_ne (tgt := 265) G.1 G.2.1 d_Mo_checkTaken_257 (by decide) (fun c257 => ?_) (fun c257 => ?_)
                    · skip
                      have h := h.1 c257
                      refine lv_bipush (v := 32) G.1 G.2.1 d_Mo_checkTaken_265 (by decide) ?_
                      exact J_267 s_j248 32 H locs h hP hD hS ls (lv_sub hl [] rfl)
                    · skip
                      have h := h.2 c257
                      refine lv_bipush (v := 43) G.1 G.2.1 d_Mo_checkTaken_260 (by decide) ?_
                      refine lv_goto (tgt := 267) G.1 G.2.1 d_Mo_checkTaken_262 (by decide) ?_
                      exact J_267 s_j248 43 H locs h hP hD hS ls (lv_sub hl [] rfl)
                refine lv_icmp_ne (tgt := 175) G.1 G.2.1 d_Mo_checkTaken_145 (by decide) (fun c145 => ?_) (fun c145 => ?_)
                · skip
                  have h := h.1 c145
                  refine lv_iload G.1 G.2.1 d_Mo_checkTaken_175 (lv_at hl 1 rfl) ?_
                  refine lv_iconst (v := 1) G.1 G.2.1 d_Mo_checkTaken_177 (by decide) ?_
                  refine lv_icmp_ne (tgt := 198) G.1 G.2.1 d_Mo_checkTaken_178 (by decide) (fun c178 => ?_) (fun c178 => ?_)
                  · skip
                    have h := h.1 c178
                    refine lv_iload G.1 G.2.1 d_Mo_checkTaken_198 (lv_at hl 2 rfl) ?_
                    refine ucSi (As := [.int x_14]) (rest := []) G hP hD hS (cu_Mo_isUnmade l D g ad y _ s_h94 x_14 H.size  h) w9_Mo_isUnmade q3764 ⟨Nat.le_of_ble_eq_true rfl, Nat.le_of_ble_eq_true rfl⟩ rfl rfl hl.1 rfl (Nat.le_of_ble_eq_true rfl) rfl ⟨Nat.le_refl _, Nat.le_refl _⟩ d_Mo_checkTaken_200 (fun r_16 s_17 H locs h hP hD hS => ?_)
                    refine lv_if_eq (tgt := 212) G.1 G.2.1 d_Mo_checkTaken_203 (by decide) (fun c203 => ?_) (fun c203 => ?_)
                    · skip
                      have h := h.1 c203
                      refine lv_iload G.1 G.2.1 d_Mo_checkTaken_212 (lv_at hl 1 rfl) ?_
                      refine lv_bipush (v := 6) G.1 G.2.1 d_Mo_checkTaken_214 (by decide) ?_
                      refine W.eq (g2 := F0 m 216 ls [.int 6, .int x_15]) rfl ?_
                      refine lv_icmp_ne (tgt := 238) G.1 G.2.1 d_Mo_checkTaken_216 (by decide) (fun c216 => ?_) (fun c216 => ?_)
                      · skip
                        have h := h.1 c216
                        refine lv_aload_n G.1 G.2.1 d_Mo_checkTaken_238 rfl (lv_at hl 3 rfl) ?_
                        refine lv_iload G.1 G.2.1 d_Mo_checkTaken_239 (lv_at hl 2 rfl) ?_
                        refine lv_iload G.1 G.2.1 d_Mo_checkTaken_241 (lv_at hl 1 rfl) ?_
                        refine ucVi (As := [.int x_14, .int x_15]) (rest := []) G hP hD hS (cu_Mo_fit l D g ad y _ s_17 a0 x_14 x_15 H.size h_a0 h) w9_Mo_fit q3729 ⟨Nat.le_of_ble_eq_true rfl, Nat.le_of_ble_eq_true rfl⟩ rfl rfl h_a0 (q := (RMo, TMo, 131)) rfl rfl hl.1 rfl (Nat.le_of_ble_eq_true rfl) rfl ⟨Nat.le_refl _, Nat.le_refl _⟩ d_Mo_checkTaken_243 (fun r_18 s_19 H locs h hP hD hS => ?_)
                        refine lv_istore (lv' := [(9, .int r_18), (8, .int x_15), (7, .int x_14), (0, .ref (ad a0)), (1, .int x1h94), (4, .int x4h94), (5, .int x5h94), (6, .int x6h94)]) G.1 G.2.1 d_Mo_checkTaken_246 hl (by decide) rfl (fun ls hl => ?_)
                        exact J_248 s_19 x1h94 x4h94 x5h94 x6h94 r_18 H locs h hP hD hS ls (lv_sub hl [3, 4, 5, 6, 7, 0] rfl)
                      · skip
                        have h := h.2 c216
                        refine lv_iload G.1 G.2.1 d_Mo_checkTaken_219 (lv_at hl 2 rfl) ?_
                        refine ucSi (As := [.int x_14]) (rest := []) G hP hD hS (cu_Mo_isRef l D g ad y _ s_17 x_14 H.size  h) w9_Mo_isRef q3761 ⟨Nat.le_of_ble_eq_true rfl, Nat.le_of_ble_eq_true rfl⟩ rfl rfl hl.1 rfl (Nat.le_of_ble_eq_true rfl) rfl ⟨Nat.le_refl _, Nat.le_refl _⟩ d_Mo_checkTaken_221 (fun r_20 s_21 H locs h hP hD hS => ?_)
                        have J_233 : ∀ (s_j233 : St) (x1j233 : Int32) (x4j233 : Int32) (x5j233 : Int32) (x6j233 : Int32) (z0j233 : Int32) (H : Heap) (locs : List Loc), wj_Mo_checkTaken_233 y Post K_94 a0 s_j233 x1j233 x4j233 x5j233 x6j233 z0j233 → va_P D CL (ws g ad y s_j233) H → va_D A (ws g ad y s_j233) → va_S A s.heap H locs → ∀ ls, lv_has ls 10 [(0, .ref (ad a0)), (1, .int x1j233), (4, .int x4j233), (5, .int x5j233), (6, .int x6j233)] → W p l e ru_Mo_checkTaken s m args below meth c H locs 0 0 Q (F0 m 233 ls [.int z0j233]) := by
                          intro s_j233 x1j233 x4j233 x5j233 x6j233 z0j233 H locs h hP hD hS ls hl
                          unfold wj_Mo_checkTaken_233 at h
                          refine lv_istore (lv' := [(9, .int z0j233), (0, .ref (ad a0)), (1, .int x1j233), (4, .int x4j233), (5, .int x5j233), (6, .int x6j233)]) G.1 G.2.1 d_Mo_checkTaken_233 hl (by decide) rfl (fun ls hl => ?_)
                          refine lv_goto (tgt := 248) G.1 G.2.1 d_Mo_checkTaken_235 (by decide) ?_
                          exact J_248 s_j233 x1j233 x4j233 x5j233 x6j233 z0j233 H locs h hP hD hS ls (lv_sub hl [1, 2, 3, 4, 5, 0] rfl)
                        refine lv_if_eq (tgt := 231) G.1 G.2.1 d_Mo_checkTaken_224 (by decide) (fun c224 => ?_) (fun c224 => ?_)
                        · skip
                          have h := h.1 c224
                          refine lv_bipush (v := 37) G.1 G.2.1 d_Mo_checkTaken_231 (by decide) ?_
                          exact J_233 s_21 x1h94 x4h94 x5h94 x6h94 37 H locs h hP hD hS ls (lv_sub hl [3, 4, 5, 6, 7] rfl)
                        · skip
                          have h := h.2 c224
                          refine lv_iconst (v := 0) G.1 G.2.1 d_Mo_checkTaken_227 (by decide) ?_
                          refine lv_goto (tgt := 233) G.1 G.2.1 d_Mo_checkTaken_228 (by decide) ?_
                          exact J_233 s_21 x1h94 x4h94 x5h94 x6h94 0 H locs h hP hD hS ls (lv_sub hl [3, 4, 5, 6, 7] rfl)
                    · skip
                      have h := h.2 c203
                      refine lv_iconst (v := 1) G.1 G.2.1 d_Mo_checkTaken_206 (by decide) ?_
                      refine lv_istore (lv' := [(5, .int 1), (9, .int 0), (8, .int x_15), (7, .int x_14), (0, .ref (ad a0)), (1, .int x1h94), (4, .int x4h94), (6, .int x6h94)]) G.1 G.2.1 d_Mo_checkTaken_207 hl (by decide) rfl (fun ls hl => ?_)
                      refine W.eq (g2 := F0 m 209 ls []) rfl ?_
                      refine lv_goto (tgt := 248) G.1 G.2.1 d_Mo_checkTaken_209 (by decide) ?_
                      exact J_248 s_17 x1h94 x4h94 1 x6h94 0 H locs h hP hD hS ls (lv_sub hl [4, 5, 6, 0, 7, 1] rfl)
                  · skip
                    have h := h.2 c178
                    refine lv_iload G.1 G.2.1 d_Mo_checkTaken_181 (lv_at hl 2 rfl) ?_
                    refine lv_iconst (v := 1) G.1 G.2.1 d_Mo_checkTaken_183 (by decide) ?_
                    have J_193 : ∀ (s_j193 : St) (x1j193 : Int32) (x4j193 : Int32) (x5j193 : Int32) (x6j193 : Int32) (z0j193 : Int32) (H : Heap) (locs : List Loc), wj_Mo_checkTaken_193 y Post K_94 a0 s_j193 x1j193 x4j193 x5j193 x6j193 z0j193 → va_P D CL (ws g ad y s_j193) H → va_D A (ws g ad y s_j193) → va_S A s.heap H locs → ∀ ls, lv_has ls 10 [(0, .ref (ad a0)), (1, .int x1j193), (4, .int x4j193), (5, .int x5j193), (6, .int x6j193)] → W p l e ru_Mo_checkTaken s m args below meth c H locs 0 0 Q (F0 m 193 ls [.int z0j193]) := by
                      intro s_j193 x1j193 x4j193 x5j193 x6j193 z0j193 H locs h hP hD hS ls hl
                      unfold wj_Mo_checkTaken_193 at h
                      refine lv_istore (lv' := [(9, .int z0j193), (0, .ref (ad a0)), (1, .int x1j193), (4, .int x4j193), (5, .int x5j193), (6, .int x6j193)]) G.1 G.2.1 d_Mo_checkTaken_193 hl (by decide) rfl (fun ls hl => ?_)
                      refine lv_goto (tgt := 248) G.1 G.2.1 d_Mo_checkTaken_195 (by decide) ?_
                      exact J_248 s_j193 x1j193 x4j193 x5j193 x6j193 z0j193 H locs h hP hD hS ls (lv_sub hl [1, 2, 3, 4, 5, 0] rfl)
                    refine lv_icmp_ne (tgt := 191) G.1 G.2.1 d_Mo_checkTaken_184 (by decide) (fun c184 => ?_) (fun c184 => ?_)
                    · skip
                      have h := h.1 c184
                      refine lv_bipush (v := 37) G.1 G.2.1 d_Mo_checkTaken_191 (by decide) ?_
                      exact J_193 s_h94 x1h94 x4h94 x5h94 x6h94 37 H locs h hP hD hS ls (lv_sub hl [3, 4, 5, 6, 7] rfl)
                    · skip
                      have h := h.2 c184
                      refine lv_iconst (v := 0) G.1 G.2.1 d_Mo_checkTaken_187 (by decide) ?_
                      refine lv_goto (tgt := 193) G.1 G.2.1 d_Mo_checkTaken_188 (by decide) ?_
                      exact J_193 s_h94 x1h94 x4h94 x5h94 x6h94 0 H locs h hP hD hS ls (lv_sub hl [3, 4, 5, 6, 7] rfl)
                · skip
                  have h := h.2 c145
                  refine lv_iload G.1 G.2.1 d_Mo_checkTaken_148 (lv_at hl 2 rfl) ?_
                  refine ucSi (As := [.int x_14]) (rest := []) G hP hD hS (cu_Mo_isRef l D g ad y _ s_h94 x_14 H.size  h) w9_Mo_isRef q3761 ⟨Nat.le_of_ble_eq_true rfl, Nat.le_of_ble_eq_true rfl⟩ rfl rfl hl.1 rfl (Nat.le_of_ble_eq_true rfl) rfl ⟨Nat.le_refl _, Nat.le_refl _⟩ d_Mo_checkTaken_150 (fun r_22 s_23 H locs h hP hD hS => ?_)
                  have J_170 : ∀ (s_j170 : St) (x1j170 : Int32) (x4j170 : Int32) (x5j170 : Int32) (x6j170 : Int32) (z0j170 : Int32) (H : Heap) (locs : List Loc), wj_Mo_checkTaken_170 y Post K_94 a0 s_j170 x1j170 x4j170 x5j170 x6j170 z0j170 → va_P D CL (ws g ad y s_j170) H → va_D A (ws g ad y s_j170) → va_S A s.heap H locs → ∀ ls, lv_has ls 10 [(0, .ref (ad a0)), (1, .int x1j170), (4, .int x4j170), (5, .int x5j170), (6, .int x6j170)] → W p l e ru_Mo_checkTaken s m args below meth c H locs 0 0 Q (F0 m 170 ls [.int z0j170]) := by
                    intro s_j170 x1j170 x4j170 x5j170 x6j170 z0j170 H locs h hP hD hS ls hl
                    unfold wj_Mo_checkTaken_170 at h
                    refine lv_istore (lv' := [(9, .int z0j170), (0, .ref (ad a0)), (1, .int x1j170), (4, .int x4j170), (5, .int x5j170), (6, .int x6j170)]) G.1 G.2.1 d_Mo_checkTaken_170 hl (by decide) rfl (fun ls hl => ?_)
                    refine lv_goto (tgt := 248) G.1 G.2.1 d_Mo_checkTaken_172 (by decide) ?_
                    exact J_248 s_j170 x1j170 x4j170 x5j170 x6j170 z0j170 H locs h hP hD hS ls (lv_sub hl [1, 2, 3, 4, 5, 0] rfl)
                  have J_164 : ∀ (s_j164 : St) (x1j164 : Int32) (x4j164 : Int32) (x5j164 : Int32) (x6j164 : Int32) (H : Heap) (locs : List Loc), wj_Mo_checkTaken_164 y Post K_94 a0 s_j164 x1j164 x4j164 x5j164 x6j164 → va_P D CL (ws g ad y s_j164) H → va_D A (ws g ad y s_j164) → va_S A s.heap H locs → ∀ ls, lv_has ls 10 [(0, .ref (ad a0)), (1, .int x1j164), (4, .int x4j164), (5, .int x5j164), (6, .int x6j164)] → W p l e ru_Mo_checkTaken s m args below meth c H locs 0 0 Q (F0 m 164 ls []) := by
                    intro s_j164 x1j164 x4j164 x5j164 x6j164 H locs h hP hD hS ls hl
                    unfold wj_Mo_checkTaken_164 at h
                    refine lv_iconst (v := 0) G.1 G.2.1 d_Mo_checkTaken_164 (by decide) ?_
                    refine lv_goto (tgt := 170) G.1 G.2.1 d_Mo_checkTaken_165 (by decide) ?_
                    exact J_170 s_j164 x1j164 x4j164 x5j164 x6j164 0 H locs h hP hD hS ls (lv_sub hl [0, 1, 2, 3, 4] rfl)
                  refine lv_if_ne (tgt := 164) G.1 G.2.1 d_Mo_checkTaken_153 (by decide) (fun c153 => ?_) (fun c153 => ?_)
                  · skip
                    have h := h.1 c153
                    exact J_164 s_23 x1h94 x4h94 x5h94 x6h94 H locs h hP hD hS ls (lv_sub hl [3, 4, 5, 6, 7] rfl)
                  · skip
                    have h := h.2 c153
                    refine lv_iload G.1 G.2.1 d_Mo_checkTaken_156 (lv_at hl 2 rfl) ?_
                    refine ucSi (As := [.int x_14]) (rest := []) G hP hD hS (cu_Mo_isUnmade l D g ad y _ s_23 x_14 H.size  h) w9_Mo_isUnmade q3764 ⟨Nat.le_of_ble_eq_true rfl, Nat.le_of_ble_eq_true rfl⟩ rfl rfl hl.1 rfl (Nat.le_of_ble_eq_true rfl) rfl ⟨Nat.le_refl _, Nat.le_refl _⟩ d_Mo_checkTaken_158 (fun r_24 s_25 H locs h hP hD hS => ?_)
                    refine lv_if_eq (tgt := 168) G.1 G.2.1 d_Mo_checkTaken_161 (by decide) (fun c161 => ?_) (fun c161 => ?_)
                    · skip
                      have h := h.1 c161
                      refine lv_bipush (v := 37) G.1 G.2.1 d_Mo_checkTaken_168 (by decide) ?_
                      exact J_170 s_25 x1h94 x4h94 x5h94 x6h94 37 H locs h hP hD hS ls (lv_sub hl [3, 4, 5, 6, 7] rfl)
                    · skip
                      have h := h.2 c161
                      exact J_164 s_25 x1h94 x4h94 x5h94 x6h94 H locs h hP hD hS ls (lv_sub hl [3, 4, 5, 6, 7] rfl)
              · skip
                have h := h.2 c135
                refine lv_goto (tgt := 268) G.1 G.2.1 d_Mo_checkTaken_138 (by decide) ?_
                exact J_268 s_h94 x1h94 x4h94 x5h94 x6h94 H locs h hP hD hS ls (lv_sub hl [3, 4, 5, 6, 7] rfl)
        exact L_94 _ s_6 x1j68 x4j68 0 0 (Nat.lt_succ_self _) hI_94 H locs hP hD hS ls (lv_sub hl [2, 3, 5, 1, 0] rfl)
      · skip
        have h := h.2 c82
        refine lv_bipush (v := 31) G.1 G.2.1 d_Mo_checkTaken_85 (by decide) ?_
        exact hret _ _ _ _ _ _ _ ls h hP hD hS (Nat.le_refl _) (Nat.le_refl _) d_Mo_checkTaken_87
    refine lv_if_eq (tgt := 68) G.1 G.2.1 d_Mo_checkTaken_45 (by decide) (fun c45 => ?_) (fun c45 => ?_)
    · skip
      have h := h.1 c45
      exact J_68 s_j32 x1j32 x2j32 x_4 H locs h hP hD hS ls (lv_sub hl [2, 3, 4, 0] rfl)
    · skip
      have h := h.2 c45
      refine lv_iload G.1 G.2.1 d_Mo_checkTaken_48 (lv_at hl 0 rfl) ?_
      refine lv_aload_n G.1 G.2.1 d_Mo_checkTaken_50 rfl (lv_at hl 2 rfl) ?_
      refine W.eq (g2 := F0 m 51 ls [.ref (ad a0), .int x_4]) rfl ?_
      obtain ⟨b_26, e_27, c_28, h⟩ := h
      refine ugf (v := .ref (ad b_26)) G hP h_a0 iMo rfl 45 (by decide) rfl q3109 rfl (by show va_rf ((sO s_j32 a0 45).map ad) = _; rw [e_27]; rfl) d_Mo_checkTaken_51 ?_
      refine ugfN (v := .ref (yP y b_26 22)) G hP c_28 iMw rfl 22 (by decide) rfl q2748 rfl rfl d_Mo_checkTaken_54 ?_
      refine lv_aload_n G.1 G.2.1 d_Mo_checkTaken_57 rfl (lv_at hl 2 rfl) ?_
      refine ugf (v := .int (sV s_j32 a0 75)) G hP h_a0 iMo rfl 75 (by decide) rfl q3139 rfl rfl d_Mo_checkTaken_58 ?_
      refine uiald G hP (kdp c_28 rfl) (typ c_28 rfl) h d_Mo_checkTaken_61 (fun x_29 h => ?_)
      refine lv_icmp_lt (tgt := 68) G.1 G.2.1 d_Mo_checkTaken_62 (by decide) (fun c62 => ?_) (fun c62 => ?_)
      · skip
        have h := h.1 c62
        exact J_68 s_j32 x1j32 x2j32 x_4 H locs h hP hD hS ls (lv_sub hl [2, 3, 4, 0] rfl)
      · skip
        have h := h.2 c62
        refine lv_bipush (v := 33) G.1 G.2.1 d_Mo_checkTaken_65 (by decide) ?_
        exact hret _ _ _ _ _ _ _ ls h hP hD hS (Nat.le_refl _) (Nat.le_refl _) d_Mo_checkTaken_67
  have J_27 : ∀ (s_j27 : St) (x1j27 : Int32) (x2j27 : Int32) (H : Heap) (locs : List Loc), wj_Mo_checkTaken_27 y Post a0 s_j27 x1j27 x2j27 → va_P D CL (ws g ad y s_j27) H → va_D A (ws g ad y s_j27) → va_S A s.heap H locs → ∀ ls, lv_has ls 10 [(0, .ref (ad a0)), (1, .int x1j27), (2, .int x2j27)] → W p l e ru_Mo_checkTaken s m args below meth c H locs 0 0 Q (F0 m 27 ls []) := by
    intro s_j27 x1j27 x2j27 H locs h hP hD hS ls hl
    unfold wj_Mo_checkTaken_27 at h
    refine lv_iconst (v := 1) G.1 G.2.1 d_Mo_checkTaken_27 (by decide) ?_
    refine lv_goto (tgt := 32) G.1 G.2.1 d_Mo_checkTaken_28 (by decide) ?_
    exact J_32 s_j27 x1j27 x2j27 1 H locs h hP hD hS ls (lv_sub hl [0, 1, 2] rfl)
  refine lv_icmp_eq (tgt := 27) G.1 G.2.1 d_Mo_checkTaken_2 (by decide) (fun c2 => ?_) (fun c2 => ?_)
  · skip
    have h := h.1 c2
    exact J_27 σ v1 v2 H locs h hP hD hS ls (lv_sub hl [0, 1, 2] rfl)
  · skip
    have h := h.2 c2
    refine lv_iload_n G.1 G.2.1 d_Mo_checkTaken_5 rfl (lv_at hl 1 rfl) ?_
    refine lv_iconst (v := 4) G.1 G.2.1 d_Mo_checkTaken_6 (by decide) ?_
    refine lv_icmp_eq (tgt := 27) G.1 G.2.1 d_Mo_checkTaken_7 (by decide) (fun c7 => ?_) (fun c7 => ?_)
    · skip
      have h := h.1 c7
      exact J_27 σ v1 v2 H locs h hP hD hS ls (lv_sub hl [0, 1, 2] rfl)
    · skip
      have h := h.2 c7
      refine lv_iload_n G.1 G.2.1 d_Mo_checkTaken_10 rfl (lv_at hl 1 rfl) ?_
      refine lv_iconst (v := 5) G.1 G.2.1 d_Mo_checkTaken_11 (by decide) ?_
      refine lv_icmp_eq (tgt := 27) G.1 G.2.1 d_Mo_checkTaken_12 (by decide) (fun c12 => ?_) (fun c12 => ?_)
      · skip
        have h := h.1 c12
        exact J_27 σ v1 v2 H locs h hP hD hS ls (lv_sub hl [0, 1, 2] rfl)
      · skip
        have h := h.2 c12
        refine lv_iload_n G.1 G.2.1 d_Mo_checkTaken_15 rfl (lv_at hl 1 rfl) ?_
        refine lv_bipush (v := 6) G.1 G.2.1 d_Mo_checkTaken_16 (by decide) ?_
        refine W.eq (g2 := F0 m 18 ls [.int 6, .int v1]) rfl ?_
        refine lv_icmp_eq (tgt := 27) G.1 G.2.1 d_Mo_checkTaken_18 (by decide) (fun c18 => ?_) (fun c18 => ?_)
        · skip
          have h := h.1 c18
          exact J_27 σ v1 v2 H locs h hP hD hS ls (lv_sub hl [0, 1, 2] rfl)
        · skip
          have h := h.2 c18
          refine lv_iload_n G.1 G.2.1 d_Mo_checkTaken_21 rfl (lv_at hl 1 rfl) ?_
          refine lv_bipush (v := 7) G.1 G.2.1 d_Mo_checkTaken_22 (by decide) ?_
          refine lv_icmp_ne (tgt := 31) G.1 G.2.1 d_Mo_checkTaken_24 (by decide) (fun c24 => ?_) (fun c24 => ?_)
          · skip
            have h := h.1 c24
            refine lv_iconst (v := 0) G.1 G.2.1 d_Mo_checkTaken_31 (by decide) ?_
            exact J_32 σ v1 v2 0 H locs h hP hD hS ls (lv_sub hl [0, 1, 2] rfl)
          · skip
            have h := h.2 c24
            exact J_27 σ v1 v2 H locs h hP hD hS ls (lv_sub hl [0, 1, 2] rfl)
def y_Mo_isNear : MethodName := ⟨"ClassWorksModel", "isNear", "(I)Z"⟩
abbrev b_Mo_isNear : ByteArray := prog_14_method_76_code
theorem d_Mo_isNear_0 : decode b_Mo_isNear 0 = .ok (.iload_n 1, 1) := by decide +kernel
theorem d_Mo_isNear_1 : decode b_Mo_isNear 1 = .ok (.aload_n 0, 1) := by decide +kernel
theorem d_Mo_isNear_2 : decode b_Mo_isNear 2 = .ok (.getfield 522, 3) := by decide +kernel
theorem d_Mo_isNear_5 : decode b_Mo_isNear 5 = .ok (.getfield 423, 3) := by decide +kernel
theorem d_Mo_isNear_8 : decode b_Mo_isNear 8 = .ok (.aload_n 0, 1) := by decide +kernel
theorem d_Mo_isNear_9 : decode b_Mo_isNear 9 = .ok (.getfield 789, 3) := by decide +kernel
theorem d_Mo_isNear_12 : decode b_Mo_isNear 12 = .ok (.iaload, 1) := by decide +kernel
theorem d_Mo_isNear_13 : decode b_Mo_isNear 13 = .ok (.if_icmp .eq 15, 3) := by decide +kernel
theorem d_Mo_isNear_16 : decode b_Mo_isNear 16 = .ok (.iload_n 1, 1) := by decide +kernel
theorem d_Mo_isNear_17 : decode b_Mo_isNear 17 = .ok (.aload_n 0, 1) := by decide +kernel
theorem d_Mo_isNear_18 : decode b_Mo_isNear 18 = .ok (.aload_n 0, 1) := by decide +kernel
theorem d_Mo_isNear_19 : decode b_Mo_isNear 19 = .ok (.getfield 789, 3) := by decide +kernel
theorem d_Mo_isNear_22 : decode b_Mo_isNear 22 = .ok (.invokevirtual 765, 3) := by decide +kernel
theorem d_Mo_isNear_25 : decode b_Mo_isNear 25 = .ok (.if_icmp .ne 7, 3) := by decide +kernel
theorem d_Mo_isNear_28 : decode b_Mo_isNear 28 = .ok (.iconst 1, 1) := by decide +kernel
theorem d_Mo_isNear_29 : decode b_Mo_isNear 29 = .ok (.goto 4, 3) := by decide +kernel
theorem d_Mo_isNear_32 : decode b_Mo_isNear 32 = .ok (.iconst 0, 1) := by decide +kernel
theorem d_Mo_isNear_33 : decode b_Mo_isNear 33 = .ok (.istore_n 2, 1) := by decide +kernel
theorem d_Mo_isNear_34 : decode b_Mo_isNear 34 = .ok (.iconst 0, 1) := by decide +kernel
theorem d_Mo_isNear_35 : decode b_Mo_isNear 35 = .ok (.istore_n 3, 1) := by decide +kernel
theorem d_Mo_isNear_36 : decode b_Mo_isNear 36 = .ok (.iload_n 3, 1) := by decide +kernel
theorem d_Mo_isNear_37 : decode b_Mo_isNear 37 = .ok (.aload_n 0, 1) := by decide +kernel
theorem d_Mo_isNear_38 : decode b_Mo_isNear 38 = .ok (.getfield 522, 3) := by decide +kernel
theorem d_Mo_isNear_41 : decode b_Mo_isNear 41 = .ok (.getfield 432, 3) := by decide +kernel
theorem d_Mo_isNear_44 : decode b_Mo_isNear 44 = .ok (.aload_n 0, 1) := by decide +kernel
theorem d_Mo_isNear_45 : decode b_Mo_isNear 45 = .ok (.getfield 789, 3) := by decide +kernel
theorem d_Mo_isNear_48 : decode b_Mo_isNear 48 = .ok (.iaload, 1) := by decide +kernel
theorem d_Mo_isNear_49 : decode b_Mo_isNear 49 = .ok (.if_icmp .ge 39, 3) := by decide +kernel
theorem d_Mo_isNear_52 : decode b_Mo_isNear 52 = .ok (.iload_n 2, 1) := by decide +kernel
theorem d_Mo_isNear_53 : decode b_Mo_isNear 53 = .ok (.ifCond .ne 35, 3) := by decide +kernel
theorem d_Mo_isNear_56 : decode b_Mo_isNear 56 = .ok (.aload_n 0, 1) := by decide +kernel
theorem d_Mo_isNear_57 : decode b_Mo_isNear 57 = .ok (.getfield 522, 3) := by decide +kernel
theorem d_Mo_isNear_60 : decode b_Mo_isNear 60 = .ok (.getfield 612, 3) := by decide +kernel
theorem d_Mo_isNear_63 : decode b_Mo_isNear 63 = .ok (.iconst 4, 1) := by decide +kernel
theorem d_Mo_isNear_64 : decode b_Mo_isNear 64 = .ok (.aload_n 0, 1) := by decide +kernel
theorem d_Mo_isNear_65 : decode b_Mo_isNear 65 = .ok (.getfield 789, 3) := by decide +kernel
theorem d_Mo_isNear_68 : decode b_Mo_isNear 68 = .ok (.imul, 1) := by decide +kernel
theorem d_Mo_isNear_69 : decode b_Mo_isNear 69 = .ok (.iload_n 3, 1) := by decide +kernel
theorem d_Mo_isNear_70 : decode b_Mo_isNear 70 = .ok (.iadd, 1) := by decide +kernel
theorem d_Mo_isNear_71 : decode b_Mo_isNear 71 = .ok (.iaload, 1) := by decide +kernel
theorem d_Mo_isNear_72 : decode b_Mo_isNear 72 = .ok (.iload_n 1, 1) := by decide +kernel
theorem d_Mo_isNear_73 : decode b_Mo_isNear 73 = .ok (.if_icmp .ne 7, 3) := by decide +kernel
theorem d_Mo_isNear_76 : decode b_Mo_isNear 76 = .ok (.iconst 1, 1) := by decide +kernel
theorem d_Mo_isNear_77 : decode b_Mo_isNear 77 = .ok (.goto 4, 3) := by decide +kernel
theorem d_Mo_isNear_80 : decode b_Mo_isNear 80 = .ok (.iconst 0, 1) := by decide +kernel
theorem d_Mo_isNear_81 : decode b_Mo_isNear 81 = .ok (.istore_n 2, 1) := by decide +kernel
theorem d_Mo_isNear_82 : decode b_Mo_isNear 82 = .ok (.iinc 3 1, 3) := by decide +kernel
theorem d_Mo_isNear_85 : decode b_Mo_isNear 85 = .ok (.goto (-49), 3) := by decide +kernel
theorem d_Mo_isNear_88 : decode b_Mo_isNear 88 = .ok (.iload_n 2, 1) := by decide +kernel
theorem d_Mo_isNear_89 : decode b_Mo_isNear 89 = .ok (.ireturn, 1) := by decide +kernel
abbrev ru_Mo_isNear : Room := { frames := 1, cells := 0, slots := 0, locals := 21 }
def wj_Mo_isNear_88 (y : Ly) (Post : St → Int32 → Prop) (a0 : Nat) (s_j88 : St) (x2j88 : Int32) : Prop := (nb x2j88 ∧ Post s_j88 x2j88)
def wj_Mo_isNear_81 (y : Ly) (Post : St → Int32 → Prop) (K_36 : St → Int32 → Int32 → Int32 → Prop) (a0 : Nat) (s_j81 : St) (x1j81 : Int32) (x3j81 : Int32) (z0j81 : Int32) : Prop := K_36 s_j81 x1j81 z0j81 (x3j81 + 1)
def wb_Mo_isNear_36 (y : Ly) (Post : St → Int32 → Prop) (K_36 : St → Int32 → Int32 → Int32 → Prop) (a0 : Nat) (s_h36 : St) (x1h36 : Int32) (x2h36 : Int32) (x3h36 : Int32) : Prop := ∃ b_5 : Nat, sO s_h36 a0 45 = some b_5 ∧ cl b_5 = 13 ∧ xA y s_h36 b_5 7 (sV s_h36 a0 76) (fun x_8 : Int32 => ((x_8 ≤ x3h36 → wj_Mo_isNear_88 y Post a0 s_h36 x2h36) ∧ (¬ (x_8 ≤ x3h36) → ((¬ x2h36 = 0 → wj_Mo_isNear_88 y Post a0 s_h36 x2h36) ∧ (x2h36 = 0 → ∃ b_9 : Nat, sO s_h36 a0 45 = some b_9 ∧ cl b_9 = 13 ∧ xA y s_h36 b_9 6 ((4 * (sV s_h36 a0 76)) + x3h36) (fun x_12 : Int32 => ((¬ x_12 = x1h36 → wj_Mo_isNear_81 y Post K_36 a0 s_h36 x1h36 x3h36 0) ∧ (x_12 = x1h36 → wj_Mo_isNear_81 y Post K_36 a0 s_h36 x1h36 x3h36 1))))))))
def wl_Mo_isNear_36 (y : Ly) (Post : St → Int32 → Prop) (a0 : Nat) (s_h36 : St) (x1h36 : Int32) (x2h36 : Int32) (x3h36 : Int32) : Prop := ∃ (I : St → Int32 → Int32 → Int32 → Prop) (μ : St → Int32 → Int32 → Int32 → Nat), I s_h36 x1h36 x2h36 x3h36 ∧ ∀ (u : St) (t0 : Int32) (t1 : Int32) (t2 : Int32), I u t0 t1 t2 → wb_Mo_isNear_36 y Post (fun z t0q t1q t2q => I z t0q t1q t2q ∧ μ z t0q t1q t2q < μ u t0 t1 t2) a0 u t0 t1 t2
def wj_Mo_isNear_33 (y : Ly) (Post : St → Int32 → Prop) (a0 : Nat) (s_j33 : St) (x1j33 : Int32) (z0j33 : Int32) : Prop := wl_Mo_isNear_36 y Post a0 s_j33 x1j33 z0j33 0
def wj_Mo_isNear_28 (y : Ly) (Post : St → Int32 → Prop) (a0 : Nat) (s_j28 : St) (x1j28 : Int32) : Prop := wj_Mo_isNear_33 y Post a0 s_j28 x1j28 1
def wu_Mo_isNear (y : Ly) (Post : St → Int32 → Prop) (σ : St) (a0 : Nat) (v1 : Int32) : Prop := ∃ b_1 : Nat, sO σ a0 45 = some b_1 ∧ cl b_1 = 13 ∧ xA y σ b_1 3 (sV σ a0 76) (fun x_4 : Int32 => ((v1 = x_4 → wj_Mo_isNear_28 y Post a0 σ v1) ∧ (¬ (v1 = x_4) → wu_Mo_parentName y (fun (s_14 : St) (r_13 : Int32) => ((¬ v1 = r_13 → wj_Mo_isNear_33 y Post a0 s_14 v1 0) ∧ (v1 = r_13 → wj_Mo_isNear_28 y Post a0 s_14 v1))) σ a0 (sV σ a0 76))))
set_option maxHeartbeats 4000000 in
set_option maxRecDepth 100000 in
theorem cu_Mo_isNear (l : Launch) (D : va_G) (g : Nat → ClassId) (ad : Nat → Nat) (y : Ly) (Post : St → Int32 → Prop) (σ : St) (a0 : Nat) (v1 : Int32) (sz : Nat) (h_a0 : cl a0 = 14) (h : wu_Mo_isNear y Post σ a0 v1) : Met l y_Mo_isNear (mw y_Mo_isNear b_Mo_isNear 4 (some (.boolean))) ru_Mo_isNear (PC g D [] [.ref (ad a0), .int v1] sz (ws g ad y σ)) (va_Qi (fun (r : Int32) (u : St) => Post u r) (QW D (va_A (ws g ad y σ) sz) (fun u => ws g ad y u)) (va_A (ws g ad y σ) sz)) 0 0 (va_A (ws g ad y σ) sz) := by
  refine ofZ (by decide +kernel) (Nat.le_of_ble_eq_true rfl) ?_
  intro p e s m args below meth c A Q ls H locs G hsz hP hD hS hl hret
  subst hsz
  have hl : lv_has ls 4 [(0, .ref (ad a0)), (1, .int v1)] := hl
  unfold wu_Mo_isNear at h
  refine lv_iload_n G.1 G.2.1 d_Mo_isNear_0 rfl (lv_at hl 1 rfl) ?_
  refine lv_aload_n G.1 G.2.1 d_Mo_isNear_1 rfl (lv_at hl 0 rfl) ?_
  obtain ⟨b_1, e_2, c_3, h⟩ := h
  refine ugf (v := .ref (ad b_1)) G hP h_a0 iMo rfl 45 (by decide) rfl q3109 rfl (by show va_rf ((sO σ a0 45).map ad) = _; rw [e_2]; rfl) d_Mo_isNear_2 ?_
  refine ugfN (v := .ref (yP y b_1 3)) G hP c_3 iMw rfl 3 (by decide) rfl q2710 rfl rfl d_Mo_isNear_5 ?_
  refine lv_aload_n G.1 G.2.1 d_Mo_isNear_8 rfl (lv_at hl 0 rfl) ?_
  refine ugf (v := .int (sV σ a0 76)) G hP h_a0 iMo rfl 76 (by decide) rfl q3140 rfl rfl d_Mo_isNear_9 ?_
  refine uiald G hP (kdp c_3 rfl) (typ c_3 rfl) h d_Mo_isNear_12 (fun x_4 h => ?_)
  have J_33 : ∀ (s_j33 : St) (x1j33 : Int32) (z0j33 : Int32) (H : Heap) (locs : List Loc), wj_Mo_isNear_33 y Post a0 s_j33 x1j33 z0j33 → va_P D CL (ws g ad y s_j33) H → va_D A (ws g ad y s_j33) → va_S A s.heap H locs → ∀ ls, lv_has ls 4 [(0, .ref (ad a0)), (1, .int x1j33)] → W p l e ru_Mo_isNear s m args below meth c H locs 0 0 Q (F0 m 33 ls [.int z0j33]) := by
    intro s_j33 x1j33 z0j33 H locs h hP hD hS ls hl
    unfold wj_Mo_isNear_33 at h
    refine lv_istore_n (lv' := [(2, .int z0j33), (0, .ref (ad a0)), (1, .int x1j33)]) G.1 G.2.1 d_Mo_isNear_33 rfl hl (by decide) rfl (fun ls hl => ?_)
    refine lv_iconst (v := 0) G.1 G.2.1 d_Mo_isNear_34 (by decide) ?_
    refine lv_istore_n (lv' := [(3, .int 0), (2, .int z0j33), (0, .ref (ad a0)), (1, .int x1j33)]) G.1 G.2.1 d_Mo_isNear_35 rfl hl (by decide) rfl (fun ls hl => ?_)
    unfold wl_Mo_isNear_36 at h
    obtain ⟨I_36, μ_36, hI_36, hB_36⟩ := h
    have L_36 : ∀ (n_36 : Nat) (s_h36 : St) (x1h36 : Int32) (x2h36 : Int32) (x3h36 : Int32), μ_36 s_h36 x1h36 x2h36 x3h36 < n_36 → I_36 s_h36 x1h36 x2h36 x3h36 → ∀ (H : Heap) (locs : List Loc), va_P D CL (ws g ad y s_h36) H → va_D A (ws g ad y s_h36) → va_S A s.heap H locs → ∀ ls, lv_has ls 4 [(0, .ref (ad a0)), (1, .int x1h36), (2, .int x2h36), (3, .int x3h36)] → W p l e ru_Mo_isNear s m args below meth c H locs 0 0 Q (F0 m 36 ls []) := by
      intro n_36
      induction n_36 with
      | zero => intro s_h36 x1h36 x2h36 x3h36 hμ; exact absurd hμ (Nat.not_lt_zero _)
      | succ n_36 ih_36 =>
        intro s_h36 x1h36 x2h36 x3h36 hμ_36 hJ H locs hP hD hS ls hl
        obtain ⟨K_36, hK_36, h⟩ : ∃ K : St → Int32 → Int32 → Int32 → Prop, (∀ z (t0 : Int32) (t1 : Int32) (t2 : Int32), K z t0 t1 t2 → I_36 z t0 t1 t2 ∧ μ_36 z t0 t1 t2 < μ_36 s_h36 x1h36 x2h36 x3h36) ∧ wb_Mo_isNear_36 y Post K a0 s_h36 x1h36 x2h36 x3h36 := ⟨_, fun _ _ _ _ h => h, hB_36 s_h36 x1h36 x2h36 x3h36 hJ⟩
        unfold wb_Mo_isNear_36 at h
        refine lv_iload_n G.1 G.2.1 d_Mo_isNear_36 rfl (lv_at hl 3 rfl) ?_
        refine lv_aload_n G.1 G.2.1 d_Mo_isNear_37 rfl (lv_at hl 0 rfl) ?_
        obtain ⟨b_5, e_6, c_7, h⟩ := h
        refine ugf (v := .ref (ad b_5)) G hP h_a0 iMo rfl 45 (by decide) rfl q3109 rfl (by show va_rf ((sO s_h36 a0 45).map ad) = _; rw [e_6]; rfl) d_Mo_isNear_38 ?_
        refine ugfN (v := .ref (yP y b_5 7)) G hP c_7 iMw rfl 7 (by decide) rfl q2718 rfl rfl d_Mo_isNear_41 ?_
        refine lv_aload_n G.1 G.2.1 d_Mo_isNear_44 rfl (lv_at hl 0 rfl) ?_
        refine ugf (v := .int (sV s_h36 a0 76)) G hP h_a0 iMo rfl 76 (by decide) rfl q3140 rfl rfl d_Mo_isNear_45 ?_
        refine uiald G hP (kdp c_7 rfl) (typ c_7 rfl) h d_Mo_isNear_48 (fun x_8 h => ?_)
        have J_88 : ∀ (s_j88 : St) (x2j88 : Int32) (H : Heap) (locs : List Loc), wj_Mo_isNear_88 y Post a0 s_j88 x2j88 → va_P D CL (ws g ad y s_j88) H → va_D A (ws g ad y s_j88) → va_S A s.heap H locs → ∀ ls, lv_has ls 4 [(2, .int x2j88)] → W p l e ru_Mo_isNear s m args below meth c H locs 0 0 Q (F0 m 88 ls []) := by
          intro s_j88 x2j88 H locs h hP hD hS ls hl
          unfold wj_Mo_isNear_88 at h
          refine lv_iload_n G.1 G.2.1 d_Mo_isNear_88 rfl (lv_at hl 0 rfl) ?_
          exact hret _ _ _ _ _ _ _ ls (nb_n h.1) h.2 hP hD hS (Nat.le_refl _) (Nat.le_refl _) d_Mo_isNear_89
        refine lv_icmp_ge (tgt := 88) G.1 G.2.1 d_Mo_isNear_49 (by decide) (fun c49 => ?_) (fun c49 => ?_)
        · skip
          have h := h.1 c49
          exact J_88 s_h36 x2h36 H locs h hP hD hS ls (lv_sub hl [2] rfl)
        · skip
          have h := h.2 c49
          refine lv_iload_n G.1 G.2.1 d_Mo_isNear_52 rfl (lv_at hl 2 rfl) ?_
          refine lv_if_ne (tgt := 88) G.1 G.2.1 d_Mo_isNear_53 (by decide) (fun c53 => ?_) (fun c53 => ?_)
          · skip
            have h := h.1 c53
            exact J_88 s_h36 x2h36 H locs h hP hD hS ls (lv_sub hl [2] rfl)
          · skip
            have h := h.2 c53
            refine lv_aload_n G.1 G.2.1 d_Mo_isNear_56 rfl (lv_at hl 0 rfl) ?_
            refine W.eq (g2 := F0 m 57 ls [.ref (ad a0)]) rfl ?_
            obtain ⟨b_9, e_10, c_11, h⟩ := h
            refine ugf (v := .ref (ad b_9)) G hP h_a0 iMo rfl 45 (by decide) rfl q3109 rfl (by show va_rf ((sO s_h36 a0 45).map ad) = _; rw [e_10]; rfl) d_Mo_isNear_57 ?_
            refine ugfN (v := .ref (yP y b_9 6)) G hP c_11 iMw rfl 6 (by decide) rfl q2716 rfl rfl d_Mo_isNear_60 ?_
            refine lv_iconst (v := 4) G.1 G.2.1 d_Mo_isNear_63 (by decide) ?_
            refine lv_aload_n G.1 G.2.1 d_Mo_isNear_64 rfl (lv_at hl 0 rfl) ?_
            refine ugf (v := .int (sV s_h36 a0 76)) G hP h_a0 iMo rfl 76 (by decide) rfl q3140 rfl rfl d_Mo_isNear_65 ?_
            refine lv_imul G.1 G.2.1 d_Mo_isNear_68 ?_
            refine lv_iload_n G.1 G.2.1 d_Mo_isNear_69 rfl (lv_at hl 3 rfl) ?_
            refine lv_iadd G.1 G.2.1 d_Mo_isNear_70 ?_
            refine uiald G hP (kdp c_11 rfl) (typ c_11 rfl) h d_Mo_isNear_71 (fun x_12 h => ?_)
            refine lv_iload_n G.1 G.2.1 d_Mo_isNear_72 rfl (lv_at hl 1 rfl) ?_
            have J_81 : ∀ (s_j81 : St) (x1j81 : Int32) (x3j81 : Int32) (z0j81 : Int32) (H : Heap) (locs : List Loc), wj_Mo_isNear_81 y Post K_36 a0 s_j81 x1j81 x3j81 z0j81 → va_P D CL (ws g ad y s_j81) H → va_D A (ws g ad y s_j81) → va_S A s.heap H locs → ∀ ls, lv_has ls 4 [(0, .ref (ad a0)), (1, .int x1j81), (3, .int x3j81)] → W p l e ru_Mo_isNear s m args below meth c H locs 0 0 Q (F0 m 81 ls [.int z0j81]) := by
              intro s_j81 x1j81 x3j81 z0j81 H locs h hP hD hS ls hl
              unfold wj_Mo_isNear_81 at h
              refine lv_istore_n (lv' := [(2, .int z0j81), (0, .ref (ad a0)), (1, .int x1j81), (3, .int x3j81)]) G.1 G.2.1 d_Mo_isNear_81 rfl hl (by decide) rfl (fun ls hl => ?_)
              refine lv_iinc (v := x3j81 + 1) (lv' := [(3, .int (x3j81 + 1)), (2, .int z0j81), (0, .ref (ad a0)), (1, .int x1j81)]) G.1 G.2.1 d_Mo_isNear_82 hl (k := 3) rfl rfl (by decide) rfl (fun ls hl => ?_)
              refine lv_goto (tgt := 36) G.1 G.2.1 d_Mo_isNear_85 (by decide) ?_
              have h := hK_36 s_j81 x1j81 z0j81 (x3j81 + 1) h
              exact ih_36 s_j81 x1j81 z0j81 (x3j81 + 1) (Nat.lt_of_lt_of_le h.2 (Nat.le_of_lt_succ hμ_36)) h.1 H locs hP hD hS ls (lv_sub hl [2, 3, 1, 0] rfl)
            refine lv_icmp_ne (tgt := 80) G.1 G.2.1 d_Mo_isNear_73 (by decide) (fun c73 => ?_) (fun c73 => ?_)
            · skip
              have h := h.1 c73
              refine lv_iconst (v := 0) G.1 G.2.1 d_Mo_isNear_80 (by decide) ?_
              exact J_81 s_h36 x1h36 x3h36 0 H locs h hP hD hS ls (lv_sub hl [0, 1, 3] rfl)
            · skip
              have h := h.2 c73
              refine lv_iconst (v := 1) G.1 G.2.1 d_Mo_isNear_76 (by decide) ?_
              refine W.eq (g2 := F0 m 77 ls [.int 1]) rfl ?_
              refine lv_goto (tgt := 81) G.1 G.2.1 d_Mo_isNear_77 (by decide) ?_
              exact J_81 s_h36 x1h36 x3h36 1 H locs h hP hD hS ls (lv_sub hl [0, 1, 3] rfl)
    exact L_36 _ s_j33 x1j33 z0j33 0 (Nat.lt_succ_self _) hI_36 H locs hP hD hS ls (lv_sub hl [2, 3, 1, 0] rfl)
  have J_28 : ∀ (s_j28 : St) (x1j28 : Int32) (H : Heap) (locs : List Loc), wj_Mo_isNear_28 y Post a0 s_j28 x1j28 → va_P D CL (ws g ad y s_j28) H → va_D A (ws g ad y s_j28) → va_S A s.heap H locs → ∀ ls, lv_has ls 4 [(0, .ref (ad a0)), (1, .int x1j28)] → W p l e ru_Mo_isNear s m args below meth c H locs 0 0 Q (F0 m 28 ls []) := by
    intro s_j28 x1j28 H locs h hP hD hS ls hl
    unfold wj_Mo_isNear_28 at h
    refine lv_iconst (v := 1) G.1 G.2.1 d_Mo_isNear_28 (by decide) ?_
    refine lv_goto (tgt := 33) G.1 G.2.1 d_Mo_isNear_29 (by decide) ?_
    exact J_33 s_j28 x1j28 1 H locs h hP hD hS ls (lv_sub hl [0, 1] rfl)
  refine lv_icmp_eq (tgt := 28) G.1 G.2.1 d_Mo_isNear_13 (by decide) (fun c13 => ?_) (fun c13 => ?_)
  · skip
    have h := h.1 c13
    exact J_28 σ v1 H locs h hP hD hS ls (lv_sub hl [0, 1] rfl)
  · skip
    have h := h.2 c13
    refine lv_iload_n G.1 G.2.1 d_Mo_isNear_16 rfl (lv_at hl 1 rfl) ?_
    refine lv_aload_n G.1 G.2.1 d_Mo_isNear_17 rfl (lv_at hl 0 rfl) ?_
    refine lv_aload_n G.1 G.2.1 d_Mo_isNear_18 rfl (lv_at hl 0 rfl) ?_
    refine W.eq (g2 := F0 m 19 ls [.ref (ad a0), .ref (ad a0), .int v1]) rfl ?_
    refine ugf (v := .int (sV σ a0 76)) G hP h_a0 iMo rfl 76 (by decide) rfl q3140 rfl rfl d_Mo_isNear_19 ?_
    refine ucVi (As := [.int (sV σ a0 76)]) (rest := [.int v1]) G hP hD hS (cu_Mo_parentName l D g ad y _ σ a0 (sV σ a0 76) H.size h_a0 h) w9_Mo_parentName q3737 ⟨Nat.le_of_ble_eq_true rfl, Nat.le_of_ble_eq_true rfl⟩ rfl rfl h_a0 (q := (RMo, TMo, 131)) rfl rfl hl.1 rfl (Nat.le_of_ble_eq_true rfl) rfl ⟨Nat.le_refl _, Nat.le_refl _⟩ d_Mo_isNear_22 (fun r_13 s_14 H locs h hP hD hS => ?_)
    refine lv_icmp_ne (tgt := 32) G.1 G.2.1 d_Mo_isNear_25 (by decide) (fun c25 => ?_) (fun c25 => ?_)
    · skip
      have h := h.1 c25
      refine lv_iconst (v := 0) G.1 G.2.1 d_Mo_isNear_32 (by decide) ?_
      exact J_33 s_14 v1 0 H locs h hP hD hS ls (lv_sub hl [0, 1] rfl)
    · skip
      have h := h.2 c25
      exact J_28 s_14 v1 H locs h hP hD hS ls (lv_sub hl [0, 1] rfl)
theorem q3771 : Cond.methodLink "ClassWorksModel" 838 y_Mo_isNear ∈ lw_ok := lw_okmem (List.mem_of_getElem? (i := 3771) (by decide +kernel)) rfl
theorem q3774 : Cond.code y_Mo_isNear b_Mo_isNear 4 (some (.boolean)) ∈ lw_ok := lw_okmem (List.mem_of_getElem? (i := 3774) (by decide +kernel)) rfl
theorem q3773 : Cond.instanceMethod y_Mo_isNear ∈ lw_ok := lw_okmem (List.mem_of_getElem? (i := 3773) (by decide +kernel)) rfl
theorem q238 : Cond.selects y_Mo_isNear.cls y_Mo_isNear y_Mo_isNear ∈ lw_ok := lw_okmem (List.mem_of_getElem? (i := 238) (by decide +kernel)) rfl
theorem w9_Mo_isNear : CWv y_Mo_isNear b_Mo_isNear 4 (some (.boolean)) 1 ∧ Cond.instanceMethod y_Mo_isNear ∈ lw_ok ∧ Cond.selects y_Mo_isNear.cls y_Mo_isNear y_Mo_isNear ∈ lw_ok := ⟨⟨q3774, q348, by decide +kernel, by decide +kernel, by decide +kernel⟩, q3773, q238⟩
def y_Mo_checkOwn : MethodName := ⟨"ClassWorksModel", "checkOwn", "(II)I"⟩
abbrev b_Mo_checkOwn : ByteArray := prog_14_method_77_code
theorem d_Mo_checkOwn_0 : decode b_Mo_checkOwn 0 = .ok (.aload_n 0, 1) := by decide +kernel
theorem d_Mo_checkOwn_1 : decode b_Mo_checkOwn 1 = .ok (.getfield 83, 3) := by decide +kernel
theorem d_Mo_checkOwn_4 : decode b_Mo_checkOwn 4 = .ok (.aload_n 0, 1) := by decide +kernel
theorem d_Mo_checkOwn_5 : decode b_Mo_checkOwn 5 = .ok (.getfield 522, 3) := by decide +kernel
theorem d_Mo_checkOwn_8 : decode b_Mo_checkOwn 8 = .ok (.getfield 450, 3) := by decide +kernel
theorem d_Mo_checkOwn_11 : decode b_Mo_checkOwn 11 = .ok (.aload_n 0, 1) := by decide +kernel
theorem d_Mo_checkOwn_12 : decode b_Mo_checkOwn 12 = .ok (.getfield 768, 3) := by decide +kernel
theorem d_Mo_checkOwn_15 : decode b_Mo_checkOwn 15 = .ok (.iaload, 1) := by decide +kernel
theorem d_Mo_checkOwn_16 : decode b_Mo_checkOwn 16 = .ok (.iaload, 1) := by decide +kernel
theorem d_Mo_checkOwn_17 : decode b_Mo_checkOwn 17 = .ok (.istore_n 3, 1) := by decide +kernel
theorem d_Mo_checkOwn_18 : decode b_Mo_checkOwn 18 = .ok (.iload_n 1, 1) := by decide +kernel
theorem d_Mo_checkOwn_19 : decode b_Mo_checkOwn 19 = .ok (.tableswitch 405 50 59 #[206, 229, 206, 206, 405, 405, 405, 53, 182, 194], 53) := by decide +kernel
theorem d_Mo_checkOwn_72 : decode b_Mo_checkOwn 72 = .ok (.iconst 0, 1) := by decide +kernel
theorem d_Mo_checkOwn_73 : decode b_Mo_checkOwn 73 = .ok (.istore 4, 2) := by decide +kernel
theorem d_Mo_checkOwn_75 : decode b_Mo_checkOwn 75 = .ok (.iconst 0, 1) := by decide +kernel
theorem d_Mo_checkOwn_76 : decode b_Mo_checkOwn 76 = .ok (.istore 5, 2) := by decide +kernel
theorem d_Mo_checkOwn_78 : decode b_Mo_checkOwn 78 = .ok (.iload 5, 2) := by decide +kernel
theorem d_Mo_checkOwn_80 : decode b_Mo_checkOwn 80 = .ok (.aload_n 0, 1) := by decide +kernel
theorem d_Mo_checkOwn_81 : decode b_Mo_checkOwn 81 = .ok (.getfield 522, 3) := by decide +kernel
theorem d_Mo_checkOwn_84 : decode b_Mo_checkOwn 84 = .ok (.getfield 459, 3) := by decide +kernel
theorem d_Mo_checkOwn_87 : decode b_Mo_checkOwn 87 = .ok (.aload_n 0, 1) := by decide +kernel
theorem d_Mo_checkOwn_88 : decode b_Mo_checkOwn 88 = .ok (.getfield 768, 3) := by decide +kernel
theorem d_Mo_checkOwn_91 : decode b_Mo_checkOwn 91 = .ok (.iaload, 1) := by decide +kernel
theorem d_Mo_checkOwn_92 : decode b_Mo_checkOwn 92 = .ok (.if_icmp .ge 30, 3) := by decide +kernel
theorem d_Mo_checkOwn_95 : decode b_Mo_checkOwn 95 = .ok (.iload 4, 2) := by decide +kernel
theorem d_Mo_checkOwn_97 : decode b_Mo_checkOwn 97 = .ok (.aload_n 0, 1) := by decide +kernel
theorem d_Mo_checkOwn_98 : decode b_Mo_checkOwn 98 = .ok (.getfield 305, 3) := by decide +kernel
theorem d_Mo_checkOwn_101 : decode b_Mo_checkOwn 101 = .ok (.iload 5, 2) := by decide +kernel
theorem d_Mo_checkOwn_103 : decode b_Mo_checkOwn 103 = .ok (.iaload, 1) := by decide +kernel
theorem d_Mo_checkOwn_104 : decode b_Mo_checkOwn 104 = .ok (.iconst 5, 1) := by decide +kernel
theorem d_Mo_checkOwn_105 : decode b_Mo_checkOwn 105 = .ok (.if_icmp .ne 7, 3) := by decide +kernel
theorem d_Mo_checkOwn_108 : decode b_Mo_checkOwn 108 = .ok (.iconst 1, 1) := by decide +kernel
theorem d_Mo_checkOwn_109 : decode b_Mo_checkOwn 109 = .ok (.goto 4, 3) := by decide +kernel
theorem d_Mo_checkOwn_112 : decode b_Mo_checkOwn 112 = .ok (.iconst 0, 1) := by decide +kernel
theorem d_Mo_checkOwn_113 : decode b_Mo_checkOwn 113 = .ok (.ior, 1) := by decide +kernel
theorem d_Mo_checkOwn_114 : decode b_Mo_checkOwn 114 = .ok (.istore 4, 2) := by decide +kernel
theorem d_Mo_checkOwn_116 : decode b_Mo_checkOwn 116 = .ok (.iinc 5 1, 3) := by decide +kernel
theorem d_Mo_checkOwn_119 : decode b_Mo_checkOwn 119 = .ok (.goto (-41), 3) := by decide +kernel
theorem d_Mo_checkOwn_122 : decode b_Mo_checkOwn 122 = .ok (.iconst 0, 1) := by decide +kernel
theorem d_Mo_checkOwn_123 : decode b_Mo_checkOwn 123 = .ok (.istore 5, 2) := by decide +kernel
theorem d_Mo_checkOwn_125 : decode b_Mo_checkOwn 125 = .ok (.iload 5, 2) := by decide +kernel
theorem d_Mo_checkOwn_127 : decode b_Mo_checkOwn 127 = .ok (.aload_n 0, 1) := by decide +kernel
theorem d_Mo_checkOwn_128 : decode b_Mo_checkOwn 128 = .ok (.getfield 780, 3) := by decide +kernel
theorem d_Mo_checkOwn_131 : decode b_Mo_checkOwn 131 = .ok (.if_icmp .ge 30, 3) := by decide +kernel
theorem d_Mo_checkOwn_134 : decode b_Mo_checkOwn 134 = .ok (.iload 4, 2) := by decide +kernel
theorem d_Mo_checkOwn_136 : decode b_Mo_checkOwn 136 = .ok (.aload_n 0, 1) := by decide +kernel
theorem d_Mo_checkOwn_137 : decode b_Mo_checkOwn 137 = .ok (.getfield 308, 3) := by decide +kernel
theorem d_Mo_checkOwn_140 : decode b_Mo_checkOwn 140 = .ok (.iload 5, 2) := by decide +kernel
theorem d_Mo_checkOwn_142 : decode b_Mo_checkOwn 142 = .ok (.iaload, 1) := by decide +kernel
theorem d_Mo_checkOwn_143 : decode b_Mo_checkOwn 143 = .ok (.iconst 5, 1) := by decide +kernel
theorem d_Mo_checkOwn_144 : decode b_Mo_checkOwn 144 = .ok (.if_icmp .ne 7, 3) := by decide +kernel
theorem d_Mo_checkOwn_147 : decode b_Mo_checkOwn 147 = .ok (.iconst 1, 1) := by decide +kernel
theorem d_Mo_checkOwn_148 : decode b_Mo_checkOwn 148 = .ok (.goto 4, 3) := by decide +kernel
theorem d_Mo_checkOwn_151 : decode b_Mo_checkOwn 151 = .ok (.iconst 0, 1) := by decide +kernel
theorem d_Mo_checkOwn_152 : decode b_Mo_checkOwn 152 = .ok (.ior, 1) := by decide +kernel
theorem d_Mo_checkOwn_153 : decode b_Mo_checkOwn 153 = .ok (.istore 4, 2) := by decide +kernel
theorem d_Mo_checkOwn_155 : decode b_Mo_checkOwn 155 = .ok (.iinc 5 1, 3) := by decide +kernel
theorem d_Mo_checkOwn_158 : decode b_Mo_checkOwn 158 = .ok (.goto (-33), 3) := by decide +kernel
theorem d_Mo_checkOwn_161 : decode b_Mo_checkOwn 161 = .ok (.iload 4, 2) := by decide +kernel
theorem d_Mo_checkOwn_163 : decode b_Mo_checkOwn 163 = .ok (.ifCond .eq 27, 3) := by decide +kernel
theorem d_Mo_checkOwn_166 : decode b_Mo_checkOwn 166 = .ok (.aload_n 0, 1) := by decide +kernel
theorem d_Mo_checkOwn_167 : decode b_Mo_checkOwn 167 = .ok (.getfield 522, 3) := by decide +kernel
theorem d_Mo_checkOwn_170 : decode b_Mo_checkOwn 170 = .ok (.getfield 447, 3) := by decide +kernel
theorem d_Mo_checkOwn_173 : decode b_Mo_checkOwn 173 = .ok (.aload_n 0, 1) := by decide +kernel
theorem d_Mo_checkOwn_174 : decode b_Mo_checkOwn 174 = .ok (.getfield 768, 3) := by decide +kernel
theorem d_Mo_checkOwn_177 : decode b_Mo_checkOwn 177 = .ok (.iaload, 1) := by decide +kernel
theorem d_Mo_checkOwn_178 : decode b_Mo_checkOwn 178 = .ok (.aload_n 0, 1) := by decide +kernel
theorem d_Mo_checkOwn_179 : decode b_Mo_checkOwn 179 = .ok (.getfield 121, 3) := by decide +kernel
theorem d_Mo_checkOwn_182 : decode b_Mo_checkOwn 182 = .ok (.if_icmp .ne 8, 3) := by decide +kernel
theorem d_Mo_checkOwn_185 : decode b_Mo_checkOwn 185 = .ok (.bipush 40, 2) := by decide +kernel
theorem d_Mo_checkOwn_187 : decode b_Mo_checkOwn 187 = .ok (.goto 13, 3) := by decide +kernel
theorem d_Mo_checkOwn_190 : decode b_Mo_checkOwn 190 = .ok (.iload_n 3, 1) := by decide +kernel
theorem d_Mo_checkOwn_191 : decode b_Mo_checkOwn 191 = .ok (.ifCond .eq 8, 3) := by decide +kernel
theorem d_Mo_checkOwn_194 : decode b_Mo_checkOwn 194 = .ok (.bipush 41, 2) := by decide +kernel
theorem d_Mo_checkOwn_196 : decode b_Mo_checkOwn 196 = .ok (.goto 4, 3) := by decide +kernel
theorem d_Mo_checkOwn_199 : decode b_Mo_checkOwn 199 = .ok (.iconst 0, 1) := by decide +kernel
theorem d_Mo_checkOwn_200 : decode b_Mo_checkOwn 200 = .ok (.ireturn, 1) := by decide +kernel
theorem d_Mo_checkOwn_201 : decode b_Mo_checkOwn 201 = .ok (.iload_n 3, 1) := by decide +kernel
theorem d_Mo_checkOwn_202 : decode b_Mo_checkOwn 202 = .ok (.iconst 1, 1) := by decide +kernel
theorem d_Mo_checkOwn_203 : decode b_Mo_checkOwn 203 = .ok (.if_icmp .eq 8, 3) := by decide +kernel
theorem d_Mo_checkOwn_206 : decode b_Mo_checkOwn 206 = .ok (.bipush 41, 2) := by decide +kernel
theorem d_Mo_checkOwn_208 : decode b_Mo_checkOwn 208 = .ok (.goto 4, 3) := by decide +kernel
theorem d_Mo_checkOwn_211 : decode b_Mo_checkOwn 211 = .ok (.iconst 0, 1) := by decide +kernel
theorem d_Mo_checkOwn_212 : decode b_Mo_checkOwn 212 = .ok (.ireturn, 1) := by decide +kernel
theorem d_Mo_checkOwn_213 : decode b_Mo_checkOwn 213 = .ok (.iload_n 3, 1) := by decide +kernel
theorem d_Mo_checkOwn_214 : decode b_Mo_checkOwn 214 = .ok (.iconst 1, 1) := by decide +kernel
theorem d_Mo_checkOwn_215 : decode b_Mo_checkOwn 215 = .ok (.if_icmp .gt 8, 3) := by decide +kernel
theorem d_Mo_checkOwn_218 : decode b_Mo_checkOwn 218 = .ok (.bipush 41, 2) := by decide +kernel
theorem d_Mo_checkOwn_220 : decode b_Mo_checkOwn 220 = .ok (.goto 4, 3) := by decide +kernel
theorem d_Mo_checkOwn_223 : decode b_Mo_checkOwn 223 = .ok (.iconst 0, 1) := by decide +kernel
theorem d_Mo_checkOwn_224 : decode b_Mo_checkOwn 224 = .ok (.ireturn, 1) := by decide +kernel
theorem d_Mo_checkOwn_225 : decode b_Mo_checkOwn 225 = .ok (.aload_n 0, 1) := by decide +kernel
theorem d_Mo_checkOwn_226 : decode b_Mo_checkOwn 226 = .ok (.getfield 522, 3) := by decide +kernel
theorem d_Mo_checkOwn_229 : decode b_Mo_checkOwn 229 = .ok (.getfield 680, 3) := by decide +kernel
theorem d_Mo_checkOwn_232 : decode b_Mo_checkOwn 232 = .ok (.iload_n 2, 1) := by decide +kernel
theorem d_Mo_checkOwn_233 : decode b_Mo_checkOwn 233 = .ok (.iaload, 1) := by decide +kernel
theorem d_Mo_checkOwn_234 : decode b_Mo_checkOwn 234 = .ok (.aload_n 0, 1) := by decide +kernel
theorem d_Mo_checkOwn_235 : decode b_Mo_checkOwn 235 = .ok (.getfield 121, 3) := by decide +kernel
theorem d_Mo_checkOwn_238 : decode b_Mo_checkOwn 238 = .ok (.if_icmp .ne 8, 3) := by decide +kernel
theorem d_Mo_checkOwn_241 : decode b_Mo_checkOwn 241 = .ok (.bipush 42, 2) := by decide +kernel
theorem d_Mo_checkOwn_243 : decode b_Mo_checkOwn 243 = .ok (.goto 4, 3) := by decide +kernel
theorem d_Mo_checkOwn_246 : decode b_Mo_checkOwn 246 = .ok (.iconst 0, 1) := by decide +kernel
theorem d_Mo_checkOwn_247 : decode b_Mo_checkOwn 247 = .ok (.ireturn, 1) := by decide +kernel
theorem d_Mo_checkOwn_248 : decode b_Mo_checkOwn 248 = .ok (.aload_n 0, 1) := by decide +kernel
theorem d_Mo_checkOwn_249 : decode b_Mo_checkOwn 249 = .ok (.getfield 522, 3) := by decide +kernel
theorem d_Mo_checkOwn_252 : decode b_Mo_checkOwn 252 = .ok (.getfield 680, 3) := by decide +kernel
theorem d_Mo_checkOwn_255 : decode b_Mo_checkOwn 255 = .ok (.iload_n 2, 1) := by decide +kernel
theorem d_Mo_checkOwn_256 : decode b_Mo_checkOwn 256 = .ok (.iaload, 1) := by decide +kernel
theorem d_Mo_checkOwn_257 : decode b_Mo_checkOwn 257 = .ok (.aload_n 0, 1) := by decide +kernel
theorem d_Mo_checkOwn_258 : decode b_Mo_checkOwn 258 = .ok (.getfield 121, 3) := by decide +kernel
theorem d_Mo_checkOwn_261 : decode b_Mo_checkOwn 261 = .ok (.if_icmp .eq 26, 3) := by decide +kernel
theorem d_Mo_checkOwn_264 : decode b_Mo_checkOwn 264 = .ok (.aload_n 0, 1) := by decide +kernel
theorem d_Mo_checkOwn_265 : decode b_Mo_checkOwn 265 = .ok (.aload_n 0, 1) := by decide +kernel
theorem d_Mo_checkOwn_266 : decode b_Mo_checkOwn 266 = .ok (.getfield 522, 3) := by decide +kernel
theorem d_Mo_checkOwn_269 : decode b_Mo_checkOwn 269 = .ok (.getfield 677, 3) := by decide +kernel
theorem d_Mo_checkOwn_272 : decode b_Mo_checkOwn 272 = .ok (.iload_n 2, 1) := by decide +kernel
theorem d_Mo_checkOwn_273 : decode b_Mo_checkOwn 273 = .ok (.iaload, 1) := by decide +kernel
theorem d_Mo_checkOwn_274 : decode b_Mo_checkOwn 274 = .ok (.invokevirtual 838, 3) := by decide +kernel
theorem d_Mo_checkOwn_277 : decode b_Mo_checkOwn 277 = .ok (.ifCond .eq 7, 3) := by decide +kernel
theorem d_Mo_checkOwn_280 : decode b_Mo_checkOwn 280 = .ok (.iconst 0, 1) := by decide +kernel
theorem d_Mo_checkOwn_281 : decode b_Mo_checkOwn 281 = .ok (.goto 5, 3) := by decide +kernel
theorem d_Mo_checkOwn_284 : decode b_Mo_checkOwn 284 = .ok (.bipush 42, 2) := by decide +kernel
theorem d_Mo_checkOwn_286 : decode b_Mo_checkOwn 286 = .ok (.ireturn, 1) := by decide +kernel
theorem d_Mo_checkOwn_287 : decode b_Mo_checkOwn 287 = .ok (.aload_n 0, 1) := by decide +kernel
theorem d_Mo_checkOwn_288 : decode b_Mo_checkOwn 288 = .ok (.getfield 308, 3) := by decide +kernel
theorem d_Mo_checkOwn_291 : decode b_Mo_checkOwn 291 = .ok (.aload_n 0, 1) := by decide +kernel
theorem d_Mo_checkOwn_292 : decode b_Mo_checkOwn 292 = .ok (.getfield 780, 3) := by decide +kernel
theorem d_Mo_checkOwn_295 : decode b_Mo_checkOwn 295 = .ok (.aload_n 0, 1) := by decide +kernel
theorem d_Mo_checkOwn_296 : decode b_Mo_checkOwn 296 = .ok (.getfield 823, 3) := by decide +kernel
theorem d_Mo_checkOwn_299 : decode b_Mo_checkOwn 299 = .ok (.isub, 1) := by decide +kernel
theorem d_Mo_checkOwn_300 : decode b_Mo_checkOwn 300 = .ok (.iaload, 1) := by decide +kernel
theorem d_Mo_checkOwn_301 : decode b_Mo_checkOwn 301 = .ok (.istore 4, 2) := by decide +kernel
theorem d_Mo_checkOwn_303 : decode b_Mo_checkOwn 303 = .ok (.iload 4, 2) := by decide +kernel
theorem d_Mo_checkOwn_305 : decode b_Mo_checkOwn 305 = .ok (.ifCond .ge 44, 3) := by decide +kernel
theorem d_Mo_checkOwn_308 : decode b_Mo_checkOwn 308 = .ok (.aload_n 0, 1) := by decide +kernel
theorem d_Mo_checkOwn_309 : decode b_Mo_checkOwn 309 = .ok (.getfield 522, 3) := by decide +kernel
theorem d_Mo_checkOwn_312 : decode b_Mo_checkOwn 312 = .ok (.getfield 677, 3) := by decide +kernel
theorem d_Mo_checkOwn_315 : decode b_Mo_checkOwn 315 = .ok (.aload_n 0, 1) := by decide +kernel
theorem d_Mo_checkOwn_316 : decode b_Mo_checkOwn 316 = .ok (.getfield 522, 3) := by decide +kernel
theorem d_Mo_checkOwn_319 : decode b_Mo_checkOwn 319 = .ok (.getfield 462, 3) := by decide +kernel
theorem d_Mo_checkOwn_322 : decode b_Mo_checkOwn 322 = .ok (.aload_n 0, 1) := by decide +kernel
theorem d_Mo_checkOwn_323 : decode b_Mo_checkOwn 323 = .ok (.getfield 768, 3) := by decide +kernel
theorem d_Mo_checkOwn_326 : decode b_Mo_checkOwn 326 = .ok (.iaload, 1) := by decide +kernel
theorem d_Mo_checkOwn_327 : decode b_Mo_checkOwn 327 = .ok (.iconst 1, 1) := by decide +kernel
theorem d_Mo_checkOwn_328 : decode b_Mo_checkOwn 328 = .ok (.isub, 1) := by decide +kernel
theorem d_Mo_checkOwn_329 : decode b_Mo_checkOwn 329 = .ok (.iload 4, 2) := by decide +kernel
theorem d_Mo_checkOwn_331 : decode b_Mo_checkOwn 331 = .ok (.isub, 1) := by decide +kernel
theorem d_Mo_checkOwn_332 : decode b_Mo_checkOwn 332 = .ok (.iaload, 1) := by decide +kernel
theorem d_Mo_checkOwn_333 : decode b_Mo_checkOwn 333 = .ok (.aload_n 0, 1) := by decide +kernel
theorem d_Mo_checkOwn_334 : decode b_Mo_checkOwn 334 = .ok (.getfield 522, 3) := by decide +kernel
theorem d_Mo_checkOwn_337 : decode b_Mo_checkOwn 337 = .ok (.getfield 677, 3) := by decide +kernel
theorem d_Mo_checkOwn_340 : decode b_Mo_checkOwn 340 = .ok (.iload_n 2, 1) := by decide +kernel
theorem d_Mo_checkOwn_341 : decode b_Mo_checkOwn 341 = .ok (.iaload, 1) := by decide +kernel
theorem d_Mo_checkOwn_342 : decode b_Mo_checkOwn 342 = .ok (.if_icmp .ne 7, 3) := by decide +kernel
theorem d_Mo_checkOwn_345 : decode b_Mo_checkOwn 345 = .ok (.iconst 1, 1) := by decide +kernel
theorem d_Mo_checkOwn_346 : decode b_Mo_checkOwn 346 = .ok (.goto 4, 3) := by decide +kernel
theorem d_Mo_checkOwn_349 : decode b_Mo_checkOwn 349 = .ok (.iconst 0, 1) := by decide +kernel
theorem d_Mo_checkOwn_350 : decode b_Mo_checkOwn 350 = .ok (.istore 5, 2) := by decide +kernel
theorem d_Mo_checkOwn_352 : decode b_Mo_checkOwn 352 = .ok (.iload 5, 2) := by decide +kernel
theorem d_Mo_checkOwn_354 : decode b_Mo_checkOwn 354 = .ok (.iload 4, 2) := by decide +kernel
theorem d_Mo_checkOwn_356 : decode b_Mo_checkOwn 356 = .ok (.iconst 5, 1) := by decide +kernel
theorem d_Mo_checkOwn_357 : decode b_Mo_checkOwn 357 = .ok (.if_icmp .ne 51, 3) := by decide +kernel
theorem d_Mo_checkOwn_360 : decode b_Mo_checkOwn 360 = .ok (.aload_n 0, 1) := by decide +kernel
theorem d_Mo_checkOwn_361 : decode b_Mo_checkOwn 361 = .ok (.getfield 522, 3) := by decide +kernel
theorem d_Mo_checkOwn_364 : decode b_Mo_checkOwn 364 = .ok (.getfield 677, 3) := by decide +kernel
theorem d_Mo_checkOwn_367 : decode b_Mo_checkOwn 367 = .ok (.iload_n 2, 1) := by decide +kernel
theorem d_Mo_checkOwn_368 : decode b_Mo_checkOwn 368 = .ok (.iaload, 1) := by decide +kernel
theorem d_Mo_checkOwn_369 : decode b_Mo_checkOwn 369 = .ok (.aload_n 0, 1) := by decide +kernel
theorem d_Mo_checkOwn_370 : decode b_Mo_checkOwn 370 = .ok (.getfield 522, 3) := by decide +kernel
theorem d_Mo_checkOwn_373 : decode b_Mo_checkOwn 373 = .ok (.getfield 423, 3) := by decide +kernel
theorem d_Mo_checkOwn_376 : decode b_Mo_checkOwn 376 = .ok (.aload_n 0, 1) := by decide +kernel
theorem d_Mo_checkOwn_377 : decode b_Mo_checkOwn 377 = .ok (.getfield 789, 3) := by decide +kernel
theorem d_Mo_checkOwn_380 : decode b_Mo_checkOwn 380 = .ok (.iaload, 1) := by decide +kernel
theorem d_Mo_checkOwn_381 : decode b_Mo_checkOwn 381 = .ok (.if_icmp .eq 23, 3) := by decide +kernel
theorem d_Mo_checkOwn_384 : decode b_Mo_checkOwn 384 = .ok (.aload_n 0, 1) := by decide +kernel
theorem d_Mo_checkOwn_385 : decode b_Mo_checkOwn 385 = .ok (.getfield 522, 3) := by decide +kernel
theorem d_Mo_checkOwn_388 : decode b_Mo_checkOwn 388 = .ok (.getfield 677, 3) := by decide +kernel
theorem d_Mo_checkOwn_391 : decode b_Mo_checkOwn 391 = .ok (.iload_n 2, 1) := by decide +kernel
theorem d_Mo_checkOwn_392 : decode b_Mo_checkOwn 392 = .ok (.iaload, 1) := by decide +kernel
theorem d_Mo_checkOwn_393 : decode b_Mo_checkOwn 393 = .ok (.aload_n 0, 1) := by decide +kernel
theorem d_Mo_checkOwn_394 : decode b_Mo_checkOwn 394 = .ok (.aload_n 0, 1) := by decide +kernel
theorem d_Mo_checkOwn_395 : decode b_Mo_checkOwn 395 = .ok (.getfield 789, 3) := by decide +kernel
theorem d_Mo_checkOwn_398 : decode b_Mo_checkOwn 398 = .ok (.invokevirtual 765, 3) := by decide +kernel
theorem d_Mo_checkOwn_401 : decode b_Mo_checkOwn 401 = .ok (.if_icmp .ne 7, 3) := by decide +kernel
theorem d_Mo_checkOwn_404 : decode b_Mo_checkOwn 404 = .ok (.iconst 1, 1) := by decide +kernel
theorem d_Mo_checkOwn_405 : decode b_Mo_checkOwn 405 = .ok (.goto 4, 3) := by decide +kernel
theorem d_Mo_checkOwn_408 : decode b_Mo_checkOwn 408 = .ok (.iconst 0, 1) := by decide +kernel
theorem d_Mo_checkOwn_409 : decode b_Mo_checkOwn 409 = .ok (.ior, 1) := by decide +kernel
theorem d_Mo_checkOwn_410 : decode b_Mo_checkOwn 410 = .ok (.istore 5, 2) := by decide +kernel
theorem d_Mo_checkOwn_412 : decode b_Mo_checkOwn 412 = .ok (.iload 5, 2) := by decide +kernel
theorem d_Mo_checkOwn_414 : decode b_Mo_checkOwn 414 = .ok (.ifCond .eq 7, 3) := by decide +kernel
theorem d_Mo_checkOwn_417 : decode b_Mo_checkOwn 417 = .ok (.iconst 0, 1) := by decide +kernel
theorem d_Mo_checkOwn_418 : decode b_Mo_checkOwn 418 = .ok (.goto 5, 3) := by decide +kernel
theorem d_Mo_checkOwn_421 : decode b_Mo_checkOwn 421 = .ok (.bipush 42, 2) := by decide +kernel
theorem d_Mo_checkOwn_423 : decode b_Mo_checkOwn 423 = .ok (.ireturn, 1) := by decide +kernel
theorem d_Mo_checkOwn_424 : decode b_Mo_checkOwn 424 = .ok (.iconst 0, 1) := by decide +kernel
theorem d_Mo_checkOwn_425 : decode b_Mo_checkOwn 425 = .ok (.ireturn, 1) := by decide +kernel
abbrev ru_Mo_checkOwn : Room := { frames := 2, cells := 0, slots := 0, locals := 44 }
def wj_Mo_checkOwn_247 (y : Ly) (Post : St → Int32 → Prop) (a0 : Nat) (s_j247 : St) (z0j247 : Int32) : Prop := Post s_j247 z0j247
def wj_Mo_checkOwn_423 (y : Ly) (Post : St → Int32 → Prop) (a0 : Nat) (s_j423 : St) (z0j423 : Int32) : Prop := Post s_j423 z0j423
def wj_Mo_checkOwn_409 (y : Ly) (Post : St → Int32 → Prop) (a0 : Nat) (s_j409 : St) (z0j409 : Int32) (z1j409 : Int32) : Prop := (((z0j409 ||| z1j409) = 0 → wj_Mo_checkOwn_423 y Post a0 s_j409 42) ∧ (¬ ((z0j409 ||| z1j409) = 0) → wj_Mo_checkOwn_423 y Post a0 s_j409 0))
def wj_Mo_checkOwn_408 (y : Ly) (Post : St → Int32 → Prop) (a0 : Nat) (s_j408 : St) (z0j408 : Int32) : Prop := wj_Mo_checkOwn_409 y Post a0 s_j408 z0j408 0
def wj_Mo_checkOwn_404 (y : Ly) (Post : St → Int32 → Prop) (a0 : Nat) (s_j404 : St) (z0j404 : Int32) : Prop := wj_Mo_checkOwn_409 y Post a0 s_j404 z0j404 1
def wj_Mo_checkOwn_350 (y : Ly) (Post : St → Int32 → Prop) (a0 : Nat) (s_j350 : St) (x2j350 : Int32) (x4j350 : Int32) (z0j350 : Int32) : Prop := ((¬ x4j350 = 5 → wj_Mo_checkOwn_408 y Post a0 s_j350 z0j350) ∧ (x4j350 = 5 → ∃ b_15 : Nat, sO s_j350 a0 45 = some b_15 ∧ cl b_15 = 13 ∧ xA y s_j350 b_15 31 x2j350 (fun x_18 : Int32 => ∃ b_19 : Nat, sO s_j350 a0 45 = some b_19 ∧ cl b_19 = 13 ∧ xA y s_j350 b_19 3 (sV s_j350 a0 76) (fun x_22 : Int32 => ((x_18 = x_22 → wj_Mo_checkOwn_404 y Post a0 s_j350 z0j350) ∧ (¬ (x_18 = x_22) → ∃ b_23 : Nat, sO s_j350 a0 45 = some b_23 ∧ cl b_23 = 13 ∧ xA y s_j350 b_23 31 x2j350 (fun x_26 : Int32 => wu_Mo_parentName y (fun (s_28 : St) (r_27 : Int32) => ((¬ x_26 = r_27 → wj_Mo_checkOwn_408 y Post a0 s_28 z0j350) ∧ (x_26 = r_27 → wj_Mo_checkOwn_404 y Post a0 s_28 z0j350))) s_j350 a0 (sV s_j350 a0 76))))))))
def wj_Mo_checkOwn_349 (y : Ly) (Post : St → Int32 → Prop) (a0 : Nat) (s_j349 : St) (x2j349 : Int32) (x4j349 : Int32) : Prop := wj_Mo_checkOwn_350 y Post a0 s_j349 x2j349 x4j349 0
def wj_Mo_checkOwn_286 (y : Ly) (Post : St → Int32 → Prop) (a0 : Nat) (s_j286 : St) (z0j286 : Int32) : Prop := Post s_j286 z0j286
def wj_Mo_checkOwn_200 (y : Ly) (Post : St → Int32 → Prop) (a0 : Nat) (s_j200 : St) (z0j200 : Int32) : Prop := Post s_j200 z0j200
def wj_Mo_checkOwn_190 (y : Ly) (Post : St → Int32 → Prop) (a0 : Nat) (s_j190 : St) (x3j190 : Int32) : Prop := ((x3j190 = 0 → wj_Mo_checkOwn_200 y Post a0 s_j190 0) ∧ (¬ (x3j190 = 0) → wj_Mo_checkOwn_200 y Post a0 s_j190 41))
def wj_Mo_checkOwn_152 (y : Ly) (Post : St → Int32 → Prop) (K_125 : St → Int32 → Int32 → Int32 → Prop) (a0 : Nat) (s_j152 : St) (x3j152 : Int32) (x5j152 : Int32) (z0j152 : Int32) (z1j152 : Int32) : Prop := K_125 s_j152 x3j152 (z0j152 ||| z1j152) (x5j152 + 1)
def wb_Mo_checkOwn_125 (y : Ly) (Post : St → Int32 → Prop) (K_125 : St → Int32 → Int32 → Int32 → Prop) (a0 : Nat) (s_h125 : St) (x3h125 : Int32) (x4h125 : Int32) (x5h125 : Int32) : Prop := (((sV s_h125 a0 72) ≤ x5h125 → ((x4h125 = 0 → wj_Mo_checkOwn_190 y Post a0 s_h125 x3h125) ∧ (¬ (x4h125 = 0) → ∃ b_59 : Nat, sO s_h125 a0 45 = some b_59 ∧ cl b_59 = 13 ∧ xA y s_h125 b_59 18 (sV s_h125 a0 75) (fun x_62 : Int32 => ((¬ x_62 = (sV s_h125 a0 6) → wj_Mo_checkOwn_190 y Post a0 s_h125 x3h125) ∧ (x_62 = (sV s_h125 a0 6) → wj_Mo_checkOwn_200 y Post a0 s_h125 40)))))) ∧ (¬ ((sV s_h125 a0 72) ≤ x5h125) → xA y s_h125 a0 71 x5h125 (fun x_63 : Int32 => ((¬ x_63 = 5 → wj_Mo_checkOwn_152 y Post K_125 a0 s_h125 x3h125 x5h125 x4h125 0) ∧ (x_63 = 5 → wj_Mo_checkOwn_152 y Post K_125 a0 s_h125 x3h125 x5h125 x4h125 1)))))
def wl_Mo_checkOwn_125 (y : Ly) (Post : St → Int32 → Prop) (a0 : Nat) (s_h125 : St) (x3h125 : Int32) (x4h125 : Int32) (x5h125 : Int32) : Prop := ∃ (I : St → Int32 → Int32 → Int32 → Prop) (μ : St → Int32 → Int32 → Int32 → Nat), I s_h125 x3h125 x4h125 x5h125 ∧ ∀ (u : St) (t0 : Int32) (t1 : Int32) (t2 : Int32), I u t0 t1 t2 → wb_Mo_checkOwn_125 y Post (fun z t0q t1q t2q => I z t0q t1q t2q ∧ μ z t0q t1q t2q < μ u t0 t1 t2) a0 u t0 t1 t2
def wj_Mo_checkOwn_113 (y : Ly) (Post : St → Int32 → Prop) (K_78 : St → Int32 → Int32 → Int32 → Prop) (a0 : Nat) (s_j113 : St) (x3j113 : Int32) (x5j113 : Int32) (z0j113 : Int32) (z1j113 : Int32) : Prop := K_78 s_j113 x3j113 (z0j113 ||| z1j113) (x5j113 + 1)
def wb_Mo_checkOwn_78 (y : Ly) (Post : St → Int32 → Prop) (K_78 : St → Int32 → Int32 → Int32 → Prop) (a0 : Nat) (s_h78 : St) (x3h78 : Int32) (x4h78 : Int32) (x5h78 : Int32) : Prop := ∃ b_55 : Nat, sO s_h78 a0 45 = some b_55 ∧ cl b_55 = 13 ∧ xA y s_h78 b_55 22 (sV s_h78 a0 75) (fun x_58 : Int32 => ((x_58 ≤ x5h78 → wl_Mo_checkOwn_125 y Post a0 s_h78 x3h78 x4h78 0) ∧ (¬ (x_58 ≤ x5h78) → xA y s_h78 a0 70 x5h78 (fun x_64 : Int32 => ((¬ x_64 = 5 → wj_Mo_checkOwn_113 y Post K_78 a0 s_h78 x3h78 x5h78 x4h78 0) ∧ (x_64 = 5 → wj_Mo_checkOwn_113 y Post K_78 a0 s_h78 x3h78 x5h78 x4h78 1))))))
def wl_Mo_checkOwn_78 (y : Ly) (Post : St → Int32 → Prop) (a0 : Nat) (s_h78 : St) (x3h78 : Int32) (x4h78 : Int32) (x5h78 : Int32) : Prop := ∃ (I : St → Int32 → Int32 → Int32 → Prop) (μ : St → Int32 → Int32 → Int32 → Nat), I s_h78 x3h78 x4h78 x5h78 ∧ ∀ (u : St) (t0 : Int32) (t1 : Int32) (t2 : Int32), I u t0 t1 t2 → wb_Mo_checkOwn_78 y Post (fun z t0q t1q t2q => I z t0q t1q t2q ∧ μ z t0q t1q t2q < μ u t0 t1 t2) a0 u t0 t1 t2
def wj_Mo_checkOwn_212 (y : Ly) (Post : St → Int32 → Prop) (a0 : Nat) (s_j212 : St) (z0j212 : Int32) : Prop := Post s_j212 z0j212
def wj_Mo_checkOwn_224 (y : Ly) (Post : St → Int32 → Prop) (a0 : Nat) (s_j224 : St) (z0j224 : Int32) : Prop := Post s_j224 z0j224
def wu_Mo_checkOwn (y : Ly) (Post : St → Int32 → Prop) (σ : St) (a0 : Nat) (v1 : Int32) (v2 : Int32) : Prop := ∃ b_1 : Nat, sO σ a0 45 = some b_1 ∧ cl b_1 = 13 ∧ xA y σ b_1 19 (sV σ a0 75) (fun x_4 : Int32 => xA y σ a0 32 x_4 (fun x_5 : Int32 => ((v1 = 50 → ∃ b_6 : Nat, sO σ a0 45 = some b_6 ∧ cl b_6 = 13 ∧ xA y σ b_6 32 v2 (fun x_9 : Int32 => ((¬ x_9 = (sV σ a0 6) → wj_Mo_checkOwn_247 y Post a0 σ 0) ∧ (x_9 = (sV σ a0 6) → wj_Mo_checkOwn_247 y Post a0 σ 42)))) ∧ (¬ (v1 = 50) → ((v1 = 51 → ∃ b_10 : Nat, sO σ a0 45 = some b_10 ∧ cl b_10 = 13 ∧ xA y σ b_10 32 v2 (fun x_13 : Int32 => ((x_13 = (sV σ a0 6) → xA y σ a0 71 ((sV σ a0 72) - (sV σ a0 79)) (fun x_14 : Int32 => ((0 ≤ x_14 → wj_Mo_checkOwn_349 y Post a0 σ v2 x_14) ∧ (¬ (0 ≤ x_14) → ∃ b_29 : Nat, sO σ a0 45 = some b_29 ∧ cl b_29 = 13 ∧ ∃ b_32 : Nat, sO σ a0 45 = some b_32 ∧ cl b_32 = 13 ∧ xA y σ b_32 23 (sV σ a0 75) (fun x_35 : Int32 => xA y σ b_29 31 ((x_35 - 1) - x_14) (fun x_36 : Int32 => ∃ b_37 : Nat, sO σ a0 45 = some b_37 ∧ cl b_37 = 13 ∧ xA y σ b_37 31 v2 (fun x_40 : Int32 => ((¬ x_36 = x_40 → wj_Mo_checkOwn_349 y Post a0 σ v2 x_14) ∧ (x_36 = x_40 → wj_Mo_checkOwn_350 y Post a0 σ v2 x_14 1))))))))) ∧ (¬ (x_13 = (sV σ a0 6)) → ∃ b_41 : Nat, sO σ a0 45 = some b_41 ∧ cl b_41 = 13 ∧ xA y σ b_41 31 v2 (fun x_44 : Int32 => wu_Mo_isNear y (fun (s_46 : St) (r_45 : Int32) => ((r_45 = 0 → wj_Mo_checkOwn_286 y Post a0 s_46 42) ∧ (¬ (r_45 = 0) → wj_Mo_checkOwn_286 y Post a0 s_46 0))) σ a0 x_44))))) ∧ (¬ (v1 = 51) → ((v1 = 52 → ∃ b_47 : Nat, sO σ a0 45 = some b_47 ∧ cl b_47 = 13 ∧ xA y σ b_47 32 v2 (fun x_50 : Int32 => ((¬ x_50 = (sV σ a0 6) → wj_Mo_checkOwn_247 y Post a0 σ 0) ∧ (x_50 = (sV σ a0 6) → wj_Mo_checkOwn_247 y Post a0 σ 42)))) ∧ (¬ (v1 = 52) → ((v1 = 53 → ∃ b_51 : Nat, sO σ a0 45 = some b_51 ∧ cl b_51 = 13 ∧ xA y σ b_51 32 v2 (fun x_54 : Int32 => ((¬ x_54 = (sV σ a0 6) → wj_Mo_checkOwn_247 y Post a0 σ 0) ∧ (x_54 = (sV σ a0 6) → wj_Mo_checkOwn_247 y Post a0 σ 42)))) ∧ (¬ (v1 = 53) → ((v1 = 54 → Post σ 0) ∧ (¬ (v1 = 54) → ((v1 = 55 → Post σ 0) ∧ (¬ (v1 = 55) → ((v1 = 56 → Post σ 0) ∧ (¬ (v1 = 56) → ((v1 = 57 → wl_Mo_checkOwn_78 y Post a0 σ x_5 0 0) ∧ (¬ (v1 = 57) → ((v1 = 58 → ((x_5 = 1 → wj_Mo_checkOwn_212 y Post a0 σ 0) ∧ (¬ (x_5 = 1) → wj_Mo_checkOwn_212 y Post a0 σ 41))) ∧ (¬ (v1 = 58) → ((v1 = 59 → ((1 < x_5 → wj_Mo_checkOwn_224 y Post a0 σ 0) ∧ (¬ (1 < x_5) → wj_Mo_checkOwn_224 y Post a0 σ 41))) ∧ (¬ (v1 = 59) → Post σ 0))))))))))))))))))))))
set_option maxHeartbeats 4000000 in
set_option maxRecDepth 100000 in
theorem cu_Mo_checkOwn (l : Launch) (D : va_G) (g : Nat → ClassId) (ad : Nat → Nat) (y : Ly) (Post : St → Int32 → Prop) (σ : St) (a0 : Nat) (v1 : Int32) (v2 : Int32) (sz : Nat) (h_a0 : cl a0 = 14) (h : wu_Mo_checkOwn y Post σ a0 v1 v2) : Met l y_Mo_checkOwn (mw y_Mo_checkOwn b_Mo_checkOwn 6 (some .int)) ru_Mo_checkOwn (PC g D [] [.ref (ad a0), .int v1, .int v2] sz (ws g ad y σ)) (va_Qi (fun (r : Int32) (u : St) => Post u r) (QW D (va_A (ws g ad y σ) sz) (fun u => ws g ad y u)) (va_A (ws g ad y σ) sz)) 0 0 (va_A (ws g ad y σ) sz) := by
  refine ofI (by decide +kernel) (Nat.le_of_ble_eq_true rfl) ?_
  intro p e s m args below meth c A Q ls H locs G hsz hP hD hS hl hret
  subst hsz
  have hl : lv_has ls 6 [(0, .ref (ad a0)), (1, .int v1), (2, .int v2)] := hl
  unfold wu_Mo_checkOwn at h
  refine lv_aload_n G.1 G.2.1 d_Mo_checkOwn_0 rfl (lv_at hl 0 rfl) ?_
  refine ugf (v := .ref (yP y a0 32)) G hP h_a0 iMo rfl 32 (by decide) rfl q3096 rfl rfl d_Mo_checkOwn_1 ?_
  refine lv_aload_n G.1 G.2.1 d_Mo_checkOwn_4 rfl (lv_at hl 0 rfl) ?_
  obtain ⟨b_1, e_2, c_3, h⟩ := h
  refine ugf (v := .ref (ad b_1)) G hP h_a0 iMo rfl 45 (by decide) rfl q3109 rfl (by show va_rf ((sO σ a0 45).map ad) = _; rw [e_2]; rfl) d_Mo_checkOwn_5 ?_
  refine ugfN (v := .ref (yP y b_1 19)) G hP c_3 iMw rfl 19 (by decide) rfl q2742 rfl rfl d_Mo_checkOwn_8 ?_
  refine lv_aload_n G.1 G.2.1 d_Mo_checkOwn_11 rfl (lv_at hl 0 rfl) ?_
  refine ugf (v := .int (sV σ a0 75)) G hP h_a0 iMo rfl 75 (by decide) rfl q3139 rfl rfl d_Mo_checkOwn_12 ?_
  refine uiald G hP (kdp c_3 rfl) (typ c_3 rfl) h d_Mo_checkOwn_15 (fun x_4 h => ?_)
  refine uiald G hP (kdp h_a0 rfl) (typ h_a0 rfl) h d_Mo_checkOwn_16 (fun x_5 h => ?_)
  refine lv_istore_n (lv' := [(3, .int x_5), (0, .ref (ad a0)), (1, .int v1), (2, .int v2)]) G.1 G.2.1 d_Mo_checkOwn_17 rfl hl (by decide) rfl (fun ls hl => ?_)
  refine lv_iload_n G.1 G.2.1 d_Mo_checkOwn_18 rfl (lv_at hl 2 rfl) ?_
  refine W.eq (g2 := F0 m 19 ls [.int v1]) rfl ?_
  by_cases e19_50 : v1 = 50
  · skip
    have h := h.1 e19_50
    refine lv_tableIn (off := 206) (tgt := 225) G.1 G.2.1 d_Mo_checkOwn_19 (by rw [e19_50]; decide) (by rw [e19_50]; decide) (by rw [e19_50]; rfl) (by decide) ?_
    refine lv_aload_n G.1 G.2.1 d_Mo_checkOwn_225 rfl (lv_at hl 1 rfl) ?_
    obtain ⟨b_6, e_7, c_8, h⟩ := h
    refine ugf (v := .ref (ad b_6)) G hP h_a0 iMo rfl 45 (by decide) rfl q3109 rfl (by show va_rf ((sO σ a0 45).map ad) = _; rw [e_7]; rfl) d_Mo_checkOwn_226 ?_
    refine ugfN (v := .ref (yP y b_6 32)) G hP c_8 iMw rfl 32 (by decide) rfl q2768 rfl rfl d_Mo_checkOwn_229 ?_
    refine lv_iload_n G.1 G.2.1 d_Mo_checkOwn_232 rfl (lv_at hl 3 rfl) ?_
    refine uiald G hP (kdp c_8 rfl) (typ c_8 rfl) h d_Mo_checkOwn_233 (fun x_9 h => ?_)
    refine lv_aload_n G.1 G.2.1 d_Mo_checkOwn_234 rfl (lv_at hl 1 rfl) ?_
    refine ugf (v := .int (sV σ a0 6)) G hP h_a0 iMo rfl 6 (by decide) rfl q3070 rfl rfl d_Mo_checkOwn_235 ?_
    have J_247 : ∀ (s_j247 : St) (z0j247 : Int32) (H : Heap) (locs : List Loc), wj_Mo_checkOwn_247 y Post a0 s_j247 z0j247 → va_P D CL (ws g ad y s_j247) H → va_D A (ws g ad y s_j247) → va_S A s.heap H locs → ∀ ls, lv_has ls 6 [] → W p l e ru_Mo_checkOwn s m args below meth c H locs 0 0 Q (F0 m 247 ls [.int z0j247]) := by
      intro s_j247 z0j247 H locs h hP hD hS ls hl
      unfold wj_Mo_checkOwn_247 at h
      exact hret _ _ _ _ _ _ _ ls h hP hD hS (Nat.le_refl _) (Nat.le_refl _) d_Mo_checkOwn_247
    refine lv_icmp_ne (tgt := 246) G.1 G.2.1 d_Mo_checkOwn_238 (by decide) (fun c238 => ?_) (fun c238 => ?_)
    · skip
      have h := h.1 c238
      refine lv_iconst (v := 0) G.1 G.2.1 d_Mo_checkOwn_246 (by decide) ?_
      exact J_247 σ 0 H locs h hP hD hS ls (lv_sub hl [] rfl)
    · skip
      have h := h.2 c238
      refine lv_bipush (v := 42) G.1 G.2.1 d_Mo_checkOwn_241 (by decide) ?_
      refine lv_goto (tgt := 247) G.1 G.2.1 d_Mo_checkOwn_243 (by decide) ?_
      exact J_247 σ 42 H locs h hP hD hS ls (lv_sub hl [] rfl)
  replace h := h.2 e19_50
  by_cases e19_51 : v1 = 51
  · skip
    have h := h.1 e19_51
    refine lv_tableIn (off := 229) (tgt := 248) G.1 G.2.1 d_Mo_checkOwn_19 (by rw [e19_51]; decide) (by rw [e19_51]; decide) (by rw [e19_51]; rfl) (by decide) ?_
    refine lv_aload_n G.1 G.2.1 d_Mo_checkOwn_248 rfl (lv_at hl 1 rfl) ?_
    obtain ⟨b_10, e_11, c_12, h⟩ := h
    refine ugf (v := .ref (ad b_10)) G hP h_a0 iMo rfl 45 (by decide) rfl q3109 rfl (by show va_rf ((sO σ a0 45).map ad) = _; rw [e_11]; rfl) d_Mo_checkOwn_249 ?_
    refine ugfN (v := .ref (yP y b_10 32)) G hP c_12 iMw rfl 32 (by decide) rfl q2768 rfl rfl d_Mo_checkOwn_252 ?_
    refine lv_iload_n G.1 G.2.1 d_Mo_checkOwn_255 rfl (lv_at hl 3 rfl) ?_
    refine uiald G hP (kdp c_12 rfl) (typ c_12 rfl) h d_Mo_checkOwn_256 (fun x_13 h => ?_)
    refine lv_aload_n G.1 G.2.1 d_Mo_checkOwn_257 rfl (lv_at hl 1 rfl) ?_
    refine ugf (v := .int (sV σ a0 6)) G hP h_a0 iMo rfl 6 (by decide) rfl q3070 rfl rfl d_Mo_checkOwn_258 ?_
    refine lv_icmp_eq (tgt := 287) G.1 G.2.1 d_Mo_checkOwn_261 (by decide) (fun c261 => ?_) (fun c261 => ?_)
    · skip
      have h := h.1 c261
      refine lv_aload_n G.1 G.2.1 d_Mo_checkOwn_287 rfl (lv_at hl 1 rfl) ?_
      refine ugf (v := .ref (yP y a0 71)) G hP h_a0 iMo rfl 71 (by decide) rfl q3135 rfl rfl d_Mo_checkOwn_288 ?_
      refine lv_aload_n G.1 G.2.1 d_Mo_checkOwn_291 rfl (lv_at hl 1 rfl) ?_
      refine W.eq (g2 := F0 m 292 ls [.ref (ad a0), .ref (yP y a0 71)]) rfl ?_
      refine ugf (v := .int (sV σ a0 72)) G hP h_a0 iMo rfl 72 (by decide) rfl q3136 rfl rfl d_Mo_checkOwn_292 ?_
      refine lv_aload_n G.1 G.2.1 d_Mo_checkOwn_295 rfl (lv_at hl 1 rfl) ?_
      refine ugf (v := .int (sV σ a0 79)) G hP h_a0 iMo rfl 79 (by decide) rfl q3143 rfl rfl d_Mo_checkOwn_296 ?_
      refine lv_isub G.1 G.2.1 d_Mo_checkOwn_299 ?_
      refine uiald G hP (kdp h_a0 rfl) (typ h_a0 rfl) h d_Mo_checkOwn_300 (fun x_14 h => ?_)
      refine lv_istore (lv' := [(4, .int x_14), (3, .int x_5), (0, .ref (ad a0)), (1, .int v1), (2, .int v2)]) G.1 G.2.1 d_Mo_checkOwn_301 hl (by decide) rfl (fun ls hl => ?_)
      refine lv_iload G.1 G.2.1 d_Mo_checkOwn_303 (lv_at hl 0 rfl) ?_
      have J_350 : ∀ (s_j350 : St) (x2j350 : Int32) (x4j350 : Int32) (z0j350 : Int32) (H : Heap) (locs : List Loc), wj_Mo_checkOwn_350 y Post a0 s_j350 x2j350 x4j350 z0j350 → va_P D CL (ws g ad y s_j350) H → va_D A (ws g ad y s_j350) → va_S A s.heap H locs → ∀ ls, lv_has ls 6 [(0, .ref (ad a0)), (2, .int x2j350), (4, .int x4j350)] → W p l e ru_Mo_checkOwn s m args below meth c H locs 0 0 Q (F0 m 350 ls [.int z0j350]) := by
        intro s_j350 x2j350 x4j350 z0j350 H locs h hP hD hS ls hl
        unfold wj_Mo_checkOwn_350 at h
        refine lv_istore (lv' := [(5, .int z0j350), (0, .ref (ad a0)), (2, .int x2j350), (4, .int x4j350)]) G.1 G.2.1 d_Mo_checkOwn_350 hl (by decide) rfl (fun ls hl => ?_)
        refine lv_iload G.1 G.2.1 d_Mo_checkOwn_352 (lv_at hl 0 rfl) ?_
        refine lv_iload G.1 G.2.1 d_Mo_checkOwn_354 (lv_at hl 3 rfl) ?_
        refine lv_iconst (v := 5) G.1 G.2.1 d_Mo_checkOwn_356 (by decide) ?_
        have J_409 : ∀ (s_j409 : St) (z0j409 : Int32) (z1j409 : Int32) (H : Heap) (locs : List Loc), wj_Mo_checkOwn_409 y Post a0 s_j409 z0j409 z1j409 → va_P D CL (ws g ad y s_j409) H → va_D A (ws g ad y s_j409) → va_S A s.heap H locs → ∀ ls, lv_has ls 6 [] → W p l e ru_Mo_checkOwn s m args below meth c H locs 0 0 Q (F0 m 409 ls [.int z1j409, .int z0j409]) := by
          intro s_j409 z0j409 z1j409 H locs h hP hD hS ls hl
          unfold wj_Mo_checkOwn_409 at h
          refine lv_ior G.1 G.2.1 d_Mo_checkOwn_409 ?_
          refine lv_istore (lv' := [(5, .int (z0j409 ||| z1j409))]) G.1 G.2.1 d_Mo_checkOwn_410 hl (by decide) rfl (fun ls hl => ?_)
          refine lv_iload G.1 G.2.1 d_Mo_checkOwn_412 (lv_at hl 0 rfl) ?_
          have J_423 : ∀ (s_j423 : St) (z0j423 : Int32) (H : Heap) (locs : List Loc), wj_Mo_checkOwn_423 y Post a0 s_j423 z0j423 → va_P D CL (ws g ad y s_j423) H → va_D A (ws g ad y s_j423) → va_S A s.heap H locs → ∀ ls, lv_has ls 6 [] → W p l e ru_Mo_checkOwn s m args below meth c H locs 0 0 Q (F0 m 423 ls [.int z0j423]) := by
            intro s_j423 z0j423 H locs h hP hD hS ls hl
            unfold wj_Mo_checkOwn_423 at h
            exact hret _ _ _ _ _ _ _ ls h hP hD hS (Nat.le_refl _) (Nat.le_refl _) d_Mo_checkOwn_423
          refine lv_if_eq (tgt := 421) G.1 G.2.1 d_Mo_checkOwn_414 (by decide) (fun c414 => ?_) (fun c414 => ?_)
          · skip
            have h := h.1 c414
            refine lv_bipush (v := 42) G.1 G.2.1 d_Mo_checkOwn_421 (by decide) ?_
            exact J_423 s_j409 42 H locs h hP hD hS ls (lv_sub hl [] rfl)
          · skip
            have h := h.2 c414
            refine lv_iconst (v := 0) G.1 G.2.1 d_Mo_checkOwn_417 (by decide) ?_
            refine lv_goto (tgt := 423) G.1 G.2.1 d_Mo_checkOwn_418 (by decide) ?_
            exact J_423 s_j409 0 H locs h hP hD hS ls (lv_sub hl [] rfl)
        have J_408 : ∀ (s_j408 : St) (z0j408 : Int32) (H : Heap) (locs : List Loc), wj_Mo_checkOwn_408 y Post a0 s_j408 z0j408 → va_P D CL (ws g ad y s_j408) H → va_D A (ws g ad y s_j408) → va_S A s.heap H locs → ∀ ls, lv_has ls 6 [] → W p l e ru_Mo_checkOwn s m args below meth c H locs 0 0 Q (F0 m 408 ls [.int z0j408]) := by
          intro s_j408 z0j408 H locs h hP hD hS ls hl
          unfold wj_Mo_checkOwn_408 at h
          refine lv_iconst (v := 0) G.1 G.2.1 d_Mo_checkOwn_408 (by decide) ?_
          exact J_409 s_j408 z0j408 0 H locs h hP hD hS ls (lv_sub hl [] rfl)
        refine lv_icmp_ne (tgt := 408) G.1 G.2.1 d_Mo_checkOwn_357 (by decide) (fun c357 => ?_) (fun c357 => ?_)
        · skip
          have h := h.1 c357
          exact J_408 s_j350 z0j350 H locs h hP hD hS ls (lv_sub hl [] rfl)
        · skip
          have h := h.2 c357
          refine lv_aload_n G.1 G.2.1 d_Mo_checkOwn_360 rfl (lv_at hl 1 rfl) ?_
          obtain ⟨b_15, e_16, c_17, h⟩ := h
          refine ugf (v := .ref (ad b_15)) G hP h_a0 iMo rfl 45 (by decide) rfl q3109 rfl (by show va_rf ((sO s_j350 a0 45).map ad) = _; rw [e_16]; rfl) d_Mo_checkOwn_361 ?_
          refine ugfN (v := .ref (yP y b_15 31)) G hP c_17 iMw rfl 31 (by decide) rfl q2766 rfl rfl d_Mo_checkOwn_364 ?_
          refine lv_iload_n G.1 G.2.1 d_Mo_checkOwn_367 rfl (lv_at hl 2 rfl) ?_
          refine uiald G hP (kdp c_17 rfl) (typ c_17 rfl) h d_Mo_checkOwn_368 (fun x_18 h => ?_)
          refine lv_aload_n G.1 G.2.1 d_Mo_checkOwn_369 rfl (lv_at hl 1 rfl) ?_
          refine W.eq (g2 := F0 m 370 ls [.ref (ad a0), .int x_18, .int z0j350]) rfl ?_
          obtain ⟨b_19, e_20, c_21, h⟩ := h
          refine ugf (v := .ref (ad b_19)) G hP h_a0 iMo rfl 45 (by decide) rfl q3109 rfl (by show va_rf ((sO s_j350 a0 45).map ad) = _; rw [e_20]; rfl) d_Mo_checkOwn_370 ?_
          refine ugfN (v := .ref (yP y b_19 3)) G hP c_21 iMw rfl 3 (by decide) rfl q2710 rfl rfl d_Mo_checkOwn_373 ?_
          refine lv_aload_n G.1 G.2.1 d_Mo_checkOwn_376 rfl (lv_at hl 1 rfl) ?_
          refine ugf (v := .int (sV s_j350 a0 76)) G hP h_a0 iMo rfl 76 (by decide) rfl q3140 rfl rfl d_Mo_checkOwn_377 ?_
          refine uiald G hP (kdp c_21 rfl) (typ c_21 rfl) h d_Mo_checkOwn_380 (fun x_22 h => ?_)
          have J_404 : ∀ (s_j404 : St) (z0j404 : Int32) (H : Heap) (locs : List Loc), wj_Mo_checkOwn_404 y Post a0 s_j404 z0j404 → va_P D CL (ws g ad y s_j404) H → va_D A (ws g ad y s_j404) → va_S A s.heap H locs → ∀ ls, lv_has ls 6 [] → W p l e ru_Mo_checkOwn s m args below meth c H locs 0 0 Q (F0 m 404 ls [.int z0j404]) := by
            intro s_j404 z0j404 H locs h hP hD hS ls hl
            unfold wj_Mo_checkOwn_404 at h
            refine lv_iconst (v := 1) G.1 G.2.1 d_Mo_checkOwn_404 (by decide) ?_
            refine lv_goto (tgt := 409) G.1 G.2.1 d_Mo_checkOwn_405 (by decide) ?_
            exact J_409 s_j404 z0j404 1 H locs h hP hD hS ls (lv_sub hl [] rfl)
          refine lv_icmp_eq (tgt := 404) G.1 G.2.1 d_Mo_checkOwn_381 (by decide) (fun c381 => ?_) (fun c381 => ?_)
          · skip
            have h := h.1 c381
            exact J_404 s_j350 z0j350 H locs h hP hD hS ls (lv_sub hl [] rfl)
          · skip
            have h := h.2 c381
            refine lv_aload_n G.1 G.2.1 d_Mo_checkOwn_384 rfl (lv_at hl 1 rfl) ?_
            obtain ⟨b_23, e_24, c_25, h⟩ := h
            refine ugf (v := .ref (ad b_23)) G hP h_a0 iMo rfl 45 (by decide) rfl q3109 rfl (by show va_rf ((sO s_j350 a0 45).map ad) = _; rw [e_24]; rfl) d_Mo_checkOwn_385 ?_
            refine ugfN (v := .ref (yP y b_23 31)) G hP c_25 iMw rfl 31 (by decide) rfl q2766 rfl rfl d_Mo_checkOwn_388 ?_
            refine lv_iload_n G.1 G.2.1 d_Mo_checkOwn_391 rfl (lv_at hl 2 rfl) ?_
            refine uiald G hP (kdp c_25 rfl) (typ c_25 rfl) h d_Mo_checkOwn_392 (fun x_26 h => ?_)
            refine lv_aload_n G.1 G.2.1 d_Mo_checkOwn_393 rfl (lv_at hl 1 rfl) ?_
            refine W.eq (g2 := F0 m 394 ls [.ref (ad a0), .int x_26, .int z0j350]) rfl ?_
            refine lv_aload_n G.1 G.2.1 d_Mo_checkOwn_394 rfl (lv_at hl 1 rfl) ?_
            refine ugf (v := .int (sV s_j350 a0 76)) G hP h_a0 iMo rfl 76 (by decide) rfl q3140 rfl rfl d_Mo_checkOwn_395 ?_
            refine ucVi (As := [.int (sV s_j350 a0 76)]) (rest := [.int x_26, .int z0j350]) G hP hD hS (cu_Mo_parentName l D g ad y _ s_j350 a0 (sV s_j350 a0 76) H.size h_a0 h) w9_Mo_parentName q3737 ⟨Nat.le_of_ble_eq_true rfl, Nat.le_of_ble_eq_true rfl⟩ rfl rfl h_a0 (q := (RMo, TMo, 131)) rfl rfl hl.1 rfl (Nat.le_of_ble_eq_true rfl) rfl ⟨Nat.le_refl _, Nat.le_refl _⟩ d_Mo_checkOwn_398 (fun r_27 s_28 H locs h hP hD hS => ?_)
            refine lv_icmp_ne (tgt := 408) G.1 G.2.1 d_Mo_checkOwn_401 (by decide) (fun c401 => ?_) (fun c401 => ?_)
            · skip
              have h := h.1 c401
              exact J_408 s_28 z0j350 H locs h hP hD hS ls (lv_sub hl [] rfl)
            · skip
              have h := h.2 c401
              exact J_404 s_28 z0j350 H locs h hP hD hS ls (lv_sub hl [] rfl)
      have J_349 : ∀ (s_j349 : St) (x2j349 : Int32) (x4j349 : Int32) (H : Heap) (locs : List Loc), wj_Mo_checkOwn_349 y Post a0 s_j349 x2j349 x4j349 → va_P D CL (ws g ad y s_j349) H → va_D A (ws g ad y s_j349) → va_S A s.heap H locs → ∀ ls, lv_has ls 6 [(0, .ref (ad a0)), (2, .int x2j349), (4, .int x4j349)] → W p l e ru_Mo_checkOwn s m args below meth c H locs 0 0 Q (F0 m 349 ls []) := by
        intro s_j349 x2j349 x4j349 H locs h hP hD hS ls hl
        unfold wj_Mo_checkOwn_349 at h
        refine lv_iconst (v := 0) G.1 G.2.1 d_Mo_checkOwn_349 (by decide) ?_
        exact J_350 s_j349 x2j349 x4j349 0 H locs h hP hD hS ls (lv_sub hl [0, 1, 2] rfl)
      refine lv_if_ge (tgt := 349) G.1 G.2.1 d_Mo_checkOwn_305 (by decide) (fun c305 => ?_) (fun c305 => ?_)
      · skip
        have h := h.1 c305
        exact J_349 σ v2 x_14 H locs h hP hD hS ls (lv_sub hl [2, 4, 0] rfl)
      · skip
        have h := h.2 c305
        refine lv_aload_n G.1 G.2.1 d_Mo_checkOwn_308 rfl (lv_at hl 2 rfl) ?_
        obtain ⟨b_29, e_30, c_31, h⟩ := h
        refine ugf (v := .ref (ad b_29)) G hP h_a0 iMo rfl 45 (by decide) rfl q3109 rfl (by show va_rf ((sO σ a0 45).map ad) = _; rw [e_30]; rfl) d_Mo_checkOwn_309 ?_
        refine ugfN (v := .ref (yP y b_29 31)) G hP c_31 iMw rfl 31 (by decide) rfl q2766 rfl rfl d_Mo_checkOwn_312 ?_
        refine lv_aload_n G.1 G.2.1 d_Mo_checkOwn_315 rfl (lv_at hl 2 rfl) ?_
        refine W.eq (g2 := F0 m 316 ls [.ref (ad a0), .ref (yP y b_29 31)]) rfl ?_
        obtain ⟨b_32, e_33, c_34, h⟩ := h
        refine ugf (v := .ref (ad b_32)) G hP h_a0 iMo rfl 45 (by decide) rfl q3109 rfl (by show va_rf ((sO σ a0 45).map ad) = _; rw [e_33]; rfl) d_Mo_checkOwn_316 ?_
        refine ugfN (v := .ref (yP y b_32 23)) G hP c_34 iMw rfl 23 (by decide) rfl q2750 rfl rfl d_Mo_checkOwn_319 ?_
        refine lv_aload_n G.1 G.2.1 d_Mo_checkOwn_322 rfl (lv_at hl 2 rfl) ?_
        refine ugf (v := .int (sV σ a0 75)) G hP h_a0 iMo rfl 75 (by decide) rfl q3139 rfl rfl d_Mo_checkOwn_323 ?_
        refine uiald G hP (kdp c_34 rfl) (typ c_34 rfl) h d_Mo_checkOwn_326 (fun x_35 h => ?_)
        refine lv_iconst (v := 1) G.1 G.2.1 d_Mo_checkOwn_327 (by decide) ?_
        refine lv_isub G.1 G.2.1 d_Mo_checkOwn_328 ?_
        refine lv_iload G.1 G.2.1 d_Mo_checkOwn_329 (lv_at hl 0 rfl) ?_
        refine lv_isub G.1 G.2.1 d_Mo_checkOwn_331 ?_
        refine uiald G hP (kdp c_31 rfl) (typ c_31 rfl) h d_Mo_checkOwn_332 (fun x_36 h => ?_)
        refine lv_aload_n G.1 G.2.1 d_Mo_checkOwn_333 rfl (lv_at hl 2 rfl) ?_
        obtain ⟨b_37, e_38, c_39, h⟩ := h
        refine ugf (v := .ref (ad b_37)) G hP h_a0 iMo rfl 45 (by decide) rfl q3109 rfl (by show va_rf ((sO σ a0 45).map ad) = _; rw [e_38]; rfl) d_Mo_checkOwn_334 ?_
        refine W.eq (g2 := F0 m 337 ls [.ref (ad b_37), .int x_36]) rfl ?_
        refine ugfN (v := .ref (yP y b_37 31)) G hP c_39 iMw rfl 31 (by decide) rfl q2766 rfl rfl d_Mo_checkOwn_337 ?_
        refine lv_iload_n G.1 G.2.1 d_Mo_checkOwn_340 rfl (lv_at hl 4 rfl) ?_
        refine uiald G hP (kdp c_39 rfl) (typ c_39 rfl) h d_Mo_checkOwn_341 (fun x_40 h => ?_)
        refine lv_icmp_ne (tgt := 349) G.1 G.2.1 d_Mo_checkOwn_342 (by decide) (fun c342 => ?_) (fun c342 => ?_)
        · skip
          have h := h.1 c342
          exact J_349 σ v2 x_14 H locs h hP hD hS ls (lv_sub hl [2, 4, 0] rfl)
        · skip
          have h := h.2 c342
          refine lv_iconst (v := 1) G.1 G.2.1 d_Mo_checkOwn_345 (by decide) ?_
          refine lv_goto (tgt := 350) G.1 G.2.1 d_Mo_checkOwn_346 (by decide) ?_
          exact J_350 σ v2 x_14 1 H locs h hP hD hS ls (lv_sub hl [2, 4, 0] rfl)
    · skip
      have h := h.2 c261
      refine lv_aload_n G.1 G.2.1 d_Mo_checkOwn_264 rfl (lv_at hl 1 rfl) ?_
      refine lv_aload_n G.1 G.2.1 d_Mo_checkOwn_265 rfl (lv_at hl 1 rfl) ?_
      obtain ⟨b_41, e_42, c_43, h⟩ := h
      refine ugf (v := .ref (ad b_41)) G hP h_a0 iMo rfl 45 (by decide) rfl q3109 rfl (by show va_rf ((sO σ a0 45).map ad) = _; rw [e_42]; rfl) d_Mo_checkOwn_266 ?_
      refine W.eq (g2 := F0 m 269 ls [.ref (ad b_41), .ref (ad a0)]) rfl ?_
      refine ugfN (v := .ref (yP y b_41 31)) G hP c_43 iMw rfl 31 (by decide) rfl q2766 rfl rfl d_Mo_checkOwn_269 ?_
      refine lv_iload_n G.1 G.2.1 d_Mo_checkOwn_272 rfl (lv_at hl 3 rfl) ?_
      refine uiald G hP (kdp c_43 rfl) (typ c_43 rfl) h d_Mo_checkOwn_273 (fun x_44 h => ?_)
      refine ucVi (As := [.int x_44]) (rest := []) G hP hD hS (cu_Mo_isNear l D g ad y _ σ a0 x_44 H.size h_a0 h) w9_Mo_isNear q3771 ⟨Nat.le_of_ble_eq_true rfl, Nat.le_of_ble_eq_true rfl⟩ rfl rfl h_a0 (q := (RMo, TMo, 131)) rfl rfl hl.1 rfl (Nat.le_of_ble_eq_true rfl) rfl ⟨Nat.le_refl _, Nat.le_refl _⟩ d_Mo_checkOwn_274 (fun r_45 s_46 H locs h hP hD hS => ?_)
      have J_286 : ∀ (s_j286 : St) (z0j286 : Int32) (H : Heap) (locs : List Loc), wj_Mo_checkOwn_286 y Post a0 s_j286 z0j286 → va_P D CL (ws g ad y s_j286) H → va_D A (ws g ad y s_j286) → va_S A s.heap H locs → ∀ ls, lv_has ls 6 [] → W p l e ru_Mo_checkOwn s m args below meth c H locs 0 0 Q (F0 m 286 ls [.int z0j286]) := by
        intro s_j286 z0j286 H locs h hP hD hS ls hl
        unfold wj_Mo_checkOwn_286 at h
        exact hret _ _ _ _ _ _ _ ls h hP hD hS (Nat.le_refl _) (Nat.le_refl _) d_Mo_checkOwn_286
      refine lv_if_eq (tgt := 284) G.1 G.2.1 d_Mo_checkOwn_277 (by decide) (fun c277 => ?_) (fun c277 => ?_)
      · skip
        have h := h.1 c277
        refine lv_bipush (v := 42) G.1 G.2.1 d_Mo_checkOwn_284 (by decide) ?_
        exact J_286 s_46 42 H locs h hP hD hS ls (lv_sub hl [] rfl)
      · skip
        have h := h.2 c277
        refine lv_iconst (v := 0) G.1 G.2.1 d_Mo_checkOwn_280 (by decide) ?_
        refine lv_goto (tgt := 286) G.1 G.2.1 d_Mo_checkOwn_281 (by decide) ?_
        exact J_286 s_46 0 H locs h hP hD hS ls (lv_sub hl [] rfl)
  replace h := h.2 e19_51
  by_cases e19_52 : v1 = 52
  · skip
    have h := h.1 e19_52
    refine lv_tableIn (off := 206) (tgt := 225) G.1 G.2.1 d_Mo_checkOwn_19 (by rw [e19_52]; decide) (by rw [e19_52]; decide) (by rw [e19_52]; rfl) (by decide) ?_
    refine lv_aload_n G.1 G.2.1 d_Mo_checkOwn_225 rfl (lv_at hl 1 rfl) ?_
    obtain ⟨b_47, e_48, c_49, h⟩ := h
    refine ugf (v := .ref (ad b_47)) G hP h_a0 iMo rfl 45 (by decide) rfl q3109 rfl (by show va_rf ((sO σ a0 45).map ad) = _; rw [e_48]; rfl) d_Mo_checkOwn_226 ?_
    refine ugfN (v := .ref (yP y b_47 32)) G hP c_49 iMw rfl 32 (by decide) rfl q2768 rfl rfl d_Mo_checkOwn_229 ?_
    refine lv_iload_n G.1 G.2.1 d_Mo_checkOwn_232 rfl (lv_at hl 3 rfl) ?_
    refine uiald G hP (kdp c_49 rfl) (typ c_49 rfl) h d_Mo_checkOwn_233 (fun x_50 h => ?_)
    refine lv_aload_n G.1 G.2.1 d_Mo_checkOwn_234 rfl (lv_at hl 1 rfl) ?_
    refine ugf (v := .int (sV σ a0 6)) G hP h_a0 iMo rfl 6 (by decide) rfl q3070 rfl rfl d_Mo_checkOwn_235 ?_
    have J_247 : ∀ (s_j247 : St) (z0j247 : Int32) (H : Heap) (locs : List Loc), wj_Mo_checkOwn_247 y Post a0 s_j247 z0j247 → va_P D CL (ws g ad y s_j247) H → va_D A (ws g ad y s_j247) → va_S A s.heap H locs → ∀ ls, lv_has ls 6 [] → W p l e ru_Mo_checkOwn s m args below meth c H locs 0 0 Q (F0 m 247 ls [.int z0j247]) := by
      intro s_j247 z0j247 H locs h hP hD hS ls hl
      unfold wj_Mo_checkOwn_247 at h
      exact hret _ _ _ _ _ _ _ ls h hP hD hS (Nat.le_refl _) (Nat.le_refl _) d_Mo_checkOwn_247
    refine lv_icmp_ne (tgt := 246) G.1 G.2.1 d_Mo_checkOwn_238 (by decide) (fun c238 => ?_) (fun c238 => ?_)
    · skip
      have h := h.1 c238
      refine lv_iconst (v := 0) G.1 G.2.1 d_Mo_checkOwn_246 (by decide) ?_
      exact J_247 σ 0 H locs h hP hD hS ls (lv_sub hl [] rfl)
    · skip
      have h := h.2 c238
      refine lv_bipush (v := 42) G.1 G.2.1 d_Mo_checkOwn_241 (by decide) ?_
      refine lv_goto (tgt := 247) G.1 G.2.1 d_Mo_checkOwn_243 (by decide) ?_
      exact J_247 σ 42 H locs h hP hD hS ls (lv_sub hl [] rfl)
  replace h := h.2 e19_52
  by_cases e19_53 : v1 = 53
  · skip
    have h := h.1 e19_53
    refine lv_tableIn (off := 206) (tgt := 225) G.1 G.2.1 d_Mo_checkOwn_19 (by rw [e19_53]; decide) (by rw [e19_53]; decide) (by rw [e19_53]; rfl) (by decide) ?_
    refine lv_aload_n G.1 G.2.1 d_Mo_checkOwn_225 rfl (lv_at hl 1 rfl) ?_
    obtain ⟨b_51, e_52, c_53, h⟩ := h
    refine ugf (v := .ref (ad b_51)) G hP h_a0 iMo rfl 45 (by decide) rfl q3109 rfl (by show va_rf ((sO σ a0 45).map ad) = _; rw [e_52]; rfl) d_Mo_checkOwn_226 ?_
    refine ugfN (v := .ref (yP y b_51 32)) G hP c_53 iMw rfl 32 (by decide) rfl q2768 rfl rfl d_Mo_checkOwn_229 ?_
    refine lv_iload_n G.1 G.2.1 d_Mo_checkOwn_232 rfl (lv_at hl 3 rfl) ?_
    refine uiald G hP (kdp c_53 rfl) (typ c_53 rfl) h d_Mo_checkOwn_233 (fun x_54 h => ?_)
    refine lv_aload_n G.1 G.2.1 d_Mo_checkOwn_234 rfl (lv_at hl 1 rfl) ?_
    refine ugf (v := .int (sV σ a0 6)) G hP h_a0 iMo rfl 6 (by decide) rfl q3070 rfl rfl d_Mo_checkOwn_235 ?_
    have J_247 : ∀ (s_j247 : St) (z0j247 : Int32) (H : Heap) (locs : List Loc), wj_Mo_checkOwn_247 y Post a0 s_j247 z0j247 → va_P D CL (ws g ad y s_j247) H → va_D A (ws g ad y s_j247) → va_S A s.heap H locs → ∀ ls, lv_has ls 6 [] → W p l e ru_Mo_checkOwn s m args below meth c H locs 0 0 Q (F0 m 247 ls [.int z0j247]) := by
      intro s_j247 z0j247 H locs h hP hD hS ls hl
      unfold wj_Mo_checkOwn_247 at h
      exact hret _ _ _ _ _ _ _ ls h hP hD hS (Nat.le_refl _) (Nat.le_refl _) d_Mo_checkOwn_247
    refine lv_icmp_ne (tgt := 246) G.1 G.2.1 d_Mo_checkOwn_238 (by decide) (fun c238 => ?_) (fun c238 => ?_)
    · skip
      have h := h.1 c238
      refine lv_iconst (v := 0) G.1 G.2.1 d_Mo_checkOwn_246 (by decide) ?_
      exact J_247 σ 0 H locs h hP hD hS ls (lv_sub hl [] rfl)
    · skip
      have h := h.2 c238
      refine lv_bipush (v := 42) G.1 G.2.1 d_Mo_checkOwn_241 (by decide) ?_
      refine lv_goto (tgt := 247) G.1 G.2.1 d_Mo_checkOwn_243 (by decide) ?_
      exact J_247 σ 42 H locs h hP hD hS ls (lv_sub hl [] rfl)
  replace h := h.2 e19_53
  by_cases e19_54 : v1 = 54
  · skip
    have h := h.1 e19_54
    refine lv_tableIn (off := 405) (tgt := 424) G.1 G.2.1 d_Mo_checkOwn_19 (by rw [e19_54]; decide) (by rw [e19_54]; decide) (by rw [e19_54]; rfl) (by decide) ?_
    refine lv_iconst (v := 0) G.1 G.2.1 d_Mo_checkOwn_424 (by decide) ?_
    exact hret _ _ _ _ _ _ _ ls h hP hD hS (Nat.le_refl _) (Nat.le_refl _) d_Mo_checkOwn_425
  replace h := h.2 e19_54
  by_cases e19_55 : v1 = 55
  · skip
    have h := h.1 e19_55
    refine lv_tableIn (off := 405) (tgt := 424) G.1 G.2.1 d_Mo_checkOwn_19 (by rw [e19_55]; decide) (by rw [e19_55]; decide) (by rw [e19_55]; rfl) (by decide) ?_
    refine lv_iconst (v := 0) G.1 G.2.1 d_Mo_checkOwn_424 (by decide) ?_
    exact hret _ _ _ _ _ _ _ ls h hP hD hS (Nat.le_refl _) (Nat.le_refl _) d_Mo_checkOwn_425
  replace h := h.2 e19_55
  by_cases e19_56 : v1 = 56
  · skip
    have h := h.1 e19_56
    refine lv_tableIn (off := 405) (tgt := 424) G.1 G.2.1 d_Mo_checkOwn_19 (by rw [e19_56]; decide) (by rw [e19_56]; decide) (by rw [e19_56]; rfl) (by decide) ?_
    refine lv_iconst (v := 0) G.1 G.2.1 d_Mo_checkOwn_424 (by decide) ?_
    exact hret _ _ _ _ _ _ _ ls h hP hD hS (Nat.le_refl _) (Nat.le_refl _) d_Mo_checkOwn_425
  replace h := h.2 e19_56
  by_cases e19_57 : v1 = 57
  · skip
    have h := h.1 e19_57
    refine lv_tableIn (off := 53) (tgt := 72) G.1 G.2.1 d_Mo_checkOwn_19 (by rw [e19_57]; decide) (by rw [e19_57]; decide) (by rw [e19_57]; rfl) (by decide) ?_
    refine lv_iconst (v := 0) G.1 G.2.1 d_Mo_checkOwn_72 (by decide) ?_
    refine lv_istore (lv' := [(4, .int 0), (3, .int x_5), (0, .ref (ad a0)), (1, .int v1), (2, .int v2)]) G.1 G.2.1 d_Mo_checkOwn_73 hl (by decide) rfl (fun ls hl => ?_)
    refine lv_iconst (v := 0) G.1 G.2.1 d_Mo_checkOwn_75 (by decide) ?_
    refine lv_istore (lv' := [(5, .int 0), (4, .int 0), (3, .int x_5), (0, .ref (ad a0)), (1, .int v1), (2, .int v2)]) G.1 G.2.1 d_Mo_checkOwn_76 hl (by decide) rfl (fun ls hl => ?_)
    unfold wl_Mo_checkOwn_78 at h
    obtain ⟨I_78, μ_78, hI_78, hB_78⟩ := h
    have L_78 : ∀ (n_78 : Nat) (s_h78 : St) (x3h78 : Int32) (x4h78 : Int32) (x5h78 : Int32), μ_78 s_h78 x3h78 x4h78 x5h78 < n_78 → I_78 s_h78 x3h78 x4h78 x5h78 → ∀ (H : Heap) (locs : List Loc), va_P D CL (ws g ad y s_h78) H → va_D A (ws g ad y s_h78) → va_S A s.heap H locs → ∀ ls, lv_has ls 6 [(0, .ref (ad a0)), (3, .int x3h78), (4, .int x4h78), (5, .int x5h78)] → W p l e ru_Mo_checkOwn s m args below meth c H locs 0 0 Q (F0 m 78 ls []) := by
      intro n_78
      induction n_78 with
      | zero => intro s_h78 x3h78 x4h78 x5h78 hμ; exact absurd hμ (Nat.not_lt_zero _)
      | succ n_78 ih_78 =>
        intro s_h78 x3h78 x4h78 x5h78 hμ_78 hJ H locs hP hD hS ls hl
        obtain ⟨K_78, hK_78, h⟩ : ∃ K : St → Int32 → Int32 → Int32 → Prop, (∀ z (t0 : Int32) (t1 : Int32) (t2 : Int32), K z t0 t1 t2 → I_78 z t0 t1 t2 ∧ μ_78 z t0 t1 t2 < μ_78 s_h78 x3h78 x4h78 x5h78) ∧ wb_Mo_checkOwn_78 y Post K a0 s_h78 x3h78 x4h78 x5h78 := ⟨_, fun _ _ _ _ h => h, hB_78 s_h78 x3h78 x4h78 x5h78 hJ⟩
        unfold wb_Mo_checkOwn_78 at h
        refine lv_iload G.1 G.2.1 d_Mo_checkOwn_78 (lv_at hl 3 rfl) ?_
        refine lv_aload_n G.1 G.2.1 d_Mo_checkOwn_80 rfl (lv_at hl 0 rfl) ?_
        obtain ⟨b_55, e_56, c_57, h⟩ := h
        refine ugf (v := .ref (ad b_55)) G hP h_a0 iMo rfl 45 (by decide) rfl q3109 rfl (by show va_rf ((sO s_h78 a0 45).map ad) = _; rw [e_56]; rfl) d_Mo_checkOwn_81 ?_
        refine ugfN (v := .ref (yP y b_55 22)) G hP c_57 iMw rfl 22 (by decide) rfl q2748 rfl rfl d_Mo_checkOwn_84 ?_
        refine lv_aload_n G.1 G.2.1 d_Mo_checkOwn_87 rfl (lv_at hl 0 rfl) ?_
        refine ugf (v := .int (sV s_h78 a0 75)) G hP h_a0 iMo rfl 75 (by decide) rfl q3139 rfl rfl d_Mo_checkOwn_88 ?_
        refine uiald G hP (kdp c_57 rfl) (typ c_57 rfl) h d_Mo_checkOwn_91 (fun x_58 h => ?_)
        refine lv_icmp_ge (tgt := 122) G.1 G.2.1 d_Mo_checkOwn_92 (by decide) (fun c92 => ?_) (fun c92 => ?_)
        · skip
          have h := h.1 c92
          refine lv_iconst (v := 0) G.1 G.2.1 d_Mo_checkOwn_122 (by decide) ?_
          refine lv_istore (lv' := [(5, .int 0), (0, .ref (ad a0)), (3, .int x3h78), (4, .int x4h78)]) G.1 G.2.1 d_Mo_checkOwn_123 hl (by decide) rfl (fun ls hl => ?_)
          unfold wl_Mo_checkOwn_125 at h
          obtain ⟨I_125, μ_125, hI_125, hB_125⟩ := h
          have L_125 : ∀ (n_125 : Nat) (s_h125 : St) (x3h125 : Int32) (x4h125 : Int32) (x5h125 : Int32), μ_125 s_h125 x3h125 x4h125 x5h125 < n_125 → I_125 s_h125 x3h125 x4h125 x5h125 → ∀ (H : Heap) (locs : List Loc), va_P D CL (ws g ad y s_h125) H → va_D A (ws g ad y s_h125) → va_S A s.heap H locs → ∀ ls, lv_has ls 6 [(0, .ref (ad a0)), (3, .int x3h125), (4, .int x4h125), (5, .int x5h125)] → W p l e ru_Mo_checkOwn s m args below meth c H locs 0 0 Q (F0 m 125 ls []) := by
            intro n_125
            induction n_125 with
            | zero => intro s_h125 x3h125 x4h125 x5h125 hμ; exact absurd hμ (Nat.not_lt_zero _)
            | succ n_125 ih_125 =>
              intro s_h125 x3h125 x4h125 x5h125 hμ_125 hJ H locs hP hD hS ls hl
              obtain ⟨K_125, hK_125, h⟩ : ∃ K : St → Int32 → Int32 → Int32 → Prop, (∀ z (t0 : Int32) (t1 : Int32) (t2 : Int32), K z t0 t1 t2 → I_125 z t0 t1 t2 ∧ μ_125 z t0 t1 t2 < μ_125 s_h125 x3h125 x4h125 x5h125) ∧ wb_Mo_checkOwn_125 y Post K a0 s_h125 x3h125 x4h125 x5h125 := ⟨_, fun _ _ _ _ h => h, hB_125 s_h125 x3h125 x4h125 x5h125 hJ⟩
              unfold wb_Mo_checkOwn_125 at h
              refine lv_iload G.1 G.2.1 d_Mo_checkOwn_125 (lv_at hl 3 rfl) ?_
              refine lv_aload_n G.1 G.2.1 d_Mo_checkOwn_127 rfl (lv_at hl 0 rfl) ?_
              refine ugf (v := .int (sV s_h125 a0 72)) G hP h_a0 iMo rfl 72 (by decide) rfl q3136 rfl rfl d_Mo_checkOwn_128 ?_
              refine lv_icmp_ge (tgt := 161) G.1 G.2.1 d_Mo_checkOwn_131 (by decide) (fun c131 => ?_) (fun c131 => ?_)
              · skip
                have h := h.1 c131
                refine lv_iload G.1 G.2.1 d_Mo_checkOwn_161 (lv_at hl 2 rfl) ?_
                have J_200 : ∀ (s_j200 : St) (z0j200 : Int32) (H : Heap) (locs : List Loc), wj_Mo_checkOwn_200 y Post a0 s_j200 z0j200 → va_P D CL (ws g ad y s_j200) H → va_D A (ws g ad y s_j200) → va_S A s.heap H locs → ∀ ls, lv_has ls 6 [] → W p l e ru_Mo_checkOwn s m args below meth c H locs 0 0 Q (F0 m 200 ls [.int z0j200]) := by
                  intro s_j200 z0j200 H locs h hP hD hS ls hl
                  unfold wj_Mo_checkOwn_200 at h
                  exact hret _ _ _ _ _ _ _ ls h hP hD hS (Nat.le_refl _) (Nat.le_refl _) d_Mo_checkOwn_200
                have J_190 : ∀ (s_j190 : St) (x3j190 : Int32) (H : Heap) (locs : List Loc), wj_Mo_checkOwn_190 y Post a0 s_j190 x3j190 → va_P D CL (ws g ad y s_j190) H → va_D A (ws g ad y s_j190) → va_S A s.heap H locs → ∀ ls, lv_has ls 6 [(3, .int x3j190)] → W p l e ru_Mo_checkOwn s m args below meth c H locs 0 0 Q (F0 m 190 ls []) := by
                  intro s_j190 x3j190 H locs h hP hD hS ls hl
                  unfold wj_Mo_checkOwn_190 at h
                  refine lv_iload_n G.1 G.2.1 d_Mo_checkOwn_190 rfl (lv_at hl 0 rfl) ?_
                  refine lv_if_eq (tgt := 199) G.1 G.2.1 d_Mo_checkOwn_191 (by decide) (fun c191 => ?_) (fun c191 => ?_)
                  · skip
                    have h := h.1 c191
                    refine lv_iconst (v := 0) G.1 G.2.1 d_Mo_checkOwn_199 (by decide) ?_
                    exact J_200 s_j190 0 H locs h hP hD hS ls (lv_sub hl [] rfl)
                  · skip
                    have h := h.2 c191
                    refine lv_bipush (v := 41) G.1 G.2.1 d_Mo_checkOwn_194 (by decide) ?_
                    refine lv_goto (tgt := 200) G.1 G.2.1 d_Mo_checkOwn_196 (by decide) ?_
                    exact J_200 s_j190 41 H locs h hP hD hS ls (lv_sub hl [] rfl)
                refine lv_if_eq (tgt := 190) G.1 G.2.1 d_Mo_checkOwn_163 (by decide) (fun c163 => ?_) (fun c163 => ?_)
                · skip
                  have h := h.1 c163
                  exact J_190 s_h125 x3h125 H locs h hP hD hS ls (lv_sub hl [1] rfl)
                · skip
                  have h := h.2 c163
                  refine lv_aload_n G.1 G.2.1 d_Mo_checkOwn_166 rfl (lv_at hl 0 rfl) ?_
                  obtain ⟨b_59, e_60, c_61, h⟩ := h
                  refine ugf (v := .ref (ad b_59)) G hP h_a0 iMo rfl 45 (by decide) rfl q3109 rfl (by show va_rf ((sO s_h125 a0 45).map ad) = _; rw [e_60]; rfl) d_Mo_checkOwn_167 ?_
                  refine ugfN (v := .ref (yP y b_59 18)) G hP c_61 iMw rfl 18 (by decide) rfl q2740 rfl rfl d_Mo_checkOwn_170 ?_
                  refine lv_aload_n G.1 G.2.1 d_Mo_checkOwn_173 rfl (lv_at hl 0 rfl) ?_
                  refine ugf (v := .int (sV s_h125 a0 75)) G hP h_a0 iMo rfl 75 (by decide) rfl q3139 rfl rfl d_Mo_checkOwn_174 ?_
                  refine W.eq (g2 := F0 m 177 ls [.int (sV s_h125 a0 75), .ref (yP y b_59 18)]) rfl ?_
                  refine uiald G hP (kdp c_61 rfl) (typ c_61 rfl) h d_Mo_checkOwn_177 (fun x_62 h => ?_)
                  refine lv_aload_n G.1 G.2.1 d_Mo_checkOwn_178 rfl (lv_at hl 0 rfl) ?_
                  refine ugf (v := .int (sV s_h125 a0 6)) G hP h_a0 iMo rfl 6 (by decide) rfl q3070 rfl rfl d_Mo_checkOwn_179 ?_
                  refine lv_icmp_ne (tgt := 190) G.1 G.2.1 d_Mo_checkOwn_182 (by decide) (fun c182 => ?_) (fun c182 => ?_)
                  · skip
                    have h := h.1 c182
                    exact J_190 s_h125 x3h125 H locs h hP hD hS ls (lv_sub hl [1] rfl)
                  · skip
                    have h := h.2 c182
                    refine lv_bipush (v := 40) G.1 G.2.1 d_Mo_checkOwn_185 (by decide) ?_
                    refine lv_goto (tgt := 200) G.1 G.2.1 d_Mo_checkOwn_187 (by decide) ?_
                    exact J_200 s_h125 40 H locs h hP hD hS ls (lv_sub hl [] rfl)
              · skip
                have h := h.2 c131
                refine lv_iload G.1 G.2.1 d_Mo_checkOwn_134 (lv_at hl 2 rfl) ?_
                refine lv_aload_n G.1 G.2.1 d_Mo_checkOwn_136 rfl (lv_at hl 0 rfl) ?_
                refine ugf (v := .ref (yP y a0 71)) G hP h_a0 iMo rfl 71 (by decide) rfl q3135 rfl rfl d_Mo_checkOwn_137 ?_
                refine lv_iload G.1 G.2.1 d_Mo_checkOwn_140 (lv_at hl 3 rfl) ?_
                refine uiald G hP (kdp h_a0 rfl) (typ h_a0 rfl) h d_Mo_checkOwn_142 (fun x_63 h => ?_)
                refine lv_iconst (v := 5) G.1 G.2.1 d_Mo_checkOwn_143 (by decide) ?_
                have J_152 : ∀ (s_j152 : St) (x3j152 : Int32) (x5j152 : Int32) (z0j152 : Int32) (z1j152 : Int32) (H : Heap) (locs : List Loc), wj_Mo_checkOwn_152 y Post K_125 a0 s_j152 x3j152 x5j152 z0j152 z1j152 → va_P D CL (ws g ad y s_j152) H → va_D A (ws g ad y s_j152) → va_S A s.heap H locs → ∀ ls, lv_has ls 6 [(0, .ref (ad a0)), (3, .int x3j152), (5, .int x5j152)] → W p l e ru_Mo_checkOwn s m args below meth c H locs 0 0 Q (F0 m 152 ls [.int z1j152, .int z0j152]) := by
                  intro s_j152 x3j152 x5j152 z0j152 z1j152 H locs h hP hD hS ls hl
                  unfold wj_Mo_checkOwn_152 at h
                  refine lv_ior G.1 G.2.1 d_Mo_checkOwn_152 ?_
                  refine lv_istore (lv' := [(4, .int (z0j152 ||| z1j152)), (0, .ref (ad a0)), (3, .int x3j152), (5, .int x5j152)]) G.1 G.2.1 d_Mo_checkOwn_153 hl (by decide) rfl (fun ls hl => ?_)
                  refine lv_iinc (v := x5j152 + 1) (lv' := [(5, .int (x5j152 + 1)), (4, .int (z0j152 ||| z1j152)), (0, .ref (ad a0)), (3, .int x3j152)]) G.1 G.2.1 d_Mo_checkOwn_155 hl (k := 3) rfl rfl (by decide) rfl (fun ls hl => ?_)
                  refine lv_goto (tgt := 125) G.1 G.2.1 d_Mo_checkOwn_158 (by decide) ?_
                  have h := hK_125 s_j152 x3j152 (z0j152 ||| z1j152) (x5j152 + 1) h
                  exact ih_125 s_j152 x3j152 (z0j152 ||| z1j152) (x5j152 + 1) (Nat.lt_of_lt_of_le h.2 (Nat.le_of_lt_succ hμ_125)) h.1 H locs hP hD hS ls (lv_sub hl [2, 3, 1, 0] rfl)
                refine lv_icmp_ne (tgt := 151) G.1 G.2.1 d_Mo_checkOwn_144 (by decide) (fun c144 => ?_) (fun c144 => ?_)
                · skip
                  have h := h.1 c144
                  refine W.eq (g2 := F0 m 151 ls [.int x4h125]) rfl ?_
                  refine lv_iconst (v := 0) G.1 G.2.1 d_Mo_checkOwn_151 (by decide) ?_
                  exact J_152 s_h125 x3h125 x5h125 x4h125 0 H locs h hP hD hS ls (lv_sub hl [0, 1, 3] rfl)
                · skip
                  have h := h.2 c144
                  refine W.eq (g2 := F0 m 147 ls [.int x4h125]) rfl ?_
                  refine lv_iconst (v := 1) G.1 G.2.1 d_Mo_checkOwn_147 (by decide) ?_
                  refine lv_goto (tgt := 152) G.1 G.2.1 d_Mo_checkOwn_148 (by decide) ?_
                  exact J_152 s_h125 x3h125 x5h125 x4h125 1 H locs h hP hD hS ls (lv_sub hl [0, 1, 3] rfl)
          exact L_125 _ s_h78 x3h78 x4h78 0 (Nat.lt_succ_self _) hI_125 H locs hP hD hS ls (lv_sub hl [1, 2, 3, 0] rfl)
        · skip
          have h := h.2 c92
          refine lv_iload G.1 G.2.1 d_Mo_checkOwn_95 (lv_at hl 2 rfl) ?_
          refine lv_aload_n G.1 G.2.1 d_Mo_checkOwn_97 rfl (lv_at hl 0 rfl) ?_
          refine ugf (v := .ref (yP y a0 70)) G hP h_a0 iMo rfl 70 (by decide) rfl q3134 rfl rfl d_Mo_checkOwn_98 ?_
          refine W.eq (g2 := F0 m 101 ls [.ref (yP y a0 70), .int x4h78]) rfl ?_
          refine lv_iload G.1 G.2.1 d_Mo_checkOwn_101 (lv_at hl 3 rfl) ?_
          refine uiald G hP (kdp h_a0 rfl) (typ h_a0 rfl) h d_Mo_checkOwn_103 (fun x_64 h => ?_)
          refine lv_iconst (v := 5) G.1 G.2.1 d_Mo_checkOwn_104 (by decide) ?_
          have J_113 : ∀ (s_j113 : St) (x3j113 : Int32) (x5j113 : Int32) (z0j113 : Int32) (z1j113 : Int32) (H : Heap) (locs : List Loc), wj_Mo_checkOwn_113 y Post K_78 a0 s_j113 x3j113 x5j113 z0j113 z1j113 → va_P D CL (ws g ad y s_j113) H → va_D A (ws g ad y s_j113) → va_S A s.heap H locs → ∀ ls, lv_has ls 6 [(0, .ref (ad a0)), (3, .int x3j113), (5, .int x5j113)] → W p l e ru_Mo_checkOwn s m args below meth c H locs 0 0 Q (F0 m 113 ls [.int z1j113, .int z0j113]) := by
            intro s_j113 x3j113 x5j113 z0j113 z1j113 H locs h hP hD hS ls hl
            unfold wj_Mo_checkOwn_113 at h
            refine lv_ior G.1 G.2.1 d_Mo_checkOwn_113 ?_
            refine lv_istore (lv' := [(4, .int (z0j113 ||| z1j113)), (0, .ref (ad a0)), (3, .int x3j113), (5, .int x5j113)]) G.1 G.2.1 d_Mo_checkOwn_114 hl (by decide) rfl (fun ls hl => ?_)
            refine lv_iinc (v := x5j113 + 1) (lv' := [(5, .int (x5j113 + 1)), (4, .int (z0j113 ||| z1j113)), (0, .ref (ad a0)), (3, .int x3j113)]) G.1 G.2.1 d_Mo_checkOwn_116 hl (k := 3) rfl rfl (by decide) rfl (fun ls hl => ?_)
            refine lv_goto (tgt := 78) G.1 G.2.1 d_Mo_checkOwn_119 (by decide) ?_
            have h := hK_78 s_j113 x3j113 (z0j113 ||| z1j113) (x5j113 + 1) h
            exact ih_78 s_j113 x3j113 (z0j113 ||| z1j113) (x5j113 + 1) (Nat.lt_of_lt_of_le h.2 (Nat.le_of_lt_succ hμ_78)) h.1 H locs hP hD hS ls (lv_sub hl [2, 3, 1, 0] rfl)
          refine lv_icmp_ne (tgt := 112) G.1 G.2.1 d_Mo_checkOwn_105 (by decide) (fun c105 => ?_) (fun c105 => ?_)
          · skip
            have h := h.1 c105
            refine lv_iconst (v := 0) G.1 G.2.1 d_Mo_checkOwn_112 (by decide) ?_
            exact J_113 s_h78 x3h78 x5h78 x4h78 0 H locs h hP hD hS ls (lv_sub hl [0, 1, 3] rfl)
          · skip
            have h := h.2 c105
            refine lv_iconst (v := 1) G.1 G.2.1 d_Mo_checkOwn_108 (by decide) ?_
            refine lv_goto (tgt := 113) G.1 G.2.1 d_Mo_checkOwn_109 (by decide) ?_
            exact J_113 s_h78 x3h78 x5h78 x4h78 1 H locs h hP hD hS ls (lv_sub hl [0, 1, 3] rfl)
    exact L_78 _ σ x_5 0 0 (Nat.lt_succ_self _) hI_78 H locs hP hD hS ls (lv_sub hl [3, 2, 1, 0] rfl)
  replace h := h.2 e19_57
  by_cases e19_58 : v1 = 58
  · skip
    have h := h.1 e19_58
    refine lv_tableIn (off := 182) (tgt := 201) G.1 G.2.1 d_Mo_checkOwn_19 (by rw [e19_58]; decide) (by rw [e19_58]; decide) (by rw [e19_58]; rfl) (by decide) ?_
    refine lv_iload_n G.1 G.2.1 d_Mo_checkOwn_201 rfl (lv_at hl 0 rfl) ?_
    refine lv_iconst (v := 1) G.1 G.2.1 d_Mo_checkOwn_202 (by decide) ?_
    have J_212 : ∀ (s_j212 : St) (z0j212 : Int32) (H : Heap) (locs : List Loc), wj_Mo_checkOwn_212 y Post a0 s_j212 z0j212 → va_P D CL (ws g ad y s_j212) H → va_D A (ws g ad y s_j212) → va_S A s.heap H locs → ∀ ls, lv_has ls 6 [] → W p l e ru_Mo_checkOwn s m args below meth c H locs 0 0 Q (F0 m 212 ls [.int z0j212]) := by
      intro s_j212 z0j212 H locs h hP hD hS ls hl
      unfold wj_Mo_checkOwn_212 at h
      exact hret _ _ _ _ _ _ _ ls h hP hD hS (Nat.le_refl _) (Nat.le_refl _) d_Mo_checkOwn_212
    refine lv_icmp_eq (tgt := 211) G.1 G.2.1 d_Mo_checkOwn_203 (by decide) (fun c203 => ?_) (fun c203 => ?_)
    · skip
      have h := h.1 c203
      refine lv_iconst (v := 0) G.1 G.2.1 d_Mo_checkOwn_211 (by decide) ?_
      exact J_212 σ 0 H locs h hP hD hS ls (lv_sub hl [] rfl)
    · skip
      have h := h.2 c203
      refine lv_bipush (v := 41) G.1 G.2.1 d_Mo_checkOwn_206 (by decide) ?_
      refine lv_goto (tgt := 212) G.1 G.2.1 d_Mo_checkOwn_208 (by decide) ?_
      exact J_212 σ 41 H locs h hP hD hS ls (lv_sub hl [] rfl)
  replace h := h.2 e19_58
  by_cases e19_59 : v1 = 59
  · skip
    have h := h.1 e19_59
    refine lv_tableIn (off := 194) (tgt := 213) G.1 G.2.1 d_Mo_checkOwn_19 (by rw [e19_59]; decide) (by rw [e19_59]; decide) (by rw [e19_59]; rfl) (by decide) ?_
    refine lv_iload_n G.1 G.2.1 d_Mo_checkOwn_213 rfl (lv_at hl 0 rfl) ?_
    refine lv_iconst (v := 1) G.1 G.2.1 d_Mo_checkOwn_214 (by decide) ?_
    have J_224 : ∀ (s_j224 : St) (z0j224 : Int32) (H : Heap) (locs : List Loc), wj_Mo_checkOwn_224 y Post a0 s_j224 z0j224 → va_P D CL (ws g ad y s_j224) H → va_D A (ws g ad y s_j224) → va_S A s.heap H locs → ∀ ls, lv_has ls 6 [] → W p l e ru_Mo_checkOwn s m args below meth c H locs 0 0 Q (F0 m 224 ls [.int z0j224]) := by
      intro s_j224 z0j224 H locs h hP hD hS ls hl
      unfold wj_Mo_checkOwn_224 at h
      exact hret _ _ _ _ _ _ _ ls h hP hD hS (Nat.le_refl _) (Nat.le_refl _) d_Mo_checkOwn_224
    refine lv_icmp_gt (tgt := 223) G.1 G.2.1 d_Mo_checkOwn_215 (by decide) (fun c215 => ?_) (fun c215 => ?_)
    · skip
      have h := h.1 c215
      refine lv_iconst (v := 0) G.1 G.2.1 d_Mo_checkOwn_223 (by decide) ?_
      exact J_224 σ 0 H locs h hP hD hS ls (lv_sub hl [] rfl)
    · skip
      have h := h.2 c215
      refine lv_bipush (v := 41) G.1 G.2.1 d_Mo_checkOwn_218 (by decide) ?_
      refine lv_goto (tgt := 224) G.1 G.2.1 d_Mo_checkOwn_220 (by decide) ?_
      exact J_224 σ 41 H locs h hP hD hS ls (lv_sub hl [] rfl)
  replace h := h.2 e19_59
  have te19_50 := lv_neT (a := 50) e19_50 (by decide)
  have te19_51 := lv_neT (a := 51) e19_51 (by decide)
  have te19_52 := lv_neT (a := 52) e19_52 (by decide)
  have te19_53 := lv_neT (a := 53) e19_53 (by decide)
  have te19_54 := lv_neT (a := 54) e19_54 (by decide)
  have te19_55 := lv_neT (a := 55) e19_55 (by decide)
  have te19_56 := lv_neT (a := 56) e19_56 (by decide)
  have te19_57 := lv_neT (a := 57) e19_57 (by decide)
  have te19_58 := lv_neT (a := 58) e19_58 (by decide)
  have te19_59 := lv_neT (a := 59) e19_59 (by decide)
  refine lv_tableOut (tgt := 424) G.1 G.2.1 d_Mo_checkOwn_19 (by omega) (by decide) ?_
  refine lv_iconst (v := 0) G.1 G.2.1 d_Mo_checkOwn_424 (by decide) ?_
  exact hret _ _ _ _ _ _ _ ls h hP hD hS (Nat.le_refl _) (Nat.le_refl _) d_Mo_checkOwn_425
def y_Mo_lay : MethodName := ⟨"ClassWorksModel", "lay", "(I)V"⟩
abbrev b_Mo_lay : ByteArray := prog_14_method_78_code
theorem d_Mo_lay_0 : decode b_Mo_lay 0 = .ok (.aload_n 0, 1) := by decide +kernel
theorem d_Mo_lay_1 : decode b_Mo_lay 1 = .ok (.getfield 308, 3) := by decide +kernel
theorem d_Mo_lay_4 : decode b_Mo_lay 4 = .ok (.aload_n 0, 1) := by decide +kernel
theorem d_Mo_lay_5 : decode b_Mo_lay 5 = .ok (.getfield 780, 3) := by decide +kernel
theorem d_Mo_lay_8 : decode b_Mo_lay 8 = .ok (.iload_n 1, 1) := by decide +kernel
theorem d_Mo_lay_9 : decode b_Mo_lay 9 = .ok (.iastore, 1) := by decide +kernel
theorem d_Mo_lay_10 : decode b_Mo_lay 10 = .ok (.aload_n 0, 1) := by decide +kernel
theorem d_Mo_lay_11 : decode b_Mo_lay 11 = .ok (.dup, 1) := by decide +kernel
theorem d_Mo_lay_12 : decode b_Mo_lay 12 = .ok (.getfield 780, 3) := by decide +kernel
theorem d_Mo_lay_15 : decode b_Mo_lay 15 = .ok (.iconst 1, 1) := by decide +kernel
theorem d_Mo_lay_16 : decode b_Mo_lay 16 = .ok (.iadd, 1) := by decide +kernel
theorem d_Mo_lay_17 : decode b_Mo_lay 17 = .ok (.putfield 780, 3) := by decide +kernel
theorem d_Mo_lay_20 : decode b_Mo_lay 20 = .ok (.return_, 1) := by decide +kernel
abbrev ru_Mo_lay : Room := { frames := 0, cells := 0, slots := 0, locals := 0 }
def wu_Mo_lay (y : Ly) (Post : St → Prop) (σ : St) (a0 : Nat) (v1 : Int32) : Prop := xS y σ a0 71 (sV σ a0 72) v1 (fun s_1 : St => xP (uV s_1 a0 72 ((sV s_1 a0 72) + 1)) (fun s_2 : St => Post s_2))
set_option maxHeartbeats 4000000 in
set_option maxRecDepth 100000 in
theorem cu_Mo_lay (l : Launch) (D : va_G) (g : Nat → ClassId) (ad : Nat → Nat) (y : Ly) (Post : St → Prop) (σ : St) (a0 : Nat) (v1 : Int32) (sz : Nat) (h_a0 : cl a0 = 14) (h : wu_Mo_lay y Post σ a0 v1) : Met l y_Mo_lay (mw y_Mo_lay b_Mo_lay 2 (none)) ru_Mo_lay (PC g D [] [.ref (ad a0), .int v1] sz (ws g ad y σ)) (va_Qv (fun u : St => Post u) (QW D (va_A (ws g ad y σ) sz) (fun u => ws g ad y u)) (va_A (ws g ad y σ) sz)) 0 0 (va_A (ws g ad y σ) sz) := by
  refine ofV (by decide +kernel) (Nat.le_of_ble_eq_true rfl) ?_
  intro p e s m args below meth c A Q ls H locs G hsz hP hD hS hl hret
  subst hsz
  have hl : lv_has ls 2 [(0, .ref (ad a0)), (1, .int v1)] := hl
  unfold wu_Mo_lay at h
  refine lv_aload_n G.1 G.2.1 d_Mo_lay_0 rfl (lv_at hl 0 rfl) ?_
  refine ugf (v := .ref (yP y a0 71)) G hP h_a0 iMo rfl 71 (by decide) rfl q3135 rfl rfl d_Mo_lay_1 ?_
  refine lv_aload_n G.1 G.2.1 d_Mo_lay_4 rfl (lv_at hl 0 rfl) ?_
  refine ugf (v := .int (sV σ a0 72)) G hP h_a0 iMo rfl 72 (by decide) rfl q3136 rfl rfl d_Mo_lay_5 ?_
  refine lv_iload_n G.1 G.2.1 d_Mo_lay_8 rfl (lv_at hl 1 rfl) ?_
  refine uiast G hP hD hS (kdp h_a0 rfl) (typ h_a0 rfl) h d_Mo_lay_9 (fun s_1 H locs h hP hD hS => ?_)
  refine lv_aload_n G.1 G.2.1 d_Mo_lay_10 rfl (lv_at hl 0 rfl) ?_
  refine lv_dup G.1 G.2.1 d_Mo_lay_11 rfl ?_
  refine ugf (v := .int (sV s_1 a0 72)) G hP h_a0 iMo rfl 72 (by decide) rfl q3136 rfl rfl d_Mo_lay_12 ?_
  refine lv_iconst (v := 1) G.1 G.2.1 d_Mo_lay_15 (by decide) ?_
  refine lv_iadd G.1 G.2.1 d_Mo_lay_16 ?_
  refine W.eq (g2 := F0 m 17 ls [.int ((sV s_1 a0 72) + 1), .ref (ad a0)]) rfl ?_
  refine upf G hP hD hS h 72 putV h_a0 iMo tMo tMo_ok nMo rfl (by decide) rfl q3136 rfl rfl fV rfl rfl d_Mo_lay_17 (fun s_2 H locs h hP hD hS => ?_)
  exact hret _ _ _ _ _ _ ls h hP hD hS (Nat.le_refl _) (Nat.le_refl _) d_Mo_lay_20
theorem q3779 : Cond.methodLink "ClassWorksModel" 841 y_Mo_lay ∈ lw_ok := lw_okmem (List.mem_of_getElem? (i := 3779) (by decide +kernel)) rfl
theorem q3782 : Cond.code y_Mo_lay b_Mo_lay 2 (none) ∈ lw_ok := lw_okmem (List.mem_of_getElem? (i := 3782) (by decide +kernel)) rfl
theorem q3781 : Cond.instanceMethod y_Mo_lay ∈ lw_ok := lw_okmem (List.mem_of_getElem? (i := 3781) (by decide +kernel)) rfl
theorem q240 : Cond.selects y_Mo_lay.cls y_Mo_lay y_Mo_lay ∈ lw_ok := lw_okmem (List.mem_of_getElem? (i := 240) (by decide +kernel)) rfl
theorem w9_Mo_lay : CWv y_Mo_lay b_Mo_lay 2 (none) 1 ∧ Cond.instanceMethod y_Mo_lay ∈ lw_ok ∧ Cond.selects y_Mo_lay.cls y_Mo_lay y_Mo_lay ∈ lw_ok := ⟨⟨q3782, q348, by decide +kernel, by decide +kernel, by decide +kernel⟩, q3781, q240⟩
def y_Mo_act : MethodName := ⟨"ClassWorksModel", "act", "(III)V"⟩
abbrev b_Mo_act : ByteArray := prog_14_method_79_code
theorem d_Mo_act_0 : decode b_Mo_act 0 = .ok (.aload_n 0, 1) := by decide +kernel
theorem d_Mo_act_1 : decode b_Mo_act 1 = .ok (.getfield 522, 3) := by decide +kernel
theorem d_Mo_act_4 : decode b_Mo_act 4 = .ok (.getfield 677, 3) := by decide +kernel
theorem d_Mo_act_7 : decode b_Mo_act 7 = .ok (.iload_n 2, 1) := by decide +kernel
theorem d_Mo_act_8 : decode b_Mo_act 8 = .ok (.iaload, 1) := by decide +kernel
theorem d_Mo_act_9 : decode b_Mo_act 9 = .ok (.istore 4, 2) := by decide +kernel
theorem d_Mo_act_11 : decode b_Mo_act 11 = .ok (.aload_n 0, 1) := by decide +kernel
theorem d_Mo_act_12 : decode b_Mo_act 12 = .ok (.getfield 780, 3) := by decide +kernel
theorem d_Mo_act_15 : decode b_Mo_act 15 = .ok (.ifCond .le 17, 3) := by decide +kernel
theorem d_Mo_act_18 : decode b_Mo_act 18 = .ok (.aload_n 0, 1) := by decide +kernel
theorem d_Mo_act_19 : decode b_Mo_act 19 = .ok (.getfield 308, 3) := by decide +kernel
theorem d_Mo_act_22 : decode b_Mo_act 22 = .ok (.aload_n 0, 1) := by decide +kernel
theorem d_Mo_act_23 : decode b_Mo_act 23 = .ok (.getfield 780, 3) := by decide +kernel
theorem d_Mo_act_26 : decode b_Mo_act 26 = .ok (.iconst 1, 1) := by decide +kernel
theorem d_Mo_act_27 : decode b_Mo_act 27 = .ok (.isub, 1) := by decide +kernel
theorem d_Mo_act_28 : decode b_Mo_act 28 = .ok (.iaload, 1) := by decide +kernel
theorem d_Mo_act_29 : decode b_Mo_act 29 = .ok (.goto 4, 3) := by decide +kernel
theorem d_Mo_act_32 : decode b_Mo_act 32 = .ok (.iconst 0, 1) := by decide +kernel
theorem d_Mo_act_33 : decode b_Mo_act 33 = .ok (.istore 5, 2) := by decide +kernel
theorem d_Mo_act_35 : decode b_Mo_act 35 = .ok (.aload_n 0, 1) := by decide +kernel
theorem d_Mo_act_36 : decode b_Mo_act 36 = .ok (.getfield 780, 3) := by decide +kernel
theorem d_Mo_act_39 : decode b_Mo_act 39 = .ok (.iconst 1, 1) := by decide +kernel
theorem d_Mo_act_40 : decode b_Mo_act 40 = .ok (.if_icmp .le 17, 3) := by decide +kernel
theorem d_Mo_act_43 : decode b_Mo_act 43 = .ok (.aload_n 0, 1) := by decide +kernel
theorem d_Mo_act_44 : decode b_Mo_act 44 = .ok (.getfield 308, 3) := by decide +kernel
theorem d_Mo_act_47 : decode b_Mo_act 47 = .ok (.aload_n 0, 1) := by decide +kernel
theorem d_Mo_act_48 : decode b_Mo_act 48 = .ok (.getfield 780, 3) := by decide +kernel
theorem d_Mo_act_51 : decode b_Mo_act 51 = .ok (.iconst 2, 1) := by decide +kernel
theorem d_Mo_act_52 : decode b_Mo_act 52 = .ok (.isub, 1) := by decide +kernel
theorem d_Mo_act_53 : decode b_Mo_act 53 = .ok (.iaload, 1) := by decide +kernel
theorem d_Mo_act_54 : decode b_Mo_act 54 = .ok (.goto 4, 3) := by decide +kernel
theorem d_Mo_act_57 : decode b_Mo_act 57 = .ok (.iconst 0, 1) := by decide +kernel
theorem d_Mo_act_58 : decode b_Mo_act 58 = .ok (.istore 6, 2) := by decide +kernel
theorem d_Mo_act_60 : decode b_Mo_act 60 = .ok (.iload_n 1, 1) := by decide +kernel
theorem d_Mo_act_61 : decode b_Mo_act 61 = .ok (.bipush 51, 2) := by decide +kernel
theorem d_Mo_act_63 : decode b_Mo_act 63 = .ok (.if_icmp .ne 36, 3) := by decide +kernel
theorem d_Mo_act_66 : decode b_Mo_act 66 = .ok (.aload_n 0, 1) := by decide +kernel
theorem d_Mo_act_67 : decode b_Mo_act 67 = .ok (.getfield 522, 3) := by decide +kernel
theorem d_Mo_act_70 : decode b_Mo_act 70 = .ok (.getfield 680, 3) := by decide +kernel
theorem d_Mo_act_73 : decode b_Mo_act 73 = .ok (.iload_n 2, 1) := by decide +kernel
theorem d_Mo_act_74 : decode b_Mo_act 74 = .ok (.iaload, 1) := by decide +kernel
theorem d_Mo_act_75 : decode b_Mo_act 75 = .ok (.aload_n 0, 1) := by decide +kernel
theorem d_Mo_act_76 : decode b_Mo_act 76 = .ok (.getfield 121, 3) := by decide +kernel
theorem d_Mo_act_79 : decode b_Mo_act 79 = .ok (.if_icmp .ne 20, 3) := by decide +kernel
theorem d_Mo_act_82 : decode b_Mo_act 82 = .ok (.aload_n 0, 1) := by decide +kernel
theorem d_Mo_act_83 : decode b_Mo_act 83 = .ok (.getfield 308, 3) := by decide +kernel
theorem d_Mo_act_86 : decode b_Mo_act 86 = .ok (.aload_n 0, 1) := by decide +kernel
theorem d_Mo_act_87 : decode b_Mo_act 87 = .ok (.getfield 780, 3) := by decide +kernel
theorem d_Mo_act_90 : decode b_Mo_act 90 = .ok (.aload_n 0, 1) := by decide +kernel
theorem d_Mo_act_91 : decode b_Mo_act 91 = .ok (.getfield 823, 3) := by decide +kernel
theorem d_Mo_act_94 : decode b_Mo_act 94 = .ok (.isub, 1) := by decide +kernel
theorem d_Mo_act_95 : decode b_Mo_act 95 = .ok (.iaload, 1) := by decide +kernel
theorem d_Mo_act_96 : decode b_Mo_act 96 = .ok (.goto 4, 3) := by decide +kernel
theorem d_Mo_act_99 : decode b_Mo_act 99 = .ok (.iconst 0, 1) := by decide +kernel
theorem d_Mo_act_100 : decode b_Mo_act 100 = .ok (.istore 7, 2) := by decide +kernel
theorem d_Mo_act_102 : decode b_Mo_act 102 = .ok (.aload_n 0, 1) := by decide +kernel
theorem d_Mo_act_103 : decode b_Mo_act 103 = .ok (.dup, 1) := by decide +kernel
theorem d_Mo_act_104 : decode b_Mo_act 104 = .ok (.getfield 780, 3) := by decide +kernel
theorem d_Mo_act_107 : decode b_Mo_act 107 = .ok (.aload_n 0, 1) := by decide +kernel
theorem d_Mo_act_108 : decode b_Mo_act 108 = .ok (.getfield 823, 3) := by decide +kernel
theorem d_Mo_act_111 : decode b_Mo_act 111 = .ok (.isub, 1) := by decide +kernel
theorem d_Mo_act_112 : decode b_Mo_act 112 = .ok (.putfield 780, 3) := by decide +kernel
theorem d_Mo_act_115 : decode b_Mo_act 115 = .ok (.iload_n 1, 1) := by decide +kernel
theorem d_Mo_act_116 : decode b_Mo_act 116 = .ok (.tableswitch 565 1 55 #[236, 254, 236, 262, 276, 287, 565, 565, 565, 565, 565, 565, 565, 565, 565, 565, 565, 565, 565, 299, 314, 335, 565, 565, 565, 565, 565, 565, 565, 565, 565, 565, 565, 565, 565, 565, 565, 565, 565, 565, 350, 236, 236, 565, 236, 360, 565, 360, 565, 388, 388, 388, 388, 376, 236], 236) := by decide +kernel
theorem d_Mo_act_352 : decode b_Mo_act 352 = .ok (.aload_n 0, 1) := by decide +kernel
theorem d_Mo_act_353 : decode b_Mo_act 353 = .ok (.iload_n 1, 1) := by decide +kernel
theorem d_Mo_act_354 : decode b_Mo_act 354 = .ok (.bipush 42, 2) := by decide +kernel
theorem d_Mo_act_356 : decode b_Mo_act 356 = .ok (.if_icmp .ne 7, 3) := by decide +kernel
theorem d_Mo_act_359 : decode b_Mo_act 359 = .ok (.iconst 2, 1) := by decide +kernel
theorem d_Mo_act_360 : decode b_Mo_act 360 = .ok (.goto 4, 3) := by decide +kernel
theorem d_Mo_act_363 : decode b_Mo_act 363 = .ok (.iconst 1, 1) := by decide +kernel
theorem d_Mo_act_364 : decode b_Mo_act 364 = .ok (.invokevirtual 841, 3) := by decide +kernel
theorem d_Mo_act_367 : decode b_Mo_act 367 = .ok (.goto 331, 3) := by decide +kernel
theorem d_Mo_act_370 : decode b_Mo_act 370 = .ok (.aload_n 0, 1) := by decide +kernel
theorem d_Mo_act_371 : decode b_Mo_act 371 = .ok (.iconst 3, 1) := by decide +kernel
theorem d_Mo_act_372 : decode b_Mo_act 372 = .ok (.invokevirtual 841, 3) := by decide +kernel
theorem d_Mo_act_375 : decode b_Mo_act 375 = .ok (.goto 323, 3) := by decide +kernel
theorem d_Mo_act_378 : decode b_Mo_act 378 = .ok (.aload_n 0, 1) := by decide +kernel
theorem d_Mo_act_379 : decode b_Mo_act 379 = .ok (.aload_n 0, 1) := by decide +kernel
theorem d_Mo_act_380 : decode b_Mo_act 380 = .ok (.getfield 305, 3) := by decide +kernel
theorem d_Mo_act_383 : decode b_Mo_act 383 = .ok (.iload 4, 2) := by decide +kernel
theorem d_Mo_act_385 : decode b_Mo_act 385 = .ok (.iaload, 1) := by decide +kernel
theorem d_Mo_act_386 : decode b_Mo_act 386 = .ok (.invokevirtual 841, 3) := by decide +kernel
theorem d_Mo_act_389 : decode b_Mo_act 389 = .ok (.goto 309, 3) := by decide +kernel
theorem d_Mo_act_392 : decode b_Mo_act 392 = .ok (.aload_n 0, 1) := by decide +kernel
theorem d_Mo_act_393 : decode b_Mo_act 393 = .ok (.getfield 305, 3) := by decide +kernel
theorem d_Mo_act_396 : decode b_Mo_act 396 = .ok (.iload 4, 2) := by decide +kernel
theorem d_Mo_act_398 : decode b_Mo_act 398 = .ok (.iconst 1, 1) := by decide +kernel
theorem d_Mo_act_399 : decode b_Mo_act 399 = .ok (.iastore, 1) := by decide +kernel
theorem d_Mo_act_400 : decode b_Mo_act 400 = .ok (.goto 298, 3) := by decide +kernel
theorem d_Mo_act_403 : decode b_Mo_act 403 = .ok (.aload_n 0, 1) := by decide +kernel
theorem d_Mo_act_404 : decode b_Mo_act 404 = .ok (.getfield 305, 3) := by decide +kernel
theorem d_Mo_act_407 : decode b_Mo_act 407 = .ok (.iload 4, 2) := by decide +kernel
theorem d_Mo_act_409 : decode b_Mo_act 409 = .ok (.iload 5, 2) := by decide +kernel
theorem d_Mo_act_411 : decode b_Mo_act 411 = .ok (.iastore, 1) := by decide +kernel
theorem d_Mo_act_412 : decode b_Mo_act 412 = .ok (.goto 286, 3) := by decide +kernel
theorem d_Mo_act_415 : decode b_Mo_act 415 = .ok (.aload_n 0, 1) := by decide +kernel
theorem d_Mo_act_416 : decode b_Mo_act 416 = .ok (.iload 5, 2) := by decide +kernel
theorem d_Mo_act_418 : decode b_Mo_act 418 = .ok (.invokevirtual 841, 3) := by decide +kernel
theorem d_Mo_act_421 : decode b_Mo_act 421 = .ok (.aload_n 0, 1) := by decide +kernel
theorem d_Mo_act_422 : decode b_Mo_act 422 = .ok (.iload 5, 2) := by decide +kernel
theorem d_Mo_act_424 : decode b_Mo_act 424 = .ok (.invokevirtual 841, 3) := by decide +kernel
theorem d_Mo_act_427 : decode b_Mo_act 427 = .ok (.goto 271, 3) := by decide +kernel
theorem d_Mo_act_430 : decode b_Mo_act 430 = .ok (.aload_n 0, 1) := by decide +kernel
theorem d_Mo_act_431 : decode b_Mo_act 431 = .ok (.iload 5, 2) := by decide +kernel
theorem d_Mo_act_433 : decode b_Mo_act 433 = .ok (.invokevirtual 841, 3) := by decide +kernel
theorem d_Mo_act_436 : decode b_Mo_act 436 = .ok (.aload_n 0, 1) := by decide +kernel
theorem d_Mo_act_437 : decode b_Mo_act 437 = .ok (.iload 6, 2) := by decide +kernel
theorem d_Mo_act_439 : decode b_Mo_act 439 = .ok (.invokevirtual 841, 3) := by decide +kernel
theorem d_Mo_act_442 : decode b_Mo_act 442 = .ok (.aload_n 0, 1) := by decide +kernel
theorem d_Mo_act_443 : decode b_Mo_act 443 = .ok (.iload 5, 2) := by decide +kernel
theorem d_Mo_act_445 : decode b_Mo_act 445 = .ok (.invokevirtual 841, 3) := by decide +kernel
theorem d_Mo_act_448 : decode b_Mo_act 448 = .ok (.goto 250, 3) := by decide +kernel
theorem d_Mo_act_451 : decode b_Mo_act 451 = .ok (.aload_n 0, 1) := by decide +kernel
theorem d_Mo_act_452 : decode b_Mo_act 452 = .ok (.iload 5, 2) := by decide +kernel
theorem d_Mo_act_454 : decode b_Mo_act 454 = .ok (.invokevirtual 841, 3) := by decide +kernel
theorem d_Mo_act_457 : decode b_Mo_act 457 = .ok (.aload_n 0, 1) := by decide +kernel
theorem d_Mo_act_458 : decode b_Mo_act 458 = .ok (.iload 6, 2) := by decide +kernel
theorem d_Mo_act_460 : decode b_Mo_act 460 = .ok (.invokevirtual 841, 3) := by decide +kernel
theorem d_Mo_act_463 : decode b_Mo_act 463 = .ok (.goto 235, 3) := by decide +kernel
theorem d_Mo_act_466 : decode b_Mo_act 466 = .ok (.aload_n 0, 1) := by decide +kernel
theorem d_Mo_act_467 : decode b_Mo_act 467 = .ok (.iconst (-1), 1) := by decide +kernel
theorem d_Mo_act_468 : decode b_Mo_act 468 = .ok (.iload_n 3, 1) := by decide +kernel
theorem d_Mo_act_469 : decode b_Mo_act 469 = .ok (.isub, 1) := by decide +kernel
theorem d_Mo_act_470 : decode b_Mo_act 470 = .ok (.invokevirtual 841, 3) := by decide +kernel
theorem d_Mo_act_473 : decode b_Mo_act 473 = .ok (.goto 225, 3) := by decide +kernel
theorem d_Mo_act_476 : decode b_Mo_act 476 = .ok (.aload_n 0, 1) := by decide +kernel
theorem d_Mo_act_477 : decode b_Mo_act 477 = .ok (.aload_n 0, 1) := by decide +kernel
theorem d_Mo_act_478 : decode b_Mo_act 478 = .ok (.getfield 522, 3) := by decide +kernel
theorem d_Mo_act_481 : decode b_Mo_act 481 = .ok (.getfield 683, 3) := by decide +kernel
theorem d_Mo_act_484 : decode b_Mo_act 484 = .ok (.iload_n 2, 1) := by decide +kernel
theorem d_Mo_act_485 : decode b_Mo_act 485 = .ok (.iaload, 1) := by decide +kernel
theorem d_Mo_act_486 : decode b_Mo_act 486 = .ok (.invokevirtual 841, 3) := by decide +kernel
theorem d_Mo_act_489 : decode b_Mo_act 489 = .ok (.goto 209, 3) := by decide +kernel
theorem d_Mo_act_492 : decode b_Mo_act 492 = .ok (.aload_n 0, 1) := by decide +kernel
theorem d_Mo_act_493 : decode b_Mo_act 493 = .ok (.bipush 16, 2) := by decide +kernel
theorem d_Mo_act_495 : decode b_Mo_act 495 = .ok (.iload 4, 2) := by decide +kernel
theorem d_Mo_act_497 : decode b_Mo_act 497 = .ok (.iadd, 1) := by decide +kernel
theorem d_Mo_act_498 : decode b_Mo_act 498 = .ok (.invokevirtual 841, 3) := by decide +kernel
theorem d_Mo_act_501 : decode b_Mo_act 501 = .ok (.goto 197, 3) := by decide +kernel
theorem d_Mo_act_504 : decode b_Mo_act 504 = .ok (.iload 7, 2) := by decide +kernel
theorem d_Mo_act_506 : decode b_Mo_act 506 = .ok (.ifCond .eq 137, 3) := by decide +kernel
theorem d_Mo_act_509 : decode b_Mo_act 509 = .ok (.bipush 16, 2) := by decide +kernel
theorem d_Mo_act_511 : decode b_Mo_act 511 = .ok (.iload 7, 2) := by decide +kernel
theorem d_Mo_act_513 : decode b_Mo_act 513 = .ok (.iconst 5, 1) := by decide +kernel
theorem d_Mo_act_514 : decode b_Mo_act 514 = .ok (.if_icmp .ne 18, 3) := by decide +kernel
theorem d_Mo_act_517 : decode b_Mo_act 517 = .ok (.aload_n 0, 1) := by decide +kernel
theorem d_Mo_act_518 : decode b_Mo_act 518 = .ok (.getfield 522, 3) := by decide +kernel
theorem d_Mo_act_521 : decode b_Mo_act 521 = .ok (.getfield 423, 3) := by decide +kernel
theorem d_Mo_act_524 : decode b_Mo_act 524 = .ok (.aload_n 0, 1) := by decide +kernel
theorem d_Mo_act_525 : decode b_Mo_act 525 = .ok (.getfield 789, 3) := by decide +kernel
theorem d_Mo_act_528 : decode b_Mo_act 528 = .ok (.iaload, 1) := by decide +kernel
theorem d_Mo_act_529 : decode b_Mo_act 529 = .ok (.goto 5, 3) := by decide +kernel
theorem d_Mo_act_532 : decode b_Mo_act 532 = .ok (.iload 4, 2) := by decide +kernel
theorem d_Mo_act_534 : decode b_Mo_act 534 = .ok (.iadd, 1) := by decide +kernel
theorem d_Mo_act_535 : decode b_Mo_act 535 = .ok (.istore 8, 2) := by decide +kernel
theorem d_Mo_act_537 : decode b_Mo_act 537 = .ok (.iconst 0, 1) := by decide +kernel
theorem d_Mo_act_538 : decode b_Mo_act 538 = .ok (.istore 9, 2) := by decide +kernel
theorem d_Mo_act_540 : decode b_Mo_act 540 = .ok (.iload 9, 2) := by decide +kernel
theorem d_Mo_act_542 : decode b_Mo_act 542 = .ok (.aload_n 0, 1) := by decide +kernel
theorem d_Mo_act_543 : decode b_Mo_act 543 = .ok (.getfield 522, 3) := by decide +kernel
theorem d_Mo_act_546 : decode b_Mo_act 546 = .ok (.getfield 459, 3) := by decide +kernel
theorem d_Mo_act_549 : decode b_Mo_act 549 = .ok (.aload_n 0, 1) := by decide +kernel
theorem d_Mo_act_550 : decode b_Mo_act 550 = .ok (.getfield 768, 3) := by decide +kernel
theorem d_Mo_act_553 : decode b_Mo_act 553 = .ok (.iaload, 1) := by decide +kernel
theorem d_Mo_act_554 : decode b_Mo_act 554 = .ok (.if_icmp .ge 40, 3) := by decide +kernel
theorem d_Mo_act_557 : decode b_Mo_act 557 = .ok (.aload_n 0, 1) := by decide +kernel
theorem d_Mo_act_558 : decode b_Mo_act 558 = .ok (.getfield 305, 3) := by decide +kernel
theorem d_Mo_act_561 : decode b_Mo_act 561 = .ok (.iload 9, 2) := by decide +kernel
theorem d_Mo_act_563 : decode b_Mo_act 563 = .ok (.aload_n 0, 1) := by decide +kernel
theorem d_Mo_act_564 : decode b_Mo_act 564 = .ok (.getfield 305, 3) := by decide +kernel
theorem d_Mo_act_567 : decode b_Mo_act 567 = .ok (.iload 9, 2) := by decide +kernel
theorem d_Mo_act_569 : decode b_Mo_act 569 = .ok (.iaload, 1) := by decide +kernel
theorem d_Mo_act_570 : decode b_Mo_act 570 = .ok (.iload 7, 2) := by decide +kernel
theorem d_Mo_act_572 : decode b_Mo_act 572 = .ok (.if_icmp .ne 8, 3) := by decide +kernel
theorem d_Mo_act_575 : decode b_Mo_act 575 = .ok (.iload 8, 2) := by decide +kernel
theorem d_Mo_act_577 : decode b_Mo_act 577 = .ok (.goto 10, 3) := by decide +kernel
theorem d_Mo_act_580 : decode b_Mo_act 580 = .ok (.aload_n 0, 1) := by decide +kernel
theorem d_Mo_act_581 : decode b_Mo_act 581 = .ok (.getfield 305, 3) := by decide +kernel
theorem d_Mo_act_584 : decode b_Mo_act 584 = .ok (.iload 9, 2) := by decide +kernel
theorem d_Mo_act_586 : decode b_Mo_act 586 = .ok (.iaload, 1) := by decide +kernel
theorem d_Mo_act_587 : decode b_Mo_act 587 = .ok (.iastore, 1) := by decide +kernel
theorem d_Mo_act_588 : decode b_Mo_act 588 = .ok (.iinc 9 1, 3) := by decide +kernel
theorem d_Mo_act_591 : decode b_Mo_act 591 = .ok (.goto (-51), 3) := by decide +kernel
theorem d_Mo_act_594 : decode b_Mo_act 594 = .ok (.iconst 0, 1) := by decide +kernel
theorem d_Mo_act_595 : decode b_Mo_act 595 = .ok (.istore 9, 2) := by decide +kernel
theorem d_Mo_act_597 : decode b_Mo_act 597 = .ok (.iload 9, 2) := by decide +kernel
theorem d_Mo_act_599 : decode b_Mo_act 599 = .ok (.aload_n 0, 1) := by decide +kernel
theorem d_Mo_act_600 : decode b_Mo_act 600 = .ok (.getfield 780, 3) := by decide +kernel
theorem d_Mo_act_603 : decode b_Mo_act 603 = .ok (.if_icmp .ge 40, 3) := by decide +kernel
theorem d_Mo_act_606 : decode b_Mo_act 606 = .ok (.aload_n 0, 1) := by decide +kernel
theorem d_Mo_act_607 : decode b_Mo_act 607 = .ok (.getfield 308, 3) := by decide +kernel
theorem d_Mo_act_610 : decode b_Mo_act 610 = .ok (.iload 9, 2) := by decide +kernel
theorem d_Mo_act_612 : decode b_Mo_act 612 = .ok (.aload_n 0, 1) := by decide +kernel
theorem d_Mo_act_613 : decode b_Mo_act 613 = .ok (.getfield 308, 3) := by decide +kernel
theorem d_Mo_act_616 : decode b_Mo_act 616 = .ok (.iload 9, 2) := by decide +kernel
theorem d_Mo_act_618 : decode b_Mo_act 618 = .ok (.iaload, 1) := by decide +kernel
theorem d_Mo_act_619 : decode b_Mo_act 619 = .ok (.iload 7, 2) := by decide +kernel
theorem d_Mo_act_621 : decode b_Mo_act 621 = .ok (.if_icmp .ne 8, 3) := by decide +kernel
theorem d_Mo_act_624 : decode b_Mo_act 624 = .ok (.iload 8, 2) := by decide +kernel
theorem d_Mo_act_626 : decode b_Mo_act 626 = .ok (.goto 10, 3) := by decide +kernel
theorem d_Mo_act_629 : decode b_Mo_act 629 = .ok (.aload_n 0, 1) := by decide +kernel
theorem d_Mo_act_630 : decode b_Mo_act 630 = .ok (.getfield 308, 3) := by decide +kernel
theorem d_Mo_act_633 : decode b_Mo_act 633 = .ok (.iload 9, 2) := by decide +kernel
theorem d_Mo_act_635 : decode b_Mo_act 635 = .ok (.iaload, 1) := by decide +kernel
theorem d_Mo_act_636 : decode b_Mo_act 636 = .ok (.iastore, 1) := by decide +kernel
theorem d_Mo_act_637 : decode b_Mo_act 637 = .ok (.iinc 9 1, 3) := by decide +kernel
theorem d_Mo_act_640 : decode b_Mo_act 640 = .ok (.goto (-43), 3) := by decide +kernel
theorem d_Mo_act_643 : decode b_Mo_act 643 = .ok (.aload_n 0, 1) := by decide +kernel
theorem d_Mo_act_644 : decode b_Mo_act 644 = .ok (.getfield 83, 3) := by decide +kernel
theorem d_Mo_act_647 : decode b_Mo_act 647 = .ok (.aload_n 0, 1) := by decide +kernel
theorem d_Mo_act_648 : decode b_Mo_act 648 = .ok (.getfield 522, 3) := by decide +kernel
theorem d_Mo_act_651 : decode b_Mo_act 651 = .ok (.getfield 683, 3) := by decide +kernel
theorem d_Mo_act_654 : decode b_Mo_act 654 = .ok (.iload_n 2, 1) := by decide +kernel
theorem d_Mo_act_655 : decode b_Mo_act 655 = .ok (.iaload, 1) := by decide +kernel
theorem d_Mo_act_656 : decode b_Mo_act 656 = .ok (.iaload, 1) := by decide +kernel
theorem d_Mo_act_657 : decode b_Mo_act 657 = .ok (.ifCond .eq 41, 3) := by decide +kernel
theorem d_Mo_act_660 : decode b_Mo_act 660 = .ok (.aload_n 0, 1) := by decide +kernel
theorem d_Mo_act_661 : decode b_Mo_act 661 = .ok (.aload_n 0, 1) := by decide +kernel
theorem d_Mo_act_662 : decode b_Mo_act 662 = .ok (.getfield 83, 3) := by decide +kernel
theorem d_Mo_act_665 : decode b_Mo_act 665 = .ok (.aload_n 0, 1) := by decide +kernel
theorem d_Mo_act_666 : decode b_Mo_act 666 = .ok (.getfield 522, 3) := by decide +kernel
theorem d_Mo_act_669 : decode b_Mo_act 669 = .ok (.getfield 683, 3) := by decide +kernel
theorem d_Mo_act_672 : decode b_Mo_act 672 = .ok (.iload_n 2, 1) := by decide +kernel
theorem d_Mo_act_673 : decode b_Mo_act 673 = .ok (.iaload, 1) := by decide +kernel
theorem d_Mo_act_674 : decode b_Mo_act 674 = .ok (.iaload, 1) := by decide +kernel
theorem d_Mo_act_675 : decode b_Mo_act 675 = .ok (.invokevirtual 841, 3) := by decide +kernel
theorem d_Mo_act_678 : decode b_Mo_act 678 = .ok (.goto 20, 3) := by decide +kernel
theorem d_Mo_act_681 : decode b_Mo_act 681 = .ok (.iload_n 1, 1) := by decide +kernel
theorem d_Mo_act_682 : decode b_Mo_act 682 = .ok (.bipush 8, 2) := by decide +kernel
theorem d_Mo_act_684 : decode b_Mo_act 684 = .ok (.if_icmp .lt 14, 3) := by decide +kernel
theorem d_Mo_act_687 : decode b_Mo_act 687 = .ok (.iload_n 1, 1) := by decide +kernel
theorem d_Mo_act_688 : decode b_Mo_act 688 = .ok (.bipush 18, 2) := by decide +kernel
theorem d_Mo_act_690 : decode b_Mo_act 690 = .ok (.if_icmp .gt 8, 3) := by decide +kernel
theorem d_Mo_act_693 : decode b_Mo_act 693 = .ok (.aload_n 0, 1) := by decide +kernel
theorem d_Mo_act_694 : decode b_Mo_act 694 = .ok (.iconst 1, 1) := by decide +kernel
theorem d_Mo_act_695 : decode b_Mo_act 695 = .ok (.invokevirtual 841, 3) := by decide +kernel
theorem d_Mo_act_698 : decode b_Mo_act 698 = .ok (.return_, 1) := by decide +kernel
abbrev ru_Mo_act : Room := { frames := 1, cells := 0, slots := 0, locals := 21 }
def wj_Mo_act_698 (y : Ly) (Post : St → Prop) (a0 : Nat) (s_j698 : St) : Prop := Post s_j698
def wj_Mo_act_364 (y : Ly) (Post : St → Prop) (a0 : Nat) (s_j364 : St) (z1j364 : Int32) : Prop := wu_Mo_lay y (fun (s_7 : St) => wj_Mo_act_698 y Post a0 s_7) s_j364 a0 z1j364
def wj_Mo_act_643 (y : Ly) (Post : St → Prop) (a0 : Nat) (s_j643 : St) (x2j643 : Int32) : Prop := ∃ b_119 : Nat, sO s_j643 a0 45 = some b_119 ∧ cl b_119 = 13 ∧ xA y s_j643 b_119 33 x2j643 (fun x_122 : Int32 => xA y s_j643 a0 32 x_122 (fun x_123 : Int32 => ((x_123 = 0 → wj_Mo_act_698 y Post a0 s_j643) ∧ (¬ (x_123 = 0) → ∃ b_124 : Nat, sO s_j643 a0 45 = some b_124 ∧ cl b_124 = 13 ∧ xA y s_j643 b_124 33 x2j643 (fun x_127 : Int32 => xA y s_j643 a0 32 x_127 (fun x_128 : Int32 => wu_Mo_lay y (fun (s_130 : St) => wj_Mo_act_698 y Post a0 s_130) s_j643 a0 x_128))))))
def wj_Mo_act_636 (y : Ly) (Post : St → Prop) (K_597 : St → Int32 → Int32 → Int32 → Int32 → Prop) (a0 : Nat) (s_j636 : St) (x2j636 : Int32) (x7j636 : Int32) (x8j636 : Int32) (x9j636 : Int32) (z1j636 : Int32) (z2j636 : Int32) : Prop := xS y s_j636 a0 71 z1j636 z2j636 (fun s_136 : St => K_597 s_136 x2j636 x7j636 x8j636 (x9j636 + 1))
def wb_Mo_act_597 (y : Ly) (Post : St → Prop) (K_597 : St → Int32 → Int32 → Int32 → Int32 → Prop) (a0 : Nat) (s_h597 : St) (x2h597 : Int32) (x7h597 : Int32) (x8h597 : Int32) (x9h597 : Int32) : Prop := (((sV s_h597 a0 72) ≤ x9h597 → wj_Mo_act_643 y Post a0 s_h597 x2h597) ∧ (¬ ((sV s_h597 a0 72) ≤ x9h597) → xA y s_h597 a0 71 x9h597 (fun x_135 : Int32 => ((¬ x_135 = x7h597 → xA y s_h597 a0 71 x9h597 (fun x_137 : Int32 => wj_Mo_act_636 y Post K_597 a0 s_h597 x2h597 x7h597 x8h597 x9h597 x9h597 x_137)) ∧ (x_135 = x7h597 → wj_Mo_act_636 y Post K_597 a0 s_h597 x2h597 x7h597 x8h597 x9h597 x9h597 x8h597)))))
def wl_Mo_act_597 (y : Ly) (Post : St → Prop) (a0 : Nat) (s_h597 : St) (x2h597 : Int32) (x7h597 : Int32) (x8h597 : Int32) (x9h597 : Int32) : Prop := ∃ (I : St → Int32 → Int32 → Int32 → Int32 → Prop) (μ : St → Int32 → Int32 → Int32 → Int32 → Nat), I s_h597 x2h597 x7h597 x8h597 x9h597 ∧ ∀ (u : St) (t0 : Int32) (t1 : Int32) (t2 : Int32) (t3 : Int32), I u t0 t1 t2 t3 → wb_Mo_act_597 y Post (fun z t0q t1q t2q t3q => I z t0q t1q t2q t3q ∧ μ z t0q t1q t2q t3q < μ u t0 t1 t2 t3) a0 u t0 t1 t2 t3
def wj_Mo_act_587 (y : Ly) (Post : St → Prop) (K_540 : St → Int32 → Int32 → Int32 → Int32 → Prop) (a0 : Nat) (s_j587 : St) (x2j587 : Int32) (x7j587 : Int32) (x8j587 : Int32) (x9j587 : Int32) (z1j587 : Int32) (z2j587 : Int32) : Prop := xS y s_j587 a0 70 z1j587 z2j587 (fun s_139 : St => K_540 s_139 x2j587 x7j587 x8j587 (x9j587 + 1))
def wb_Mo_act_540 (y : Ly) (Post : St → Prop) (K_540 : St → Int32 → Int32 → Int32 → Int32 → Prop) (a0 : Nat) (s_h540 : St) (x2h540 : Int32) (x7h540 : Int32) (x8h540 : Int32) (x9h540 : Int32) : Prop := ∃ b_131 : Nat, sO s_h540 a0 45 = some b_131 ∧ cl b_131 = 13 ∧ xA y s_h540 b_131 22 (sV s_h540 a0 75) (fun x_134 : Int32 => ((x_134 ≤ x9h540 → wl_Mo_act_597 y Post a0 s_h540 x2h540 x7h540 x8h540 0) ∧ (¬ (x_134 ≤ x9h540) → xA y s_h540 a0 70 x9h540 (fun x_138 : Int32 => ((¬ x_138 = x7h540 → xA y s_h540 a0 70 x9h540 (fun x_140 : Int32 => wj_Mo_act_587 y Post K_540 a0 s_h540 x2h540 x7h540 x8h540 x9h540 x9h540 x_140)) ∧ (x_138 = x7h540 → wj_Mo_act_587 y Post K_540 a0 s_h540 x2h540 x7h540 x8h540 x9h540 x9h540 x8h540))))))
def wl_Mo_act_540 (y : Ly) (Post : St → Prop) (a0 : Nat) (s_h540 : St) (x2h540 : Int32) (x7h540 : Int32) (x8h540 : Int32) (x9h540 : Int32) : Prop := ∃ (I : St → Int32 → Int32 → Int32 → Int32 → Prop) (μ : St → Int32 → Int32 → Int32 → Int32 → Nat), I s_h540 x2h540 x7h540 x8h540 x9h540 ∧ ∀ (u : St) (t0 : Int32) (t1 : Int32) (t2 : Int32) (t3 : Int32), I u t0 t1 t2 t3 → wb_Mo_act_540 y Post (fun z t0q t1q t2q t3q => I z t0q t1q t2q t3q ∧ μ z t0q t1q t2q t3q < μ u t0 t1 t2 t3) a0 u t0 t1 t2 t3
def wj_Mo_act_534 (y : Ly) (Post : St → Prop) (a0 : Nat) (s_j534 : St) (x2j534 : Int32) (x7j534 : Int32) (z0j534 : Int32) (z1j534 : Int32) : Prop := wl_Mo_act_540 y Post a0 s_j534 x2j534 x7j534 (z0j534 + z1j534) 0
def wj_Mo_act_100 (y : Ly) (Post : St → Prop) (a0 : Nat) (s_j100 : St) (x1j100 : Int32) (x2j100 : Int32) (x3j100 : Int32) (x4j100 : Int32) (x5j100 : Int32) (x6j100 : Int32) (z0j100 : Int32) : Prop := xP (uV s_j100 a0 72 ((sV s_j100 a0 72) - (sV s_j100 a0 79))) (fun s_5 : St => ((x1j100 = 1 → ((¬ x1j100 = 42 → wj_Mo_act_364 y Post a0 s_5 1) ∧ (x1j100 = 42 → wj_Mo_act_364 y Post a0 s_5 2))) ∧ (¬ (x1j100 = 1) → ((x1j100 = 2 → wu_Mo_lay y (fun (s_9 : St) => wj_Mo_act_698 y Post a0 s_9) s_5 a0 3) ∧ (¬ (x1j100 = 2) → ((x1j100 = 3 → ((¬ x1j100 = 42 → wj_Mo_act_364 y Post a0 s_5 1) ∧ (x1j100 = 42 → wj_Mo_act_364 y Post a0 s_5 2))) ∧ (¬ (x1j100 = 3) → ((x1j100 = 4 → xA y s_5 a0 70 x4j100 (fun x_12 : Int32 => wu_Mo_lay y (fun (s_14 : St) => wj_Mo_act_698 y Post a0 s_14) s_5 a0 x_12)) ∧ (¬ (x1j100 = 4) → ((x1j100 = 5 → xS y s_5 a0 70 x4j100 1 (fun s_15 : St => wj_Mo_act_698 y Post a0 s_15)) ∧ (¬ (x1j100 = 5) → ((x1j100 = 6 → xS y s_5 a0 70 x4j100 x5j100 (fun s_16 : St => wj_Mo_act_698 y Post a0 s_16)) ∧ (¬ (x1j100 = 6) → ((x1j100 = 7 → ((x1j100 < 8 → wj_Mo_act_698 y Post a0 s_5) ∧ (¬ (x1j100 < 8) → ((18 < x1j100 → wj_Mo_act_698 y Post a0 s_5) ∧ (¬ (18 < x1j100) → wu_Mo_lay y (fun (s_18 : St) => wj_Mo_act_698 y Post a0 s_18) s_5 a0 1))))) ∧ (¬ (x1j100 = 7) → ((x1j100 = 8 → ((x1j100 < 8 → wj_Mo_act_698 y Post a0 s_5) ∧ (¬ (x1j100 < 8) → ((18 < x1j100 → wj_Mo_act_698 y Post a0 s_5) ∧ (¬ (18 < x1j100) → wu_Mo_lay y (fun (s_20 : St) => wj_Mo_act_698 y Post a0 s_20) s_5 a0 1))))) ∧ (¬ (x1j100 = 8) → ((x1j100 = 9 → ((x1j100 < 8 → wj_Mo_act_698 y Post a0 s_5) ∧ (¬ (x1j100 < 8) → ((18 < x1j100 → wj_Mo_act_698 y Post a0 s_5) ∧ (¬ (18 < x1j100) → wu_Mo_lay y (fun (s_22 : St) => wj_Mo_act_698 y Post a0 s_22) s_5 a0 1))))) ∧ (¬ (x1j100 = 9) → ((x1j100 = 10 → ((x1j100 < 8 → wj_Mo_act_698 y Post a0 s_5) ∧ (¬ (x1j100 < 8) → ((18 < x1j100 → wj_Mo_act_698 y Post a0 s_5) ∧ (¬ (18 < x1j100) → wu_Mo_lay y (fun (s_24 : St) => wj_Mo_act_698 y Post a0 s_24) s_5 a0 1))))) ∧ (¬ (x1j100 = 10) → ((x1j100 = 11 → ((x1j100 < 8 → wj_Mo_act_698 y Post a0 s_5) ∧ (¬ (x1j100 < 8) → ((18 < x1j100 → wj_Mo_act_698 y Post a0 s_5) ∧ (¬ (18 < x1j100) → wu_Mo_lay y (fun (s_26 : St) => wj_Mo_act_698 y Post a0 s_26) s_5 a0 1))))) ∧ (¬ (x1j100 = 11) → ((x1j100 = 12 → ((x1j100 < 8 → wj_Mo_act_698 y Post a0 s_5) ∧ (¬ (x1j100 < 8) → ((18 < x1j100 → wj_Mo_act_698 y Post a0 s_5) ∧ (¬ (18 < x1j100) → wu_Mo_lay y (fun (s_28 : St) => wj_Mo_act_698 y Post a0 s_28) s_5 a0 1))))) ∧ (¬ (x1j100 = 12) → ((x1j100 = 13 → ((x1j100 < 8 → wj_Mo_act_698 y Post a0 s_5) ∧ (¬ (x1j100 < 8) → ((18 < x1j100 → wj_Mo_act_698 y Post a0 s_5) ∧ (¬ (18 < x1j100) → wu_Mo_lay y (fun (s_30 : St) => wj_Mo_act_698 y Post a0 s_30) s_5 a0 1))))) ∧ (¬ (x1j100 = 13) → ((x1j100 = 14 → ((x1j100 < 8 → wj_Mo_act_698 y Post a0 s_5) ∧ (¬ (x1j100 < 8) → ((18 < x1j100 → wj_Mo_act_698 y Post a0 s_5) ∧ (¬ (18 < x1j100) → wu_Mo_lay y (fun (s_32 : St) => wj_Mo_act_698 y Post a0 s_32) s_5 a0 1))))) ∧ (¬ (x1j100 = 14) → ((x1j100 = 15 → ((x1j100 < 8 → wj_Mo_act_698 y Post a0 s_5) ∧ (¬ (x1j100 < 8) → ((18 < x1j100 → wj_Mo_act_698 y Post a0 s_5) ∧ (¬ (18 < x1j100) → wu_Mo_lay y (fun (s_34 : St) => wj_Mo_act_698 y Post a0 s_34) s_5 a0 1))))) ∧ (¬ (x1j100 = 15) → ((x1j100 = 16 → ((x1j100 < 8 → wj_Mo_act_698 y Post a0 s_5) ∧ (¬ (x1j100 < 8) → ((18 < x1j100 → wj_Mo_act_698 y Post a0 s_5) ∧ (¬ (18 < x1j100) → wu_Mo_lay y (fun (s_36 : St) => wj_Mo_act_698 y Post a0 s_36) s_5 a0 1))))) ∧ (¬ (x1j100 = 16) → ((x1j100 = 17 → ((x1j100 < 8 → wj_Mo_act_698 y Post a0 s_5) ∧ (¬ (x1j100 < 8) → ((18 < x1j100 → wj_Mo_act_698 y Post a0 s_5) ∧ (¬ (18 < x1j100) → wu_Mo_lay y (fun (s_38 : St) => wj_Mo_act_698 y Post a0 s_38) s_5 a0 1))))) ∧ (¬ (x1j100 = 17) → ((x1j100 = 18 → ((x1j100 < 8 → wj_Mo_act_698 y Post a0 s_5) ∧ (¬ (x1j100 < 8) → ((18 < x1j100 → wj_Mo_act_698 y Post a0 s_5) ∧ (¬ (18 < x1j100) → wu_Mo_lay y (fun (s_40 : St) => wj_Mo_act_698 y Post a0 s_40) s_5 a0 1))))) ∧ (¬ (x1j100 = 18) → ((x1j100 = 19 → ((x1j100 < 8 → wj_Mo_act_698 y Post a0 s_5) ∧ (¬ (x1j100 < 8) → ((18 < x1j100 → wj_Mo_act_698 y Post a0 s_5) ∧ (¬ (18 < x1j100) → wu_Mo_lay y (fun (s_42 : St) => wj_Mo_act_698 y Post a0 s_42) s_5 a0 1))))) ∧ (¬ (x1j100 = 19) → ((x1j100 = 20 → wu_Mo_lay y (fun (s_44 : St) => wu_Mo_lay y (fun (s_46 : St) => wj_Mo_act_698 y Post a0 s_46) s_44 a0 x5j100) s_5 a0 x5j100) ∧ (¬ (x1j100 = 20) → ((x1j100 = 21 → wu_Mo_lay y (fun (s_48 : St) => wu_Mo_lay y (fun (s_50 : St) => wu_Mo_lay y (fun (s_52 : St) => wj_Mo_act_698 y Post a0 s_52) s_50 a0 x5j100) s_48 a0 x6j100) s_5 a0 x5j100) ∧ (¬ (x1j100 = 21) → ((x1j100 = 22 → wu_Mo_lay y (fun (s_54 : St) => wu_Mo_lay y (fun (s_56 : St) => wj_Mo_act_698 y Post a0 s_56) s_54 a0 x6j100) s_5 a0 x5j100) ∧ (¬ (x1j100 = 22) → ((x1j100 = 23 → ((x1j100 < 8 → wj_Mo_act_698 y Post a0 s_5) ∧ (¬ (x1j100 < 8) → ((18 < x1j100 → wj_Mo_act_698 y Post a0 s_5) ∧ (¬ (18 < x1j100) → wu_Mo_lay y (fun (s_58 : St) => wj_Mo_act_698 y Post a0 s_58) s_5 a0 1))))) ∧ (¬ (x1j100 = 23) → ((x1j100 = 24 → ((x1j100 < 8 → wj_Mo_act_698 y Post a0 s_5) ∧ (¬ (x1j100 < 8) → ((18 < x1j100 → wj_Mo_act_698 y Post a0 s_5) ∧ (¬ (18 < x1j100) → wu_Mo_lay y (fun (s_60 : St) => wj_Mo_act_698 y Post a0 s_60) s_5 a0 1))))) ∧ (¬ (x1j100 = 24) → ((x1j100 = 25 → ((x1j100 < 8 → wj_Mo_act_698 y Post a0 s_5) ∧ (¬ (x1j100 < 8) → ((18 < x1j100 → wj_Mo_act_698 y Post a0 s_5) ∧ (¬ (18 < x1j100) → wu_Mo_lay y (fun (s_62 : St) => wj_Mo_act_698 y Post a0 s_62) s_5 a0 1))))) ∧ (¬ (x1j100 = 25) → ((x1j100 = 26 → ((x1j100 < 8 → wj_Mo_act_698 y Post a0 s_5) ∧ (¬ (x1j100 < 8) → ((18 < x1j100 → wj_Mo_act_698 y Post a0 s_5) ∧ (¬ (18 < x1j100) → wu_Mo_lay y (fun (s_64 : St) => wj_Mo_act_698 y Post a0 s_64) s_5 a0 1))))) ∧ (¬ (x1j100 = 26) → ((x1j100 = 27 → ((x1j100 < 8 → wj_Mo_act_698 y Post a0 s_5) ∧ (¬ (x1j100 < 8) → ((18 < x1j100 → wj_Mo_act_698 y Post a0 s_5) ∧ (¬ (18 < x1j100) → wu_Mo_lay y (fun (s_66 : St) => wj_Mo_act_698 y Post a0 s_66) s_5 a0 1))))) ∧ (¬ (x1j100 = 27) → ((x1j100 = 28 → ((x1j100 < 8 → wj_Mo_act_698 y Post a0 s_5) ∧ (¬ (x1j100 < 8) → ((18 < x1j100 → wj_Mo_act_698 y Post a0 s_5) ∧ (¬ (18 < x1j100) → wu_Mo_lay y (fun (s_68 : St) => wj_Mo_act_698 y Post a0 s_68) s_5 a0 1))))) ∧ (¬ (x1j100 = 28) → ((x1j100 = 29 → ((x1j100 < 8 → wj_Mo_act_698 y Post a0 s_5) ∧ (¬ (x1j100 < 8) → ((18 < x1j100 → wj_Mo_act_698 y Post a0 s_5) ∧ (¬ (18 < x1j100) → wu_Mo_lay y (fun (s_70 : St) => wj_Mo_act_698 y Post a0 s_70) s_5 a0 1))))) ∧ (¬ (x1j100 = 29) → ((x1j100 = 30 → ((x1j100 < 8 → wj_Mo_act_698 y Post a0 s_5) ∧ (¬ (x1j100 < 8) → ((18 < x1j100 → wj_Mo_act_698 y Post a0 s_5) ∧ (¬ (18 < x1j100) → wu_Mo_lay y (fun (s_72 : St) => wj_Mo_act_698 y Post a0 s_72) s_5 a0 1))))) ∧ (¬ (x1j100 = 30) → ((x1j100 = 31 → ((x1j100 < 8 → wj_Mo_act_698 y Post a0 s_5) ∧ (¬ (x1j100 < 8) → ((18 < x1j100 → wj_Mo_act_698 y Post a0 s_5) ∧ (¬ (18 < x1j100) → wu_Mo_lay y (fun (s_74 : St) => wj_Mo_act_698 y Post a0 s_74) s_5 a0 1))))) ∧ (¬ (x1j100 = 31) → ((x1j100 = 32 → ((x1j100 < 8 → wj_Mo_act_698 y Post a0 s_5) ∧ (¬ (x1j100 < 8) → ((18 < x1j100 → wj_Mo_act_698 y Post a0 s_5) ∧ (¬ (18 < x1j100) → wu_Mo_lay y (fun (s_76 : St) => wj_Mo_act_698 y Post a0 s_76) s_5 a0 1))))) ∧ (¬ (x1j100 = 32) → ((x1j100 = 33 → ((x1j100 < 8 → wj_Mo_act_698 y Post a0 s_5) ∧ (¬ (x1j100 < 8) → ((18 < x1j100 → wj_Mo_act_698 y Post a0 s_5) ∧ (¬ (18 < x1j100) → wu_Mo_lay y (fun (s_78 : St) => wj_Mo_act_698 y Post a0 s_78) s_5 a0 1))))) ∧ (¬ (x1j100 = 33) → ((x1j100 = 34 → ((x1j100 < 8 → wj_Mo_act_698 y Post a0 s_5) ∧ (¬ (x1j100 < 8) → ((18 < x1j100 → wj_Mo_act_698 y Post a0 s_5) ∧ (¬ (18 < x1j100) → wu_Mo_lay y (fun (s_80 : St) => wj_Mo_act_698 y Post a0 s_80) s_5 a0 1))))) ∧ (¬ (x1j100 = 34) → ((x1j100 = 35 → ((x1j100 < 8 → wj_Mo_act_698 y Post a0 s_5) ∧ (¬ (x1j100 < 8) → ((18 < x1j100 → wj_Mo_act_698 y Post a0 s_5) ∧ (¬ (18 < x1j100) → wu_Mo_lay y (fun (s_82 : St) => wj_Mo_act_698 y Post a0 s_82) s_5 a0 1))))) ∧ (¬ (x1j100 = 35) → ((x1j100 = 36 → ((x1j100 < 8 → wj_Mo_act_698 y Post a0 s_5) ∧ (¬ (x1j100 < 8) → ((18 < x1j100 → wj_Mo_act_698 y Post a0 s_5) ∧ (¬ (18 < x1j100) → wu_Mo_lay y (fun (s_84 : St) => wj_Mo_act_698 y Post a0 s_84) s_5 a0 1))))) ∧ (¬ (x1j100 = 36) → ((x1j100 = 37 → ((x1j100 < 8 → wj_Mo_act_698 y Post a0 s_5) ∧ (¬ (x1j100 < 8) → ((18 < x1j100 → wj_Mo_act_698 y Post a0 s_5) ∧ (¬ (18 < x1j100) → wu_Mo_lay y (fun (s_86 : St) => wj_Mo_act_698 y Post a0 s_86) s_5 a0 1))))) ∧ (¬ (x1j100 = 37) → ((x1j100 = 38 → ((x1j100 < 8 → wj_Mo_act_698 y Post a0 s_5) ∧ (¬ (x1j100 < 8) → ((18 < x1j100 → wj_Mo_act_698 y Post a0 s_5) ∧ (¬ (18 < x1j100) → wu_Mo_lay y (fun (s_88 : St) => wj_Mo_act_698 y Post a0 s_88) s_5 a0 1))))) ∧ (¬ (x1j100 = 38) → ((x1j100 = 39 → ((x1j100 < 8 → wj_Mo_act_698 y Post a0 s_5) ∧ (¬ (x1j100 < 8) → ((18 < x1j100 → wj_Mo_act_698 y Post a0 s_5) ∧ (¬ (18 < x1j100) → wu_Mo_lay y (fun (s_90 : St) => wj_Mo_act_698 y Post a0 s_90) s_5 a0 1))))) ∧ (¬ (x1j100 = 39) → ((x1j100 = 40 → ((x1j100 < 8 → wj_Mo_act_698 y Post a0 s_5) ∧ (¬ (x1j100 < 8) → ((18 < x1j100 → wj_Mo_act_698 y Post a0 s_5) ∧ (¬ (18 < x1j100) → wu_Mo_lay y (fun (s_92 : St) => wj_Mo_act_698 y Post a0 s_92) s_5 a0 1))))) ∧ (¬ (x1j100 = 40) → ((x1j100 = 41 → wu_Mo_lay y (fun (s_94 : St) => wj_Mo_act_698 y Post a0 s_94) s_5 a0 ((-1) - x3j100)) ∧ (¬ (x1j100 = 41) → ((x1j100 = 42 → ((¬ x1j100 = 42 → wj_Mo_act_364 y Post a0 s_5 1) ∧ (x1j100 = 42 → wj_Mo_act_364 y Post a0 s_5 2))) ∧ (¬ (x1j100 = 42) → ((x1j100 = 43 → ((¬ x1j100 = 42 → wj_Mo_act_364 y Post a0 s_5 1) ∧ (x1j100 = 42 → wj_Mo_act_364 y Post a0 s_5 2))) ∧ (¬ (x1j100 = 43) → ((x1j100 = 44 → ((x1j100 < 8 → wj_Mo_act_698 y Post a0 s_5) ∧ (¬ (x1j100 < 8) → ((18 < x1j100 → wj_Mo_act_698 y Post a0 s_5) ∧ (¬ (18 < x1j100) → wu_Mo_lay y (fun (s_100 : St) => wj_Mo_act_698 y Post a0 s_100) s_5 a0 1))))) ∧ (¬ (x1j100 = 44) → ((x1j100 = 45 → ((¬ x1j100 = 42 → wj_Mo_act_364 y Post a0 s_5 1) ∧ (x1j100 = 42 → wj_Mo_act_364 y Post a0 s_5 2))) ∧ (¬ (x1j100 = 45) → ((x1j100 = 46 → ∃ b_103 : Nat, sO s_5 a0 45 = some b_103 ∧ cl b_103 = 13 ∧ xA y s_5 b_103 33 x2j100 (fun x_106 : Int32 => wu_Mo_lay y (fun (s_108 : St) => wj_Mo_act_698 y Post a0 s_108) s_5 a0 x_106)) ∧ (¬ (x1j100 = 46) → ((x1j100 = 47 → ((x1j100 < 8 → wj_Mo_act_698 y Post a0 s_5) ∧ (¬ (x1j100 < 8) → ((18 < x1j100 → wj_Mo_act_698 y Post a0 s_5) ∧ (¬ (18 < x1j100) → wu_Mo_lay y (fun (s_110 : St) => wj_Mo_act_698 y Post a0 s_110) s_5 a0 1))))) ∧ (¬ (x1j100 = 47) → ((x1j100 = 48 → ∃ b_111 : Nat, sO s_5 a0 45 = some b_111 ∧ cl b_111 = 13 ∧ xA y s_5 b_111 33 x2j100 (fun x_114 : Int32 => wu_Mo_lay y (fun (s_116 : St) => wj_Mo_act_698 y Post a0 s_116) s_5 a0 x_114)) ∧ (¬ (x1j100 = 48) → ((x1j100 = 49 → ((x1j100 < 8 → wj_Mo_act_698 y Post a0 s_5) ∧ (¬ (x1j100 < 8) → ((18 < x1j100 → wj_Mo_act_698 y Post a0 s_5) ∧ (¬ (18 < x1j100) → wu_Mo_lay y (fun (s_118 : St) => wj_Mo_act_698 y Post a0 s_118) s_5 a0 1))))) ∧ (¬ (x1j100 = 49) → ((x1j100 = 50 → ((z0j100 = 0 → wj_Mo_act_643 y Post a0 s_5 x2j100) ∧ (¬ (z0j100 = 0) → ((¬ z0j100 = 5 → wj_Mo_act_534 y Post a0 s_5 x2j100 z0j100 16 x4j100) ∧ (z0j100 = 5 → ∃ b_141 : Nat, sO s_5 a0 45 = some b_141 ∧ cl b_141 = 13 ∧ xA y s_5 b_141 3 (sV s_5 a0 76) (fun x_144 : Int32 => wj_Mo_act_534 y Post a0 s_5 x2j100 z0j100 16 x_144)))))) ∧ (¬ (x1j100 = 50) → ((x1j100 = 51 → ((z0j100 = 0 → wj_Mo_act_643 y Post a0 s_5 x2j100) ∧ (¬ (z0j100 = 0) → ((¬ z0j100 = 5 → wj_Mo_act_534 y Post a0 s_5 x2j100 z0j100 16 x4j100) ∧ (z0j100 = 5 → ∃ b_167 : Nat, sO s_5 a0 45 = some b_167 ∧ cl b_167 = 13 ∧ xA y s_5 b_167 3 (sV s_5 a0 76) (fun x_170 : Int32 => wj_Mo_act_534 y Post a0 s_5 x2j100 z0j100 16 x_170)))))) ∧ (¬ (x1j100 = 51) → ((x1j100 = 52 → ((z0j100 = 0 → wj_Mo_act_643 y Post a0 s_5 x2j100) ∧ (¬ (z0j100 = 0) → ((¬ z0j100 = 5 → wj_Mo_act_534 y Post a0 s_5 x2j100 z0j100 16 x4j100) ∧ (z0j100 = 5 → ∃ b_193 : Nat, sO s_5 a0 45 = some b_193 ∧ cl b_193 = 13 ∧ xA y s_5 b_193 3 (sV s_5 a0 76) (fun x_196 : Int32 => wj_Mo_act_534 y Post a0 s_5 x2j100 z0j100 16 x_196)))))) ∧ (¬ (x1j100 = 52) → ((x1j100 = 53 → ((z0j100 = 0 → wj_Mo_act_643 y Post a0 s_5 x2j100) ∧ (¬ (z0j100 = 0) → ((¬ z0j100 = 5 → wj_Mo_act_534 y Post a0 s_5 x2j100 z0j100 16 x4j100) ∧ (z0j100 = 5 → ∃ b_219 : Nat, sO s_5 a0 45 = some b_219 ∧ cl b_219 = 13 ∧ xA y s_5 b_219 3 (sV s_5 a0 76) (fun x_222 : Int32 => wj_Mo_act_534 y Post a0 s_5 x2j100 z0j100 16 x_222)))))) ∧ (¬ (x1j100 = 53) → ((x1j100 = 54 → wu_Mo_lay y (fun (s_224 : St) => wj_Mo_act_698 y Post a0 s_224) s_5 a0 (16 + x4j100)) ∧ (¬ (x1j100 = 54) → ((x1j100 = 55 → ((¬ x1j100 = 42 → wj_Mo_act_364 y Post a0 s_5 1) ∧ (x1j100 = 42 → wj_Mo_act_364 y Post a0 s_5 2))) ∧ (¬ (x1j100 = 55) → ((x1j100 < 8 → wj_Mo_act_698 y Post a0 s_5) ∧ (¬ (x1j100 < 8) → ((18 < x1j100 → wj_Mo_act_698 y Post a0 s_5) ∧ (¬ (18 < x1j100) → wu_Mo_lay y (fun (s_228 : St) => wj_Mo_act_698 y Post a0 s_228) s_5 a0 1)))))))))))))))))))))))))))))))))))))))))))))))))))))))))))))))))))))))))))))))))))))))))))))))))))))))))))))))))))
def wj_Mo_act_99 (y : Ly) (Post : St → Prop) (a0 : Nat) (s_j99 : St) (x1j99 : Int32) (x2j99 : Int32) (x3j99 : Int32) (x4j99 : Int32) (x5j99 : Int32) (x6j99 : Int32) : Prop := wj_Mo_act_100 y Post a0 s_j99 x1j99 x2j99 x3j99 x4j99 x5j99 x6j99 0
def wj_Mo_act_58 (y : Ly) (Post : St → Prop) (a0 : Nat) (s_j58 : St) (x1j58 : Int32) (x2j58 : Int32) (x3j58 : Int32) (x4j58 : Int32) (x5j58 : Int32) (z0j58 : Int32) : Prop := ((¬ x1j58 = 51 → wj_Mo_act_99 y Post a0 s_j58 x1j58 x2j58 x3j58 x4j58 x5j58 z0j58) ∧ (x1j58 = 51 → ∃ b_229 : Nat, sO s_j58 a0 45 = some b_229 ∧ cl b_229 = 13 ∧ xA y s_j58 b_229 32 x2j58 (fun x_232 : Int32 => ((¬ x_232 = (sV s_j58 a0 6) → wj_Mo_act_99 y Post a0 s_j58 x1j58 x2j58 x3j58 x4j58 x5j58 z0j58) ∧ (x_232 = (sV s_j58 a0 6) → xA y s_j58 a0 71 ((sV s_j58 a0 72) - (sV s_j58 a0 79)) (fun x_233 : Int32 => wj_Mo_act_100 y Post a0 s_j58 x1j58 x2j58 x3j58 x4j58 x5j58 z0j58 x_233))))))
def wj_Mo_act_33 (y : Ly) (Post : St → Prop) (a0 : Nat) (s_j33 : St) (x1j33 : Int32) (x2j33 : Int32) (x3j33 : Int32) (x4j33 : Int32) (z0j33 : Int32) : Prop := (((sV s_j33 a0 72) ≤ 1 → wj_Mo_act_58 y Post a0 s_j33 x1j33 x2j33 x3j33 x4j33 z0j33 0) ∧ (¬ ((sV s_j33 a0 72) ≤ 1) → xA y s_j33 a0 71 ((sV s_j33 a0 72) - 2) (fun x_234 : Int32 => wj_Mo_act_58 y Post a0 s_j33 x1j33 x2j33 x3j33 x4j33 z0j33 x_234)))
def wu_Mo_act (y : Ly) (Post : St → Prop) (σ : St) (a0 : Nat) (v1 : Int32) (v2 : Int32) (v3 : Int32) : Prop := ∃ b_1 : Nat, sO σ a0 45 = some b_1 ∧ cl b_1 = 13 ∧ xA y σ b_1 31 v2 (fun x_4 : Int32 => (((sV σ a0 72) ≤ 0 → wj_Mo_act_33 y Post a0 σ v1 v2 v3 x_4 0) ∧ (¬ ((sV σ a0 72) ≤ 0) → xA y σ a0 71 ((sV σ a0 72) - 1) (fun x_235 : Int32 => wj_Mo_act_33 y Post a0 σ v1 v2 v3 x_4 x_235))))
set_option maxHeartbeats 4000000 in
set_option maxRecDepth 100000 in
theorem cu_Mo_act (l : Launch) (D : va_G) (g : Nat → ClassId) (ad : Nat → Nat) (y : Ly) (Post : St → Prop) (σ : St) (a0 : Nat) (v1 : Int32) (v2 : Int32) (v3 : Int32) (sz : Nat) (h_a0 : cl a0 = 14) (h : wu_Mo_act y Post σ a0 v1 v2 v3) : Met l y_Mo_act (mw y_Mo_act b_Mo_act 10 (none)) ru_Mo_act (PC g D [] [.ref (ad a0), .int v1, .int v2, .int v3] sz (ws g ad y σ)) (va_Qv (fun u : St => Post u) (QW D (va_A (ws g ad y σ) sz) (fun u => ws g ad y u)) (va_A (ws g ad y σ) sz)) 0 0 (va_A (ws g ad y σ) sz) := by
  refine ofV (by decide +kernel) (Nat.le_of_ble_eq_true rfl) ?_
  intro p e s m args below meth c A Q ls H locs G hsz hP hD hS hl hret
  subst hsz
  have hl : lv_has ls 10 [(0, .ref (ad a0)), (1, .int v1), (2, .int v2), (3, .int v3)] := hl
  unfold wu_Mo_act at h
  refine lv_aload_n G.1 G.2.1 d_Mo_act_0 rfl (lv_at hl 0 rfl) ?_
  obtain ⟨b_1, e_2, c_3, h⟩ := h
  refine ugf (v := .ref (ad b_1)) G hP h_a0 iMo rfl 45 (by decide) rfl q3109 rfl (by show va_rf ((sO σ a0 45).map ad) = _; rw [e_2]; rfl) d_Mo_act_1 ?_
  refine ugfN (v := .ref (yP y b_1 31)) G hP c_3 iMw rfl 31 (by decide) rfl q2766 rfl rfl d_Mo_act_4 ?_
  refine lv_iload_n G.1 G.2.1 d_Mo_act_7 rfl (lv_at hl 2 rfl) ?_
  refine uiald G hP (kdp c_3 rfl) (typ c_3 rfl) h d_Mo_act_8 (fun x_4 h => ?_)
  refine lv_istore (lv' := [(4, .int x_4), (0, .ref (ad a0)), (1, .int v1), (2, .int v2), (3, .int v3)]) G.1 G.2.1 d_Mo_act_9 hl (by decide) rfl (fun ls hl => ?_)
  refine lv_aload_n G.1 G.2.1 d_Mo_act_11 rfl (lv_at hl 1 rfl) ?_
  refine ugf (v := .int (sV σ a0 72)) G hP h_a0 iMo rfl 72 (by decide) rfl q3136 rfl rfl d_Mo_act_12 ?_
  have J_33 : ∀ (s_j33 : St) (x1j33 : Int32) (x2j33 : Int32) (x3j33 : Int32) (x4j33 : Int32) (z0j33 : Int32) (H : Heap) (locs : List Loc), wj_Mo_act_33 y Post a0 s_j33 x1j33 x2j33 x3j33 x4j33 z0j33 → va_P D CL (ws g ad y s_j33) H → va_D A (ws g ad y s_j33) → va_S A s.heap H locs → ∀ ls, lv_has ls 10 [(0, .ref (ad a0)), (1, .int x1j33), (2, .int x2j33), (3, .int x3j33), (4, .int x4j33)] → W p l e ru_Mo_act s m args below meth c H locs 0 0 Q (F0 m 33 ls [.int z0j33]) := by
    intro s_j33 x1j33 x2j33 x3j33 x4j33 z0j33 H locs h hP hD hS ls hl
    unfold wj_Mo_act_33 at h
    refine lv_istore (lv' := [(5, .int z0j33), (0, .ref (ad a0)), (1, .int x1j33), (2, .int x2j33), (3, .int x3j33), (4, .int x4j33)]) G.1 G.2.1 d_Mo_act_33 hl (by decide) rfl (fun ls hl => ?_)
    refine lv_aload_n G.1 G.2.1 d_Mo_act_35 rfl (lv_at hl 1 rfl) ?_
    refine ugf (v := .int (sV s_j33 a0 72)) G hP h_a0 iMo rfl 72 (by decide) rfl q3136 rfl rfl d_Mo_act_36 ?_
    refine lv_iconst (v := 1) G.1 G.2.1 d_Mo_act_39 (by decide) ?_
    have J_58 : ∀ (s_j58 : St) (x1j58 : Int32) (x2j58 : Int32) (x3j58 : Int32) (x4j58 : Int32) (x5j58 : Int32) (z0j58 : Int32) (H : Heap) (locs : List Loc), wj_Mo_act_58 y Post a0 s_j58 x1j58 x2j58 x3j58 x4j58 x5j58 z0j58 → va_P D CL (ws g ad y s_j58) H → va_D A (ws g ad y s_j58) → va_S A s.heap H locs → ∀ ls, lv_has ls 10 [(0, .ref (ad a0)), (1, .int x1j58), (2, .int x2j58), (3, .int x3j58), (4, .int x4j58), (5, .int x5j58)] → W p l e ru_Mo_act s m args below meth c H locs 0 0 Q (F0 m 58 ls [.int z0j58]) := by
      intro s_j58 x1j58 x2j58 x3j58 x4j58 x5j58 z0j58 H locs h hP hD hS ls hl
      unfold wj_Mo_act_58 at h
      refine lv_istore (lv' := [(6, .int z0j58), (0, .ref (ad a0)), (1, .int x1j58), (2, .int x2j58), (3, .int x3j58), (4, .int x4j58), (5, .int x5j58)]) G.1 G.2.1 d_Mo_act_58 hl (by decide) rfl (fun ls hl => ?_)
      refine lv_iload_n G.1 G.2.1 d_Mo_act_60 rfl (lv_at hl 2 rfl) ?_
      refine lv_bipush (v := 51) G.1 G.2.1 d_Mo_act_61 (by decide) ?_
      have J_100 : ∀ (s_j100 : St) (x1j100 : Int32) (x2j100 : Int32) (x3j100 : Int32) (x4j100 : Int32) (x5j100 : Int32) (x6j100 : Int32) (z0j100 : Int32) (H : Heap) (locs : List Loc), wj_Mo_act_100 y Post a0 s_j100 x1j100 x2j100 x3j100 x4j100 x5j100 x6j100 z0j100 → va_P D CL (ws g ad y s_j100) H → va_D A (ws g ad y s_j100) → va_S A s.heap H locs → ∀ ls, lv_has ls 10 [(0, .ref (ad a0)), (1, .int x1j100), (2, .int x2j100), (3, .int x3j100), (4, .int x4j100), (5, .int x5j100), (6, .int x6j100)] → W p l e ru_Mo_act s m args below meth c H locs 0 0 Q (F0 m 100 ls [.int z0j100]) := by
        intro s_j100 x1j100 x2j100 x3j100 x4j100 x5j100 x6j100 z0j100 H locs h hP hD hS ls hl
        unfold wj_Mo_act_100 at h
        refine lv_istore (lv' := [(7, .int z0j100), (0, .ref (ad a0)), (1, .int x1j100), (2, .int x2j100), (3, .int x3j100), (4, .int x4j100), (5, .int x5j100), (6, .int x6j100)]) G.1 G.2.1 d_Mo_act_100 hl (by decide) rfl (fun ls hl => ?_)
        refine lv_aload_n G.1 G.2.1 d_Mo_act_102 rfl (lv_at hl 1 rfl) ?_
        refine lv_dup G.1 G.2.1 d_Mo_act_103 rfl ?_
        refine ugf (v := .int (sV s_j100 a0 72)) G hP h_a0 iMo rfl 72 (by decide) rfl q3136 rfl rfl d_Mo_act_104 ?_
        refine lv_aload_n G.1 G.2.1 d_Mo_act_107 rfl (lv_at hl 1 rfl) ?_
        refine ugf (v := .int (sV s_j100 a0 79)) G hP h_a0 iMo rfl 79 (by decide) rfl q3143 rfl rfl d_Mo_act_108 ?_
        refine lv_isub G.1 G.2.1 d_Mo_act_111 ?_
        refine upf G hP hD hS h 72 putV h_a0 iMo tMo tMo_ok nMo rfl (by decide) rfl q3136 rfl rfl fV rfl rfl d_Mo_act_112 (fun s_5 H locs h hP hD hS => ?_)
        refine lv_iload_n G.1 G.2.1 d_Mo_act_115 rfl (lv_at hl 2 rfl) ?_
        have J_698 : ∀ (s_j698 : St) (H : Heap) (locs : List Loc), wj_Mo_act_698 y Post a0 s_j698 → va_P D CL (ws g ad y s_j698) H → va_D A (ws g ad y s_j698) → va_S A s.heap H locs → ∀ ls, lv_has ls 10 [] → W p l e ru_Mo_act s m args below meth c H locs 0 0 Q (F0 m 698 ls []) := by
          intro s_j698 H locs h hP hD hS ls hl
          unfold wj_Mo_act_698 at h
          exact hret _ _ _ _ _ _ ls h hP hD hS (Nat.le_refl _) (Nat.le_refl _) d_Mo_act_698
        by_cases e116_1 : x1j100 = 1
        · skip
          have h := h.1 e116_1
          refine lv_tableIn (off := 236) (tgt := 352) G.1 G.2.1 d_Mo_act_116 (by rw [e116_1]; decide) (by rw [e116_1]; decide) (by rw [e116_1]; rfl) (by decide) ?_
          refine lv_aload_n G.1 G.2.1 d_Mo_act_352 rfl (lv_at hl 1 rfl) ?_
          refine W.eq (g2 := F0 m 353 ls [.ref (ad a0)]) rfl ?_
          refine lv_iload_n G.1 G.2.1 d_Mo_act_353 rfl (lv_at hl 2 rfl) ?_
          refine lv_bipush (v := 42) G.1 G.2.1 d_Mo_act_354 (by decide) ?_
          have J_364 : ∀ (s_j364 : St) (z1j364 : Int32) (H : Heap) (locs : List Loc), wj_Mo_act_364 y Post a0 s_j364 z1j364 → va_P D CL (ws g ad y s_j364) H → va_D A (ws g ad y s_j364) → va_S A s.heap H locs → ∀ ls, lv_has ls 10 [] → W p l e ru_Mo_act s m args below meth c H locs 0 0 Q (F0 m 364 ls [.int z1j364, .ref (ad a0)]) := by
            intro s_j364 z1j364 H locs h hP hD hS ls hl
            unfold wj_Mo_act_364 at h
            refine ucVv (As := [.int z1j364]) (rest := []) G hP hD hS (cu_Mo_lay l D g ad y _ s_j364 a0 z1j364 H.size h_a0 h) w9_Mo_lay q3779 ⟨Nat.le_of_ble_eq_true rfl, Nat.le_of_ble_eq_true rfl⟩ rfl rfl h_a0 (q := (RMo, TMo, 131)) rfl rfl hl.1 rfl (Nat.le_of_ble_eq_true rfl) rfl ⟨Nat.le_refl _, Nat.le_refl _⟩ d_Mo_act_364 (fun s_7 H locs h hP hD hS => ?_)
            refine lv_goto (tgt := 698) G.1 G.2.1 d_Mo_act_367 (by decide) ?_
            exact J_698 s_7 H locs h hP hD hS ls (lv_sub hl [] rfl)
          refine lv_icmp_ne (tgt := 363) G.1 G.2.1 d_Mo_act_356 (by decide) (fun c356 => ?_) (fun c356 => ?_)
          · skip
            have h := h.1 c356
            refine lv_iconst (v := 1) G.1 G.2.1 d_Mo_act_363 (by decide) ?_
            exact J_364 s_5 1 H locs h hP hD hS ls (lv_sub hl [] rfl)
          · skip
            have h := h.2 c356
            refine lv_iconst (v := 2) G.1 G.2.1 d_Mo_act_359 (by decide) ?_
            refine lv_goto (tgt := 364) G.1 G.2.1 d_Mo_act_360 (by decide) ?_
            exact J_364 s_5 2 H locs h hP hD hS ls (lv_sub hl [] rfl)
        replace h := h.2 e116_1
        by_cases e116_2 : x1j100 = 2
        · skip
          have h := h.1 e116_2
          refine lv_tableIn (off := 254) (tgt := 370) G.1 G.2.1 d_Mo_act_116 (by rw [e116_2]; decide) (by rw [e116_2]; decide) (by rw [e116_2]; rfl) (by decide) ?_
          refine lv_aload_n G.1 G.2.1 d_Mo_act_370 rfl (lv_at hl 1 rfl) ?_
          refine W.eq (g2 := F0 m 371 ls [.ref (ad a0)]) rfl ?_
          refine lv_iconst (v := 3) G.1 G.2.1 d_Mo_act_371 (by decide) ?_
          refine ucVv (As := [.int 3]) (rest := []) G hP hD hS (cu_Mo_lay l D g ad y _ s_5 a0 3 H.size h_a0 h) w9_Mo_lay q3779 ⟨Nat.le_of_ble_eq_true rfl, Nat.le_of_ble_eq_true rfl⟩ rfl rfl h_a0 (q := (RMo, TMo, 131)) rfl rfl hl.1 rfl (Nat.le_of_ble_eq_true rfl) rfl ⟨Nat.le_refl _, Nat.le_refl _⟩ d_Mo_act_372 (fun s_9 H locs h hP hD hS => ?_)
          refine lv_goto (tgt := 698) G.1 G.2.1 d_Mo_act_375 (by decide) ?_
          exact J_698 s_9 H locs h hP hD hS ls (lv_sub hl [] rfl)
        replace h := h.2 e116_2
        by_cases e116_3 : x1j100 = 3
        · skip
          have h := h.1 e116_3
          refine lv_tableIn (off := 236) (tgt := 352) G.1 G.2.1 d_Mo_act_116 (by rw [e116_3]; decide) (by rw [e116_3]; decide) (by rw [e116_3]; rfl) (by decide) ?_
          refine lv_aload_n G.1 G.2.1 d_Mo_act_352 rfl (lv_at hl 1 rfl) ?_
          refine W.eq (g2 := F0 m 353 ls [.ref (ad a0)]) rfl ?_
          refine lv_iload_n G.1 G.2.1 d_Mo_act_353 rfl (lv_at hl 2 rfl) ?_
          refine lv_bipush (v := 42) G.1 G.2.1 d_Mo_act_354 (by decide) ?_
          have J_364 : ∀ (s_j364 : St) (z1j364 : Int32) (H : Heap) (locs : List Loc), wj_Mo_act_364 y Post a0 s_j364 z1j364 → va_P D CL (ws g ad y s_j364) H → va_D A (ws g ad y s_j364) → va_S A s.heap H locs → ∀ ls, lv_has ls 10 [] → W p l e ru_Mo_act s m args below meth c H locs 0 0 Q (F0 m 364 ls [.int z1j364, .ref (ad a0)]) := by
            intro s_j364 z1j364 H locs h hP hD hS ls hl
            unfold wj_Mo_act_364 at h
            refine ucVv (As := [.int z1j364]) (rest := []) G hP hD hS (cu_Mo_lay l D g ad y _ s_j364 a0 z1j364 H.size h_a0 h) w9_Mo_lay q3779 ⟨Nat.le_of_ble_eq_true rfl, Nat.le_of_ble_eq_true rfl⟩ rfl rfl h_a0 (q := (RMo, TMo, 131)) rfl rfl hl.1 rfl (Nat.le_of_ble_eq_true rfl) rfl ⟨Nat.le_refl _, Nat.le_refl _⟩ d_Mo_act_364 (fun s_11 H locs h hP hD hS => ?_)
            refine lv_goto (tgt := 698) G.1 G.2.1 d_Mo_act_367 (by decide) ?_
            exact J_698 s_11 H locs h hP hD hS ls (lv_sub hl [] rfl)
          refine lv_icmp_ne (tgt := 363) G.1 G.2.1 d_Mo_act_356 (by decide) (fun c356 => ?_) (fun c356 => ?_)
          · skip
            have h := h.1 c356
            refine lv_iconst (v := 1) G.1 G.2.1 d_Mo_act_363 (by decide) ?_
            exact J_364 s_5 1 H locs h hP hD hS ls (lv_sub hl [] rfl)
          · skip
            have h := h.2 c356
            refine lv_iconst (v := 2) G.1 G.2.1 d_Mo_act_359 (by decide) ?_
            refine lv_goto (tgt := 364) G.1 G.2.1 d_Mo_act_360 (by decide) ?_
            exact J_364 s_5 2 H locs h hP hD hS ls (lv_sub hl [] rfl)
        replace h := h.2 e116_3
        by_cases e116_4 : x1j100 = 4
        · skip
          have h := h.1 e116_4
          refine lv_tableIn (off := 262) (tgt := 378) G.1 G.2.1 d_Mo_act_116 (by rw [e116_4]; decide) (by rw [e116_4]; decide) (by rw [e116_4]; rfl) (by decide) ?_
          refine lv_aload_n G.1 G.2.1 d_Mo_act_378 rfl (lv_at hl 1 rfl) ?_
          refine W.eq (g2 := F0 m 379 ls [.ref (ad a0)]) rfl ?_
          refine lv_aload_n G.1 G.2.1 d_Mo_act_379 rfl (lv_at hl 1 rfl) ?_
          refine ugf (v := .ref (yP y a0 70)) G hP h_a0 iMo rfl 70 (by decide) rfl q3134 rfl rfl d_Mo_act_380 ?_
          refine lv_iload G.1 G.2.1 d_Mo_act_383 (lv_at hl 5 rfl) ?_
          refine uiald G hP (kdp h_a0 rfl) (typ h_a0 rfl) h d_Mo_act_385 (fun x_12 h => ?_)
          refine ucVv (As := [.int x_12]) (rest := []) G hP hD hS (cu_Mo_lay l D g ad y _ s_5 a0 x_12 H.size h_a0 h) w9_Mo_lay q3779 ⟨Nat.le_of_ble_eq_true rfl, Nat.le_of_ble_eq_true rfl⟩ rfl rfl h_a0 (q := (RMo, TMo, 131)) rfl rfl hl.1 rfl (Nat.le_of_ble_eq_true rfl) rfl ⟨Nat.le_refl _, Nat.le_refl _⟩ d_Mo_act_386 (fun s_14 H locs h hP hD hS => ?_)
          refine lv_goto (tgt := 698) G.1 G.2.1 d_Mo_act_389 (by decide) ?_
          exact J_698 s_14 H locs h hP hD hS ls (lv_sub hl [] rfl)
        replace h := h.2 e116_4
        by_cases e116_5 : x1j100 = 5
        · skip
          have h := h.1 e116_5
          refine lv_tableIn (off := 276) (tgt := 392) G.1 G.2.1 d_Mo_act_116 (by rw [e116_5]; decide) (by rw [e116_5]; decide) (by rw [e116_5]; rfl) (by decide) ?_
          refine lv_aload_n G.1 G.2.1 d_Mo_act_392 rfl (lv_at hl 1 rfl) ?_
          refine W.eq (g2 := F0 m 393 ls [.ref (ad a0)]) rfl ?_
          refine ugf (v := .ref (yP y a0 70)) G hP h_a0 iMo rfl 70 (by decide) rfl q3134 rfl rfl d_Mo_act_393 ?_
          refine lv_iload G.1 G.2.1 d_Mo_act_396 (lv_at hl 5 rfl) ?_
          refine lv_iconst (v := 1) G.1 G.2.1 d_Mo_act_398 (by decide) ?_
          refine uiast G hP hD hS (kdp h_a0 rfl) (typ h_a0 rfl) h d_Mo_act_399 (fun s_15 H locs h hP hD hS => ?_)
          refine lv_goto (tgt := 698) G.1 G.2.1 d_Mo_act_400 (by decide) ?_
          exact J_698 s_15 H locs h hP hD hS ls (lv_sub hl [] rfl)
        replace h := h.2 e116_5
        by_cases e116_6 : x1j100 = 6
        · skip
          have h := h.1 e116_6
          refine lv_tableIn (off := 287) (tgt := 403) G.1 G.2.1 d_Mo_act_116 (by rw [e116_6]; decide) (by rw [e116_6]; decide) (by rw [e116_6]; rfl) (by decide) ?_
          refine lv_aload_n G.1 G.2.1 d_Mo_act_403 rfl (lv_at hl 1 rfl) ?_
          refine W.eq (g2 := F0 m 404 ls [.ref (ad a0)]) rfl ?_
          refine ugf (v := .ref (yP y a0 70)) G hP h_a0 iMo rfl 70 (by decide) rfl q3134 rfl rfl d_Mo_act_404 ?_
          refine lv_iload G.1 G.2.1 d_Mo_act_407 (lv_at hl 5 rfl) ?_
          refine lv_iload G.1 G.2.1 d_Mo_act_409 (lv_at hl 6 rfl) ?_
          refine uiast G hP hD hS (kdp h_a0 rfl) (typ h_a0 rfl) h d_Mo_act_411 (fun s_16 H locs h hP hD hS => ?_)
          refine lv_goto (tgt := 698) G.1 G.2.1 d_Mo_act_412 (by decide) ?_
          exact J_698 s_16 H locs h hP hD hS ls (lv_sub hl [] rfl)
        replace h := h.2 e116_6
        by_cases e116_7 : x1j100 = 7
        · skip
          have h := h.1 e116_7
          refine lv_tableIn (off := 565) (tgt := 681) G.1 G.2.1 d_Mo_act_116 (by rw [e116_7]; decide) (by rw [e116_7]; decide) (by rw [e116_7]; rfl) (by decide) ?_
          refine lv_iload_n G.1 G.2.1 d_Mo_act_681 rfl (lv_at hl 2 rfl) ?_
          refine W.eq (g2 := F0 m 682 ls [.int x1j100]) rfl ?_
          refine lv_bipush (v := 8) G.1 G.2.1 d_Mo_act_682 (by decide) ?_
          refine lv_icmp_lt (tgt := 698) G.1 G.2.1 d_Mo_act_684 (by decide) (fun c684 => ?_) (fun c684 => ?_)
          · skip
            have h := h.1 c684
            exact J_698 s_5 H locs h hP hD hS ls (lv_sub hl [] rfl)
          · skip
            have h := h.2 c684
            refine lv_iload_n G.1 G.2.1 d_Mo_act_687 rfl (lv_at hl 2 rfl) ?_
            refine lv_bipush (v := 18) G.1 G.2.1 d_Mo_act_688 (by decide) ?_
            refine lv_icmp_gt (tgt := 698) G.1 G.2.1 d_Mo_act_690 (by decide) (fun c690 => ?_) (fun c690 => ?_)
            · skip
              have h := h.1 c690
              exact J_698 s_5 H locs h hP hD hS ls (lv_sub hl [] rfl)
            · skip
              have h := h.2 c690
              refine lv_aload_n G.1 G.2.1 d_Mo_act_693 rfl (lv_at hl 1 rfl) ?_
              refine lv_iconst (v := 1) G.1 G.2.1 d_Mo_act_694 (by decide) ?_
              refine ucVv (As := [.int 1]) (rest := []) G hP hD hS (cu_Mo_lay l D g ad y _ s_5 a0 1 H.size h_a0 h) w9_Mo_lay q3779 ⟨Nat.le_of_ble_eq_true rfl, Nat.le_of_ble_eq_true rfl⟩ rfl rfl h_a0 (q := (RMo, TMo, 131)) rfl rfl hl.1 rfl (Nat.le_of_ble_eq_true rfl) rfl ⟨Nat.le_refl _, Nat.le_refl _⟩ d_Mo_act_695 (fun s_18 H locs h hP hD hS => ?_)
              exact J_698 s_18 H locs h hP hD hS ls (lv_sub hl [] rfl)
        replace h := h.2 e116_7
        by_cases e116_8 : x1j100 = 8
        · skip
          have h := h.1 e116_8
          refine lv_tableIn (off := 565) (tgt := 681) G.1 G.2.1 d_Mo_act_116 (by rw [e116_8]; decide) (by rw [e116_8]; decide) (by rw [e116_8]; rfl) (by decide) ?_
          refine lv_iload_n G.1 G.2.1 d_Mo_act_681 rfl (lv_at hl 2 rfl) ?_
          refine W.eq (g2 := F0 m 682 ls [.int x1j100]) rfl ?_
          refine lv_bipush (v := 8) G.1 G.2.1 d_Mo_act_682 (by decide) ?_
          refine lv_icmp_lt (tgt := 698) G.1 G.2.1 d_Mo_act_684 (by decide) (fun c684 => ?_) (fun c684 => ?_)
          · skip
            have h := h.1 c684
            exact J_698 s_5 H locs h hP hD hS ls (lv_sub hl [] rfl)
          · skip
            have h := h.2 c684
            refine lv_iload_n G.1 G.2.1 d_Mo_act_687 rfl (lv_at hl 2 rfl) ?_
            refine lv_bipush (v := 18) G.1 G.2.1 d_Mo_act_688 (by decide) ?_
            refine lv_icmp_gt (tgt := 698) G.1 G.2.1 d_Mo_act_690 (by decide) (fun c690 => ?_) (fun c690 => ?_)
            · skip
              have h := h.1 c690
              exact J_698 s_5 H locs h hP hD hS ls (lv_sub hl [] rfl)
            · skip
              have h := h.2 c690
              refine lv_aload_n G.1 G.2.1 d_Mo_act_693 rfl (lv_at hl 1 rfl) ?_
              refine lv_iconst (v := 1) G.1 G.2.1 d_Mo_act_694 (by decide) ?_
              refine ucVv (As := [.int 1]) (rest := []) G hP hD hS (cu_Mo_lay l D g ad y _ s_5 a0 1 H.size h_a0 h) w9_Mo_lay q3779 ⟨Nat.le_of_ble_eq_true rfl, Nat.le_of_ble_eq_true rfl⟩ rfl rfl h_a0 (q := (RMo, TMo, 131)) rfl rfl hl.1 rfl (Nat.le_of_ble_eq_true rfl) rfl ⟨Nat.le_refl _, Nat.le_refl _⟩ d_Mo_act_695 (fun s_20 H locs h hP hD hS => ?_)
              exact J_698 s_20 H locs h hP hD hS ls (lv_sub hl [] rfl)
        replace h := h.2 e116_8
        by_cases e116_9 : x1j100 = 9
        · skip
          have h := h.1 e116_9
          refine lv_tableIn (off := 565) (tgt := 681) G.1 G.2.1 d_Mo_act_116 (by rw [e116_9]; decide) (by rw [e116_9]; decide) (by rw [e116_9]; rfl) (by decide) ?_
          refine lv_iload_n G.1 G.2.1 d_Mo_act_681 rfl (lv_at hl 2 rfl) ?_
          refine W.eq (g2 := F0 m 682 ls [.int x1j100]) rfl ?_
          refine lv_bipush (v := 8) G.1 G.2.1 d_Mo_act_682 (by decide) ?_
          refine lv_icmp_lt (tgt := 698) G.1 G.2.1 d_Mo_act_684 (by decide) (fun c684 => ?_) (fun c684 => ?_)
          · skip
            have h := h.1 c684
            exact J_698 s_5 H locs h hP hD hS ls (lv_sub hl [] rfl)
          · skip
            have h := h.2 c684
            refine lv_iload_n G.1 G.2.1 d_Mo_act_687 rfl (lv_at hl 2 rfl) ?_
            refine lv_bipush (v := 18) G.1 G.2.1 d_Mo_act_688 (by decide) ?_
            refine lv_icmp_gt (tgt := 698) G.1 G.2.1 d_Mo_act_690 (by decide) (fun c690 => ?_) (fun c690 => ?_)
            · skip
              have h := h.1 c690
              exact J_698 s_5 H locs h hP hD hS ls (lv_sub hl [] rfl)
            · skip
              have h := h.2 c690
              refine lv_aload_n G.1 G.2.1 d_Mo_act_693 rfl (lv_at hl 1 rfl) ?_
              refine lv_iconst (v := 1) G.1 G.2.1 d_Mo_act_694 (by decide) ?_
              refine ucVv (As := [.int 1]) (rest := []) G hP hD hS (cu_Mo_lay l D g ad y _ s_5 a0 1 H.size h_a0 h) w9_Mo_lay q3779 ⟨Nat.le_of_ble_eq_true rfl, Nat.le_of_ble_eq_true rfl⟩ rfl rfl h_a0 (q := (RMo, TMo, 131)) rfl rfl hl.1 rfl (Nat.le_of_ble_eq_true rfl) rfl ⟨Nat.le_refl _, Nat.le_refl _⟩ d_Mo_act_695 (fun s_22 H locs h hP hD hS => ?_)
              exact J_698 s_22 H locs h hP hD hS ls (lv_sub hl [] rfl)
        replace h := h.2 e116_9
        by_cases e116_10 : x1j100 = 10
        · skip
          have h := h.1 e116_10
          refine lv_tableIn (off := 565) (tgt := 681) G.1 G.2.1 d_Mo_act_116 (by rw [e116_10]; decide) (by rw [e116_10]; decide) (by rw [e116_10]; rfl) (by decide) ?_
          refine lv_iload_n G.1 G.2.1 d_Mo_act_681 rfl (lv_at hl 2 rfl) ?_
          refine W.eq (g2 := F0 m 682 ls [.int x1j100]) rfl ?_
          refine lv_bipush (v := 8) G.1 G.2.1 d_Mo_act_682 (by decide) ?_
          refine lv_icmp_lt (tgt := 698) G.1 G.2.1 d_Mo_act_684 (by decide) (fun c684 => ?_) (fun c684 => ?_)
          · skip
            have h := h.1 c684
            exact J_698 s_5 H locs h hP hD hS ls (lv_sub hl [] rfl)
          · skip
            have h := h.2 c684
            refine lv_iload_n G.1 G.2.1 d_Mo_act_687 rfl (lv_at hl 2 rfl) ?_
            refine lv_bipush (v := 18) G.1 G.2.1 d_Mo_act_688 (by decide) ?_
            refine lv_icmp_gt (tgt := 698) G.1 G.2.1 d_Mo_act_690 (by decide) (fun c690 => ?_) (fun c690 => ?_)
            · skip
              have h := h.1 c690
              exact J_698 s_5 H locs h hP hD hS ls (lv_sub hl [] rfl)
            · skip
              have h := h.2 c690
              refine lv_aload_n G.1 G.2.1 d_Mo_act_693 rfl (lv_at hl 1 rfl) ?_
              refine lv_iconst (v := 1) G.1 G.2.1 d_Mo_act_694 (by decide) ?_
              refine ucVv (As := [.int 1]) (rest := []) G hP hD hS (cu_Mo_lay l D g ad y _ s_5 a0 1 H.size h_a0 h) w9_Mo_lay q3779 ⟨Nat.le_of_ble_eq_true rfl, Nat.le_of_ble_eq_true rfl⟩ rfl rfl h_a0 (q := (RMo, TMo, 131)) rfl rfl hl.1 rfl (Nat.le_of_ble_eq_true rfl) rfl ⟨Nat.le_refl _, Nat.le_refl _⟩ d_Mo_act_695 (fun s_24 H locs h hP hD hS => ?_)
              exact J_698 s_24 H locs h hP hD hS ls (lv_sub hl [] rfl)
        replace h := h.2 e116_10
        by_cases e116_11 : x1j100 = 11
        · skip
          have h := h.1 e116_11
          refine lv_tableIn (off := 565) (tgt := 681) G.1 G.2.1 d_Mo_act_116 (by rw [e116_11]; decide) (by rw [e116_11]; decide) (by rw [e116_11]; rfl) (by decide) ?_
          refine lv_iload_n G.1 G.2.1 d_Mo_act_681 rfl (lv_at hl 2 rfl) ?_
          refine W.eq (g2 := F0 m 682 ls [.int x1j100]) rfl ?_
          refine lv_bipush (v := 8) G.1 G.2.1 d_Mo_act_682 (by decide) ?_
          refine lv_icmp_lt (tgt := 698) G.1 G.2.1 d_Mo_act_684 (by decide) (fun c684 => ?_) (fun c684 => ?_)
          · skip
            have h := h.1 c684
            exact J_698 s_5 H locs h hP hD hS ls (lv_sub hl [] rfl)
          · skip
            have h := h.2 c684
            refine lv_iload_n G.1 G.2.1 d_Mo_act_687 rfl (lv_at hl 2 rfl) ?_
            refine lv_bipush (v := 18) G.1 G.2.1 d_Mo_act_688 (by decide) ?_
            refine lv_icmp_gt (tgt := 698) G.1 G.2.1 d_Mo_act_690 (by decide) (fun c690 => ?_) (fun c690 => ?_)
            · skip
              have h := h.1 c690
              exact J_698 s_5 H locs h hP hD hS ls (lv_sub hl [] rfl)
            · skip
              have h := h.2 c690
              refine lv_aload_n G.1 G.2.1 d_Mo_act_693 rfl (lv_at hl 1 rfl) ?_
              refine lv_iconst (v := 1) G.1 G.2.1 d_Mo_act_694 (by decide) ?_
              refine ucVv (As := [.int 1]) (rest := []) G hP hD hS (cu_Mo_lay l D g ad y _ s_5 a0 1 H.size h_a0 h) w9_Mo_lay q3779 ⟨Nat.le_of_ble_eq_true rfl, Nat.le_of_ble_eq_true rfl⟩ rfl rfl h_a0 (q := (RMo, TMo, 131)) rfl rfl hl.1 rfl (Nat.le_of_ble_eq_true rfl) rfl ⟨Nat.le_refl _, Nat.le_refl _⟩ d_Mo_act_695 (fun s_26 H locs h hP hD hS => ?_)
              exact J_698 s_26 H locs h hP hD hS ls (lv_sub hl [] rfl)
        replace h := h.2 e116_11
        by_cases e116_12 : x1j100 = 12
        · skip
          have h := h.1 e116_12
          refine lv_tableIn (off := 565) (tgt := 681) G.1 G.2.1 d_Mo_act_116 (by rw [e116_12]; decide) (by rw [e116_12]; decide) (by rw [e116_12]; rfl) (by decide) ?_
          refine lv_iload_n G.1 G.2.1 d_Mo_act_681 rfl (lv_at hl 2 rfl) ?_
          refine W.eq (g2 := F0 m 682 ls [.int x1j100]) rfl ?_
          refine lv_bipush (v := 8) G.1 G.2.1 d_Mo_act_682 (by decide) ?_
          refine lv_icmp_lt (tgt := 698) G.1 G.2.1 d_Mo_act_684 (by decide) (fun c684 => ?_) (fun c684 => ?_)
          · skip
            have h := h.1 c684
            exact J_698 s_5 H locs h hP hD hS ls (lv_sub hl [] rfl)
          · skip
            have h := h.2 c684
            refine lv_iload_n G.1 G.2.1 d_Mo_act_687 rfl (lv_at hl 2 rfl) ?_
            refine lv_bipush (v := 18) G.1 G.2.1 d_Mo_act_688 (by decide) ?_
            refine lv_icmp_gt (tgt := 698) G.1 G.2.1 d_Mo_act_690 (by decide) (fun c690 => ?_) (fun c690 => ?_)
            · skip
              have h := h.1 c690
              exact J_698 s_5 H locs h hP hD hS ls (lv_sub hl [] rfl)
            · skip
              have h := h.2 c690
              refine lv_aload_n G.1 G.2.1 d_Mo_act_693 rfl (lv_at hl 1 rfl) ?_
              refine lv_iconst (v := 1) G.1 G.2.1 d_Mo_act_694 (by decide) ?_
              refine ucVv (As := [.int 1]) (rest := []) G hP hD hS (cu_Mo_lay l D g ad y _ s_5 a0 1 H.size h_a0 h) w9_Mo_lay q3779 ⟨Nat.le_of_ble_eq_true rfl, Nat.le_of_ble_eq_true rfl⟩ rfl rfl h_a0 (q := (RMo, TMo, 131)) rfl rfl hl.1 rfl (Nat.le_of_ble_eq_true rfl) rfl ⟨Nat.le_refl _, Nat.le_refl _⟩ d_Mo_act_695 (fun s_28 H locs h hP hD hS => ?_)
              exact J_698 s_28 H locs h hP hD hS ls (lv_sub hl [] rfl)
        replace h := h.2 e116_12
        by_cases e116_13 : x1j100 = 13
        · skip
          have h := h.1 e116_13
          refine lv_tableIn (off := 565) (tgt := 681) G.1 G.2.1 d_Mo_act_116 (by rw [e116_13]; decide) (by rw [e116_13]; decide) (by rw [e116_13]; rfl) (by decide) ?_
          refine lv_iload_n G.1 G.2.1 d_Mo_act_681 rfl (lv_at hl 2 rfl) ?_
          refine W.eq (g2 := F0 m 682 ls [.int x1j100]) rfl ?_
          refine lv_bipush (v := 8) G.1 G.2.1 d_Mo_act_682 (by decide) ?_
          refine lv_icmp_lt (tgt := 698) G.1 G.2.1 d_Mo_act_684 (by decide) (fun c684 => ?_) (fun c684 => ?_)
          · skip
            have h := h.1 c684
            exact J_698 s_5 H locs h hP hD hS ls (lv_sub hl [] rfl)
          · skip
            have h := h.2 c684
            refine lv_iload_n G.1 G.2.1 d_Mo_act_687 rfl (lv_at hl 2 rfl) ?_
            refine lv_bipush (v := 18) G.1 G.2.1 d_Mo_act_688 (by decide) ?_
            refine lv_icmp_gt (tgt := 698) G.1 G.2.1 d_Mo_act_690 (by decide) (fun c690 => ?_) (fun c690 => ?_)
            · skip
              have h := h.1 c690
              exact J_698 s_5 H locs h hP hD hS ls (lv_sub hl [] rfl)
            · skip
              have h := h.2 c690
              refine lv_aload_n G.1 G.2.1 d_Mo_act_693 rfl (lv_at hl 1 rfl) ?_
              refine lv_iconst (v := 1) G.1 G.2.1 d_Mo_act_694 (by decide) ?_
              refine ucVv (As := [.int 1]) (rest := []) G hP hD hS (cu_Mo_lay l D g ad y _ s_5 a0 1 H.size h_a0 h) w9_Mo_lay q3779 ⟨Nat.le_of_ble_eq_true rfl, Nat.le_of_ble_eq_true rfl⟩ rfl rfl h_a0 (q := (RMo, TMo, 131)) rfl rfl hl.1 rfl (Nat.le_of_ble_eq_true rfl) rfl ⟨Nat.le_refl _, Nat.le_refl _⟩ d_Mo_act_695 (fun s_30 H locs h hP hD hS => ?_)
              exact J_698 s_30 H locs h hP hD hS ls (lv_sub hl [] rfl)
        replace h := h.2 e116_13
        by_cases e116_14 : x1j100 = 14
        · skip
          have h := h.1 e116_14
          refine lv_tableIn (off := 565) (tgt := 681) G.1 G.2.1 d_Mo_act_116 (by rw [e116_14]; decide) (by rw [e116_14]; decide) (by rw [e116_14]; rfl) (by decide) ?_
          refine lv_iload_n G.1 G.2.1 d_Mo_act_681 rfl (lv_at hl 2 rfl) ?_
          refine W.eq (g2 := F0 m 682 ls [.int x1j100]) rfl ?_
          refine lv_bipush (v := 8) G.1 G.2.1 d_Mo_act_682 (by decide) ?_
          refine lv_icmp_lt (tgt := 698) G.1 G.2.1 d_Mo_act_684 (by decide) (fun c684 => ?_) (fun c684 => ?_)
          · skip
            have h := h.1 c684
            exact J_698 s_5 H locs h hP hD hS ls (lv_sub hl [] rfl)
          · skip
            have h := h.2 c684
            refine lv_iload_n G.1 G.2.1 d_Mo_act_687 rfl (lv_at hl 2 rfl) ?_
            refine lv_bipush (v := 18) G.1 G.2.1 d_Mo_act_688 (by decide) ?_
            refine lv_icmp_gt (tgt := 698) G.1 G.2.1 d_Mo_act_690 (by decide) (fun c690 => ?_) (fun c690 => ?_)
            · skip
              have h := h.1 c690
              exact J_698 s_5 H locs h hP hD hS ls (lv_sub hl [] rfl)
            · skip
              have h := h.2 c690
              refine lv_aload_n G.1 G.2.1 d_Mo_act_693 rfl (lv_at hl 1 rfl) ?_
              refine lv_iconst (v := 1) G.1 G.2.1 d_Mo_act_694 (by decide) ?_
              refine ucVv (As := [.int 1]) (rest := []) G hP hD hS (cu_Mo_lay l D g ad y _ s_5 a0 1 H.size h_a0 h) w9_Mo_lay q3779 ⟨Nat.le_of_ble_eq_true rfl, Nat.le_of_ble_eq_true rfl⟩ rfl rfl h_a0 (q := (RMo, TMo, 131)) rfl rfl hl.1 rfl (Nat.le_of_ble_eq_true rfl) rfl ⟨Nat.le_refl _, Nat.le_refl _⟩ d_Mo_act_695 (fun s_32 H locs h hP hD hS => ?_)
              exact J_698 s_32 H locs h hP hD hS ls (lv_sub hl [] rfl)
        replace h := h.2 e116_14
        by_cases e116_15 : x1j100 = 15
        · skip
          have h := h.1 e116_15
          refine lv_tableIn (off := 565) (tgt := 681) G.1 G.2.1 d_Mo_act_116 (by rw [e116_15]; decide) (by rw [e116_15]; decide) (by rw [e116_15]; rfl) (by decide) ?_
          refine lv_iload_n G.1 G.2.1 d_Mo_act_681 rfl (lv_at hl 2 rfl) ?_
          refine W.eq (g2 := F0 m 682 ls [.int x1j100]) rfl ?_
          refine lv_bipush (v := 8) G.1 G.2.1 d_Mo_act_682 (by decide) ?_
          refine lv_icmp_lt (tgt := 698) G.1 G.2.1 d_Mo_act_684 (by decide) (fun c684 => ?_) (fun c684 => ?_)
          · skip
            have h := h.1 c684
            exact J_698 s_5 H locs h hP hD hS ls (lv_sub hl [] rfl)
          · skip
            have h := h.2 c684
            refine lv_iload_n G.1 G.2.1 d_Mo_act_687 rfl (lv_at hl 2 rfl) ?_
            refine lv_bipush (v := 18) G.1 G.2.1 d_Mo_act_688 (by decide) ?_
            refine lv_icmp_gt (tgt := 698) G.1 G.2.1 d_Mo_act_690 (by decide) (fun c690 => ?_) (fun c690 => ?_)
            · skip
              have h := h.1 c690
              exact J_698 s_5 H locs h hP hD hS ls (lv_sub hl [] rfl)
            · skip
              have h := h.2 c690
              refine lv_aload_n G.1 G.2.1 d_Mo_act_693 rfl (lv_at hl 1 rfl) ?_
              refine lv_iconst (v := 1) G.1 G.2.1 d_Mo_act_694 (by decide) ?_
              refine ucVv (As := [.int 1]) (rest := []) G hP hD hS (cu_Mo_lay l D g ad y _ s_5 a0 1 H.size h_a0 h) w9_Mo_lay q3779 ⟨Nat.le_of_ble_eq_true rfl, Nat.le_of_ble_eq_true rfl⟩ rfl rfl h_a0 (q := (RMo, TMo, 131)) rfl rfl hl.1 rfl (Nat.le_of_ble_eq_true rfl) rfl ⟨Nat.le_refl _, Nat.le_refl _⟩ d_Mo_act_695 (fun s_34 H locs h hP hD hS => ?_)
              exact J_698 s_34 H locs h hP hD hS ls (lv_sub hl [] rfl)
        replace h := h.2 e116_15
        by_cases e116_16 : x1j100 = 16
        · skip
          have h := h.1 e116_16
          refine lv_tableIn (off := 565) (tgt := 681) G.1 G.2.1 d_Mo_act_116 (by rw [e116_16]; decide) (by rw [e116_16]; decide) (by rw [e116_16]; rfl) (by decide) ?_
          refine lv_iload_n G.1 G.2.1 d_Mo_act_681 rfl (lv_at hl 2 rfl) ?_
          refine W.eq (g2 := F0 m 682 ls [.int x1j100]) rfl ?_
          refine lv_bipush (v := 8) G.1 G.2.1 d_Mo_act_682 (by decide) ?_
          refine lv_icmp_lt (tgt := 698) G.1 G.2.1 d_Mo_act_684 (by decide) (fun c684 => ?_) (fun c684 => ?_)
          · skip
            have h := h.1 c684
            exact J_698 s_5 H locs h hP hD hS ls (lv_sub hl [] rfl)
          · skip
            have h := h.2 c684
            refine lv_iload_n G.1 G.2.1 d_Mo_act_687 rfl (lv_at hl 2 rfl) ?_
            refine lv_bipush (v := 18) G.1 G.2.1 d_Mo_act_688 (by decide) ?_
            refine lv_icmp_gt (tgt := 698) G.1 G.2.1 d_Mo_act_690 (by decide) (fun c690 => ?_) (fun c690 => ?_)
            · skip
              have h := h.1 c690
              exact J_698 s_5 H locs h hP hD hS ls (lv_sub hl [] rfl)
            · skip
              have h := h.2 c690
              refine lv_aload_n G.1 G.2.1 d_Mo_act_693 rfl (lv_at hl 1 rfl) ?_
              refine lv_iconst (v := 1) G.1 G.2.1 d_Mo_act_694 (by decide) ?_
              refine ucVv (As := [.int 1]) (rest := []) G hP hD hS (cu_Mo_lay l D g ad y _ s_5 a0 1 H.size h_a0 h) w9_Mo_lay q3779 ⟨Nat.le_of_ble_eq_true rfl, Nat.le_of_ble_eq_true rfl⟩ rfl rfl h_a0 (q := (RMo, TMo, 131)) rfl rfl hl.1 rfl (Nat.le_of_ble_eq_true rfl) rfl ⟨Nat.le_refl _, Nat.le_refl _⟩ d_Mo_act_695 (fun s_36 H locs h hP hD hS => ?_)
              exact J_698 s_36 H locs h hP hD hS ls (lv_sub hl [] rfl)
        replace h := h.2 e116_16
        by_cases e116_17 : x1j100 = 17
        · skip
          have h := h.1 e116_17
          refine lv_tableIn (off := 565) (tgt := 681) G.1 G.2.1 d_Mo_act_116 (by rw [e116_17]; decide) (by rw [e116_17]; decide) (by rw [e116_17]; rfl) (by decide) ?_
          refine lv_iload_n G.1 G.2.1 d_Mo_act_681 rfl (lv_at hl 2 rfl) ?_
          refine W.eq (g2 := F0 m 682 ls [.int x1j100]) rfl ?_
          refine lv_bipush (v := 8) G.1 G.2.1 d_Mo_act_682 (by decide) ?_
          refine lv_icmp_lt (tgt := 698) G.1 G.2.1 d_Mo_act_684 (by decide) (fun c684 => ?_) (fun c684 => ?_)
          · skip
            have h := h.1 c684
            exact J_698 s_5 H locs h hP hD hS ls (lv_sub hl [] rfl)
          · skip
            have h := h.2 c684
            refine lv_iload_n G.1 G.2.1 d_Mo_act_687 rfl (lv_at hl 2 rfl) ?_
            refine lv_bipush (v := 18) G.1 G.2.1 d_Mo_act_688 (by decide) ?_
            refine lv_icmp_gt (tgt := 698) G.1 G.2.1 d_Mo_act_690 (by decide) (fun c690 => ?_) (fun c690 => ?_)
            · skip
              have h := h.1 c690
              exact J_698 s_5 H locs h hP hD hS ls (lv_sub hl [] rfl)
            · skip
              have h := h.2 c690
              refine lv_aload_n G.1 G.2.1 d_Mo_act_693 rfl (lv_at hl 1 rfl) ?_
              refine lv_iconst (v := 1) G.1 G.2.1 d_Mo_act_694 (by decide) ?_
              refine ucVv (As := [.int 1]) (rest := []) G hP hD hS (cu_Mo_lay l D g ad y _ s_5 a0 1 H.size h_a0 h) w9_Mo_lay q3779 ⟨Nat.le_of_ble_eq_true rfl, Nat.le_of_ble_eq_true rfl⟩ rfl rfl h_a0 (q := (RMo, TMo, 131)) rfl rfl hl.1 rfl (Nat.le_of_ble_eq_true rfl) rfl ⟨Nat.le_refl _, Nat.le_refl _⟩ d_Mo_act_695 (fun s_38 H locs h hP hD hS => ?_)
              exact J_698 s_38 H locs h hP hD hS ls (lv_sub hl [] rfl)
        replace h := h.2 e116_17
        by_cases e116_18 : x1j100 = 18
        · skip
          have h := h.1 e116_18
          refine lv_tableIn (off := 565) (tgt := 681) G.1 G.2.1 d_Mo_act_116 (by rw [e116_18]; decide) (by rw [e116_18]; decide) (by rw [e116_18]; rfl) (by decide) ?_
          refine lv_iload_n G.1 G.2.1 d_Mo_act_681 rfl (lv_at hl 2 rfl) ?_
          refine W.eq (g2 := F0 m 682 ls [.int x1j100]) rfl ?_
          refine lv_bipush (v := 8) G.1 G.2.1 d_Mo_act_682 (by decide) ?_
          refine lv_icmp_lt (tgt := 698) G.1 G.2.1 d_Mo_act_684 (by decide) (fun c684 => ?_) (fun c684 => ?_)
          · skip
            have h := h.1 c684
            exact J_698 s_5 H locs h hP hD hS ls (lv_sub hl [] rfl)
          · skip
            have h := h.2 c684
            refine lv_iload_n G.1 G.2.1 d_Mo_act_687 rfl (lv_at hl 2 rfl) ?_
            refine lv_bipush (v := 18) G.1 G.2.1 d_Mo_act_688 (by decide) ?_
            refine lv_icmp_gt (tgt := 698) G.1 G.2.1 d_Mo_act_690 (by decide) (fun c690 => ?_) (fun c690 => ?_)
            · skip
              have h := h.1 c690
              exact J_698 s_5 H locs h hP hD hS ls (lv_sub hl [] rfl)
            · skip
              have h := h.2 c690
              refine lv_aload_n G.1 G.2.1 d_Mo_act_693 rfl (lv_at hl 1 rfl) ?_
              refine lv_iconst (v := 1) G.1 G.2.1 d_Mo_act_694 (by decide) ?_
              refine ucVv (As := [.int 1]) (rest := []) G hP hD hS (cu_Mo_lay l D g ad y _ s_5 a0 1 H.size h_a0 h) w9_Mo_lay q3779 ⟨Nat.le_of_ble_eq_true rfl, Nat.le_of_ble_eq_true rfl⟩ rfl rfl h_a0 (q := (RMo, TMo, 131)) rfl rfl hl.1 rfl (Nat.le_of_ble_eq_true rfl) rfl ⟨Nat.le_refl _, Nat.le_refl _⟩ d_Mo_act_695 (fun s_40 H locs h hP hD hS => ?_)
              exact J_698 s_40 H locs h hP hD hS ls (lv_sub hl [] rfl)
        replace h := h.2 e116_18
        by_cases e116_19 : x1j100 = 19
        · skip
          have h := h.1 e116_19
          refine lv_tableIn (off := 565) (tgt := 681) G.1 G.2.1 d_Mo_act_116 (by rw [e116_19]; decide) (by rw [e116_19]; decide) (by rw [e116_19]; rfl) (by decide) ?_
          refine lv_iload_n G.1 G.2.1 d_Mo_act_681 rfl (lv_at hl 2 rfl) ?_
          refine W.eq (g2 := F0 m 682 ls [.int x1j100]) rfl ?_
          refine lv_bipush (v := 8) G.1 G.2.1 d_Mo_act_682 (by decide) ?_
          refine lv_icmp_lt (tgt := 698) G.1 G.2.1 d_Mo_act_684 (by decide) (fun c684 => ?_) (fun c684 => ?_)
          · skip
            have h := h.1 c684
            exact J_698 s_5 H locs h hP hD hS ls (lv_sub hl [] rfl)
          · skip
            have h := h.2 c684
            refine lv_iload_n G.1 G.2.1 d_Mo_act_687 rfl (lv_at hl 2 rfl) ?_
            refine lv_bipush (v := 18) G.1 G.2.1 d_Mo_act_688 (by decide) ?_
            refine lv_icmp_gt (tgt := 698) G.1 G.2.1 d_Mo_act_690 (by decide) (fun c690 => ?_) (fun c690 => ?_)
            · skip
              have h := h.1 c690
              exact J_698 s_5 H locs h hP hD hS ls (lv_sub hl [] rfl)
            · skip
              have h := h.2 c690
              refine lv_aload_n G.1 G.2.1 d_Mo_act_693 rfl (lv_at hl 1 rfl) ?_
              refine lv_iconst (v := 1) G.1 G.2.1 d_Mo_act_694 (by decide) ?_
              refine ucVv (As := [.int 1]) (rest := []) G hP hD hS (cu_Mo_lay l D g ad y _ s_5 a0 1 H.size h_a0 h) w9_Mo_lay q3779 ⟨Nat.le_of_ble_eq_true rfl, Nat.le_of_ble_eq_true rfl⟩ rfl rfl h_a0 (q := (RMo, TMo, 131)) rfl rfl hl.1 rfl (Nat.le_of_ble_eq_true rfl) rfl ⟨Nat.le_refl _, Nat.le_refl _⟩ d_Mo_act_695 (fun s_42 H locs h hP hD hS => ?_)
              exact J_698 s_42 H locs h hP hD hS ls (lv_sub hl [] rfl)
        replace h := h.2 e116_19
        by_cases e116_20 : x1j100 = 20
        · skip
          have h := h.1 e116_20
          refine lv_tableIn (off := 299) (tgt := 415) G.1 G.2.1 d_Mo_act_116 (by rw [e116_20]; decide) (by rw [e116_20]; decide) (by rw [e116_20]; rfl) (by decide) ?_
          refine lv_aload_n G.1 G.2.1 d_Mo_act_415 rfl (lv_at hl 1 rfl) ?_
          refine W.eq (g2 := F0 m 416 ls [.ref (ad a0)]) rfl ?_
          refine lv_iload G.1 G.2.1 d_Mo_act_416 (lv_at hl 6 rfl) ?_
          refine ucVv (As := [.int x5j100]) (rest := []) G hP hD hS (cu_Mo_lay l D g ad y _ s_5 a0 x5j100 H.size h_a0 h) w9_Mo_lay q3779 ⟨Nat.le_of_ble_eq_true rfl, Nat.le_of_ble_eq_true rfl⟩ rfl rfl h_a0 (q := (RMo, TMo, 131)) rfl rfl hl.1 rfl (Nat.le_of_ble_eq_true rfl) rfl ⟨Nat.le_refl _, Nat.le_refl _⟩ d_Mo_act_418 (fun s_44 H locs h hP hD hS => ?_)
          refine lv_aload_n G.1 G.2.1 d_Mo_act_421 rfl (lv_at hl 1 rfl) ?_
          refine lv_iload G.1 G.2.1 d_Mo_act_422 (lv_at hl 6 rfl) ?_
          refine ucVv (As := [.int x5j100]) (rest := []) G hP hD hS (cu_Mo_lay l D g ad y _ s_44 a0 x5j100 H.size h_a0 h) w9_Mo_lay q3779 ⟨Nat.le_of_ble_eq_true rfl, Nat.le_of_ble_eq_true rfl⟩ rfl rfl h_a0 (q := (RMo, TMo, 131)) rfl rfl hl.1 rfl (Nat.le_of_ble_eq_true rfl) rfl ⟨Nat.le_refl _, Nat.le_refl _⟩ d_Mo_act_424 (fun s_46 H locs h hP hD hS => ?_)
          refine lv_goto (tgt := 698) G.1 G.2.1 d_Mo_act_427 (by decide) ?_
          exact J_698 s_46 H locs h hP hD hS ls (lv_sub hl [] rfl)
        replace h := h.2 e116_20
        by_cases e116_21 : x1j100 = 21
        · skip
          have h := h.1 e116_21
          refine lv_tableIn (off := 314) (tgt := 430) G.1 G.2.1 d_Mo_act_116 (by rw [e116_21]; decide) (by rw [e116_21]; decide) (by rw [e116_21]; rfl) (by decide) ?_
          refine lv_aload_n G.1 G.2.1 d_Mo_act_430 rfl (lv_at hl 1 rfl) ?_
          refine W.eq (g2 := F0 m 431 ls [.ref (ad a0)]) rfl ?_
          refine lv_iload G.1 G.2.1 d_Mo_act_431 (lv_at hl 6 rfl) ?_
          refine ucVv (As := [.int x5j100]) (rest := []) G hP hD hS (cu_Mo_lay l D g ad y _ s_5 a0 x5j100 H.size h_a0 h) w9_Mo_lay q3779 ⟨Nat.le_of_ble_eq_true rfl, Nat.le_of_ble_eq_true rfl⟩ rfl rfl h_a0 (q := (RMo, TMo, 131)) rfl rfl hl.1 rfl (Nat.le_of_ble_eq_true rfl) rfl ⟨Nat.le_refl _, Nat.le_refl _⟩ d_Mo_act_433 (fun s_48 H locs h hP hD hS => ?_)
          refine lv_aload_n G.1 G.2.1 d_Mo_act_436 rfl (lv_at hl 1 rfl) ?_
          refine lv_iload G.1 G.2.1 d_Mo_act_437 (lv_at hl 7 rfl) ?_
          refine ucVv (As := [.int x6j100]) (rest := []) G hP hD hS (cu_Mo_lay l D g ad y _ s_48 a0 x6j100 H.size h_a0 h) w9_Mo_lay q3779 ⟨Nat.le_of_ble_eq_true rfl, Nat.le_of_ble_eq_true rfl⟩ rfl rfl h_a0 (q := (RMo, TMo, 131)) rfl rfl hl.1 rfl (Nat.le_of_ble_eq_true rfl) rfl ⟨Nat.le_refl _, Nat.le_refl _⟩ d_Mo_act_439 (fun s_50 H locs h hP hD hS => ?_)
          refine lv_aload_n G.1 G.2.1 d_Mo_act_442 rfl (lv_at hl 1 rfl) ?_
          refine lv_iload G.1 G.2.1 d_Mo_act_443 (lv_at hl 6 rfl) ?_
          refine ucVv (As := [.int x5j100]) (rest := []) G hP hD hS (cu_Mo_lay l D g ad y _ s_50 a0 x5j100 H.size h_a0 h) w9_Mo_lay q3779 ⟨Nat.le_of_ble_eq_true rfl, Nat.le_of_ble_eq_true rfl⟩ rfl rfl h_a0 (q := (RMo, TMo, 131)) rfl rfl hl.1 rfl (Nat.le_of_ble_eq_true rfl) rfl ⟨Nat.le_refl _, Nat.le_refl _⟩ d_Mo_act_445 (fun s_52 H locs h hP hD hS => ?_)
          refine lv_goto (tgt := 698) G.1 G.2.1 d_Mo_act_448 (by decide) ?_
          exact J_698 s_52 H locs h hP hD hS ls (lv_sub hl [] rfl)
        replace h := h.2 e116_21
        by_cases e116_22 : x1j100 = 22
        · skip
          have h := h.1 e116_22
          refine lv_tableIn (off := 335) (tgt := 451) G.1 G.2.1 d_Mo_act_116 (by rw [e116_22]; decide) (by rw [e116_22]; decide) (by rw [e116_22]; rfl) (by decide) ?_
          refine lv_aload_n G.1 G.2.1 d_Mo_act_451 rfl (lv_at hl 1 rfl) ?_
          refine W.eq (g2 := F0 m 452 ls [.ref (ad a0)]) rfl ?_
          refine lv_iload G.1 G.2.1 d_Mo_act_452 (lv_at hl 6 rfl) ?_
          refine ucVv (As := [.int x5j100]) (rest := []) G hP hD hS (cu_Mo_lay l D g ad y _ s_5 a0 x5j100 H.size h_a0 h) w9_Mo_lay q3779 ⟨Nat.le_of_ble_eq_true rfl, Nat.le_of_ble_eq_true rfl⟩ rfl rfl h_a0 (q := (RMo, TMo, 131)) rfl rfl hl.1 rfl (Nat.le_of_ble_eq_true rfl) rfl ⟨Nat.le_refl _, Nat.le_refl _⟩ d_Mo_act_454 (fun s_54 H locs h hP hD hS => ?_)
          refine lv_aload_n G.1 G.2.1 d_Mo_act_457 rfl (lv_at hl 1 rfl) ?_
          refine lv_iload G.1 G.2.1 d_Mo_act_458 (lv_at hl 7 rfl) ?_
          refine ucVv (As := [.int x6j100]) (rest := []) G hP hD hS (cu_Mo_lay l D g ad y _ s_54 a0 x6j100 H.size h_a0 h) w9_Mo_lay q3779 ⟨Nat.le_of_ble_eq_true rfl, Nat.le_of_ble_eq_true rfl⟩ rfl rfl h_a0 (q := (RMo, TMo, 131)) rfl rfl hl.1 rfl (Nat.le_of_ble_eq_true rfl) rfl ⟨Nat.le_refl _, Nat.le_refl _⟩ d_Mo_act_460 (fun s_56 H locs h hP hD hS => ?_)
          refine lv_goto (tgt := 698) G.1 G.2.1 d_Mo_act_463 (by decide) ?_
          exact J_698 s_56 H locs h hP hD hS ls (lv_sub hl [] rfl)
        replace h := h.2 e116_22
        by_cases e116_23 : x1j100 = 23
        · skip
          have h := h.1 e116_23
          refine lv_tableIn (off := 565) (tgt := 681) G.1 G.2.1 d_Mo_act_116 (by rw [e116_23]; decide) (by rw [e116_23]; decide) (by rw [e116_23]; rfl) (by decide) ?_
          refine lv_iload_n G.1 G.2.1 d_Mo_act_681 rfl (lv_at hl 2 rfl) ?_
          refine W.eq (g2 := F0 m 682 ls [.int x1j100]) rfl ?_
          refine lv_bipush (v := 8) G.1 G.2.1 d_Mo_act_682 (by decide) ?_
          refine lv_icmp_lt (tgt := 698) G.1 G.2.1 d_Mo_act_684 (by decide) (fun c684 => ?_) (fun c684 => ?_)
          · skip
            have h := h.1 c684
            exact J_698 s_5 H locs h hP hD hS ls (lv_sub hl [] rfl)
          · skip
            have h := h.2 c684
            refine lv_iload_n G.1 G.2.1 d_Mo_act_687 rfl (lv_at hl 2 rfl) ?_
            refine lv_bipush (v := 18) G.1 G.2.1 d_Mo_act_688 (by decide) ?_
            refine lv_icmp_gt (tgt := 698) G.1 G.2.1 d_Mo_act_690 (by decide) (fun c690 => ?_) (fun c690 => ?_)
            · skip
              have h := h.1 c690
              exact J_698 s_5 H locs h hP hD hS ls (lv_sub hl [] rfl)
            · skip
              have h := h.2 c690
              refine lv_aload_n G.1 G.2.1 d_Mo_act_693 rfl (lv_at hl 1 rfl) ?_
              refine lv_iconst (v := 1) G.1 G.2.1 d_Mo_act_694 (by decide) ?_
              refine ucVv (As := [.int 1]) (rest := []) G hP hD hS (cu_Mo_lay l D g ad y _ s_5 a0 1 H.size h_a0 h) w9_Mo_lay q3779 ⟨Nat.le_of_ble_eq_true rfl, Nat.le_of_ble_eq_true rfl⟩ rfl rfl h_a0 (q := (RMo, TMo, 131)) rfl rfl hl.1 rfl (Nat.le_of_ble_eq_true rfl) rfl ⟨Nat.le_refl _, Nat.le_refl _⟩ d_Mo_act_695 (fun s_58 H locs h hP hD hS => ?_)
              exact J_698 s_58 H locs h hP hD hS ls (lv_sub hl [] rfl)
        replace h := h.2 e116_23
        by_cases e116_24 : x1j100 = 24
        · skip
          have h := h.1 e116_24
          refine lv_tableIn (off := 565) (tgt := 681) G.1 G.2.1 d_Mo_act_116 (by rw [e116_24]; decide) (by rw [e116_24]; decide) (by rw [e116_24]; rfl) (by decide) ?_
          refine lv_iload_n G.1 G.2.1 d_Mo_act_681 rfl (lv_at hl 2 rfl) ?_
          refine W.eq (g2 := F0 m 682 ls [.int x1j100]) rfl ?_
          refine lv_bipush (v := 8) G.1 G.2.1 d_Mo_act_682 (by decide) ?_
          refine lv_icmp_lt (tgt := 698) G.1 G.2.1 d_Mo_act_684 (by decide) (fun c684 => ?_) (fun c684 => ?_)
          · skip
            have h := h.1 c684
            exact J_698 s_5 H locs h hP hD hS ls (lv_sub hl [] rfl)
          · skip
            have h := h.2 c684
            refine lv_iload_n G.1 G.2.1 d_Mo_act_687 rfl (lv_at hl 2 rfl) ?_
            refine lv_bipush (v := 18) G.1 G.2.1 d_Mo_act_688 (by decide) ?_
            refine lv_icmp_gt (tgt := 698) G.1 G.2.1 d_Mo_act_690 (by decide) (fun c690 => ?_) (fun c690 => ?_)
            · skip
              have h := h.1 c690
              exact J_698 s_5 H locs h hP hD hS ls (lv_sub hl [] rfl)
            · skip
              have h := h.2 c690
              refine lv_aload_n G.1 G.2.1 d_Mo_act_693 rfl (lv_at hl 1 rfl) ?_
              refine lv_iconst (v := 1) G.1 G.2.1 d_Mo_act_694 (by decide) ?_
              refine ucVv (As := [.int 1]) (rest := []) G hP hD hS (cu_Mo_lay l D g ad y _ s_5 a0 1 H.size h_a0 h) w9_Mo_lay q3779 ⟨Nat.le_of_ble_eq_true rfl, Nat.le_of_ble_eq_true rfl⟩ rfl rfl h_a0 (q := (RMo, TMo, 131)) rfl rfl hl.1 rfl (Nat.le_of_ble_eq_true rfl) rfl ⟨Nat.le_refl _, Nat.le_refl _⟩ d_Mo_act_695 (fun s_60 H locs h hP hD hS => ?_)
              exact J_698 s_60 H locs h hP hD hS ls (lv_sub hl [] rfl)
        replace h := h.2 e116_24
        by_cases e116_25 : x1j100 = 25
        · skip
          have h := h.1 e116_25
          refine lv_tableIn (off := 565) (tgt := 681) G.1 G.2.1 d_Mo_act_116 (by rw [e116_25]; decide) (by rw [e116_25]; decide) (by rw [e116_25]; rfl) (by decide) ?_
          refine lv_iload_n G.1 G.2.1 d_Mo_act_681 rfl (lv_at hl 2 rfl) ?_
          refine W.eq (g2 := F0 m 682 ls [.int x1j100]) rfl ?_
          refine lv_bipush (v := 8) G.1 G.2.1 d_Mo_act_682 (by decide) ?_
          refine lv_icmp_lt (tgt := 698) G.1 G.2.1 d_Mo_act_684 (by decide) (fun c684 => ?_) (fun c684 => ?_)
          · skip
            have h := h.1 c684
            exact J_698 s_5 H locs h hP hD hS ls (lv_sub hl [] rfl)
          · skip
            have h := h.2 c684
            refine lv_iload_n G.1 G.2.1 d_Mo_act_687 rfl (lv_at hl 2 rfl) ?_
            refine lv_bipush (v := 18) G.1 G.2.1 d_Mo_act_688 (by decide) ?_
            refine lv_icmp_gt (tgt := 698) G.1 G.2.1 d_Mo_act_690 (by decide) (fun c690 => ?_) (fun c690 => ?_)
            · skip
              have h := h.1 c690
              exact J_698 s_5 H locs h hP hD hS ls (lv_sub hl [] rfl)
            · skip
              have h := h.2 c690
              refine lv_aload_n G.1 G.2.1 d_Mo_act_693 rfl (lv_at hl 1 rfl) ?_
              refine lv_iconst (v := 1) G.1 G.2.1 d_Mo_act_694 (by decide) ?_
              refine ucVv (As := [.int 1]) (rest := []) G hP hD hS (cu_Mo_lay l D g ad y _ s_5 a0 1 H.size h_a0 h) w9_Mo_lay q3779 ⟨Nat.le_of_ble_eq_true rfl, Nat.le_of_ble_eq_true rfl⟩ rfl rfl h_a0 (q := (RMo, TMo, 131)) rfl rfl hl.1 rfl (Nat.le_of_ble_eq_true rfl) rfl ⟨Nat.le_refl _, Nat.le_refl _⟩ d_Mo_act_695 (fun s_62 H locs h hP hD hS => ?_)
              exact J_698 s_62 H locs h hP hD hS ls (lv_sub hl [] rfl)
        replace h := h.2 e116_25
        by_cases e116_26 : x1j100 = 26
        · skip
          have h := h.1 e116_26
          refine lv_tableIn (off := 565) (tgt := 681) G.1 G.2.1 d_Mo_act_116 (by rw [e116_26]; decide) (by rw [e116_26]; decide) (by rw [e116_26]; rfl) (by decide) ?_
          refine lv_iload_n G.1 G.2.1 d_Mo_act_681 rfl (lv_at hl 2 rfl) ?_
          refine W.eq (g2 := F0 m 682 ls [.int x1j100]) rfl ?_
          refine lv_bipush (v := 8) G.1 G.2.1 d_Mo_act_682 (by decide) ?_
          refine lv_icmp_lt (tgt := 698) G.1 G.2.1 d_Mo_act_684 (by decide) (fun c684 => ?_) (fun c684 => ?_)
          · skip
            have h := h.1 c684
            exact J_698 s_5 H locs h hP hD hS ls (lv_sub hl [] rfl)
          · skip
            have h := h.2 c684
            refine lv_iload_n G.1 G.2.1 d_Mo_act_687 rfl (lv_at hl 2 rfl) ?_
            refine lv_bipush (v := 18) G.1 G.2.1 d_Mo_act_688 (by decide) ?_
            refine lv_icmp_gt (tgt := 698) G.1 G.2.1 d_Mo_act_690 (by decide) (fun c690 => ?_) (fun c690 => ?_)
            · skip
              have h := h.1 c690
              exact J_698 s_5 H locs h hP hD hS ls (lv_sub hl [] rfl)
            · skip
              have h := h.2 c690
              refine lv_aload_n G.1 G.2.1 d_Mo_act_693 rfl (lv_at hl 1 rfl) ?_
              refine lv_iconst (v := 1) G.1 G.2.1 d_Mo_act_694 (by decide) ?_
              refine ucVv (As := [.int 1]) (rest := []) G hP hD hS (cu_Mo_lay l D g ad y _ s_5 a0 1 H.size h_a0 h) w9_Mo_lay q3779 ⟨Nat.le_of_ble_eq_true rfl, Nat.le_of_ble_eq_true rfl⟩ rfl rfl h_a0 (q := (RMo, TMo, 131)) rfl rfl hl.1 rfl (Nat.le_of_ble_eq_true rfl) rfl ⟨Nat.le_refl _, Nat.le_refl _⟩ d_Mo_act_695 (fun s_64 H locs h hP hD hS => ?_)
              exact J_698 s_64 H locs h hP hD hS ls (lv_sub hl [] rfl)
        replace h := h.2 e116_26
        by_cases e116_27 : x1j100 = 27
        · skip
          have h := h.1 e116_27
          refine lv_tableIn (off := 565) (tgt := 681) G.1 G.2.1 d_Mo_act_116 (by rw [e116_27]; decide) (by rw [e116_27]; decide) (by rw [e116_27]; rfl) (by decide) ?_
          refine lv_iload_n G.1 G.2.1 d_Mo_act_681 rfl (lv_at hl 2 rfl) ?_
          refine W.eq (g2 := F0 m 682 ls [.int x1j100]) rfl ?_
          refine lv_bipush (v := 8) G.1 G.2.1 d_Mo_act_682 (by decide) ?_
          refine lv_icmp_lt (tgt := 698) G.1 G.2.1 d_Mo_act_684 (by decide) (fun c684 => ?_) (fun c684 => ?_)
          · skip
            have h := h.1 c684
            exact J_698 s_5 H locs h hP hD hS ls (lv_sub hl [] rfl)
          · skip
            have h := h.2 c684
            refine lv_iload_n G.1 G.2.1 d_Mo_act_687 rfl (lv_at hl 2 rfl) ?_
            refine lv_bipush (v := 18) G.1 G.2.1 d_Mo_act_688 (by decide) ?_
            refine lv_icmp_gt (tgt := 698) G.1 G.2.1 d_Mo_act_690 (by decide) (fun c690 => ?_) (fun c690 => ?_)
            · skip
              have h := h.1 c690
              exact J_698 s_5 H locs h hP hD hS ls (lv_sub hl [] rfl)
            · skip
              have h := h.2 c690
              refine lv_aload_n G.1 G.2.1 d_Mo_act_693 rfl (lv_at hl 1 rfl) ?_
              refine lv_iconst (v := 1) G.1 G.2.1 d_Mo_act_694 (by decide) ?_
              refine ucVv (As := [.int 1]) (rest := []) G hP hD hS (cu_Mo_lay l D g ad y _ s_5 a0 1 H.size h_a0 h) w9_Mo_lay q3779 ⟨Nat.le_of_ble_eq_true rfl, Nat.le_of_ble_eq_true rfl⟩ rfl rfl h_a0 (q := (RMo, TMo, 131)) rfl rfl hl.1 rfl (Nat.le_of_ble_eq_true rfl) rfl ⟨Nat.le_refl _, Nat.le_refl _⟩ d_Mo_act_695 (fun s_66 H locs h hP hD hS => ?_)
              exact J_698 s_66 H locs h hP hD hS ls (lv_sub hl [] rfl)
        replace h := h.2 e116_27
        by_cases e116_28 : x1j100 = 28
        · skip
          have h := h.1 e116_28
          refine lv_tableIn (off := 565) (tgt := 681) G.1 G.2.1 d_Mo_act_116 (by rw [e116_28]; decide) (by rw [e116_28]; decide) (by rw [e116_28]; rfl) (by decide) ?_
          refine lv_iload_n G.1 G.2.1 d_Mo_act_681 rfl (lv_at hl 2 rfl) ?_
          refine W.eq (g2 := F0 m 682 ls [.int x1j100]) rfl ?_
          refine lv_bipush (v := 8) G.1 G.2.1 d_Mo_act_682 (by decide) ?_
          refine lv_icmp_lt (tgt := 698) G.1 G.2.1 d_Mo_act_684 (by decide) (fun c684 => ?_) (fun c684 => ?_)
          · skip
            have h := h.1 c684
            exact J_698 s_5 H locs h hP hD hS ls (lv_sub hl [] rfl)
          · skip
            have h := h.2 c684
            refine lv_iload_n G.1 G.2.1 d_Mo_act_687 rfl (lv_at hl 2 rfl) ?_
            refine lv_bipush (v := 18) G.1 G.2.1 d_Mo_act_688 (by decide) ?_
            refine lv_icmp_gt (tgt := 698) G.1 G.2.1 d_Mo_act_690 (by decide) (fun c690 => ?_) (fun c690 => ?_)
            · skip
              have h := h.1 c690
              exact J_698 s_5 H locs h hP hD hS ls (lv_sub hl [] rfl)
            · skip
              have h := h.2 c690
              refine lv_aload_n G.1 G.2.1 d_Mo_act_693 rfl (lv_at hl 1 rfl) ?_
              refine lv_iconst (v := 1) G.1 G.2.1 d_Mo_act_694 (by decide) ?_
              refine ucVv (As := [.int 1]) (rest := []) G hP hD hS (cu_Mo_lay l D g ad y _ s_5 a0 1 H.size h_a0 h) w9_Mo_lay q3779 ⟨Nat.le_of_ble_eq_true rfl, Nat.le_of_ble_eq_true rfl⟩ rfl rfl h_a0 (q := (RMo, TMo, 131)) rfl rfl hl.1 rfl (Nat.le_of_ble_eq_true rfl) rfl ⟨Nat.le_refl _, Nat.le_refl _⟩ d_Mo_act_695 (fun s_68 H locs h hP hD hS => ?_)
              exact J_698 s_68 H locs h hP hD hS ls (lv_sub hl [] rfl)
        replace h := h.2 e116_28
        by_cases e116_29 : x1j100 = 29
        · skip
          have h := h.1 e116_29
          refine lv_tableIn (off := 565) (tgt := 681) G.1 G.2.1 d_Mo_act_116 (by rw [e116_29]; decide) (by rw [e116_29]; decide) (by rw [e116_29]; rfl) (by decide) ?_
          refine lv_iload_n G.1 G.2.1 d_Mo_act_681 rfl (lv_at hl 2 rfl) ?_
          refine W.eq (g2 := F0 m 682 ls [.int x1j100]) rfl ?_
          refine lv_bipush (v := 8) G.1 G.2.1 d_Mo_act_682 (by decide) ?_
          refine lv_icmp_lt (tgt := 698) G.1 G.2.1 d_Mo_act_684 (by decide) (fun c684 => ?_) (fun c684 => ?_)
          · skip
            have h := h.1 c684
            exact J_698 s_5 H locs h hP hD hS ls (lv_sub hl [] rfl)
          · skip
            have h := h.2 c684
            refine lv_iload_n G.1 G.2.1 d_Mo_act_687 rfl (lv_at hl 2 rfl) ?_
            refine lv_bipush (v := 18) G.1 G.2.1 d_Mo_act_688 (by decide) ?_
            refine lv_icmp_gt (tgt := 698) G.1 G.2.1 d_Mo_act_690 (by decide) (fun c690 => ?_) (fun c690 => ?_)
            · skip
              have h := h.1 c690
              exact J_698 s_5 H locs h hP hD hS ls (lv_sub hl [] rfl)
            · skip
              have h := h.2 c690
              refine lv_aload_n G.1 G.2.1 d_Mo_act_693 rfl (lv_at hl 1 rfl) ?_
              refine lv_iconst (v := 1) G.1 G.2.1 d_Mo_act_694 (by decide) ?_
              refine ucVv (As := [.int 1]) (rest := []) G hP hD hS (cu_Mo_lay l D g ad y _ s_5 a0 1 H.size h_a0 h) w9_Mo_lay q3779 ⟨Nat.le_of_ble_eq_true rfl, Nat.le_of_ble_eq_true rfl⟩ rfl rfl h_a0 (q := (RMo, TMo, 131)) rfl rfl hl.1 rfl (Nat.le_of_ble_eq_true rfl) rfl ⟨Nat.le_refl _, Nat.le_refl _⟩ d_Mo_act_695 (fun s_70 H locs h hP hD hS => ?_)
              exact J_698 s_70 H locs h hP hD hS ls (lv_sub hl [] rfl)
        replace h := h.2 e116_29
        by_cases e116_30 : x1j100 = 30
        · skip
          have h := h.1 e116_30
          refine lv_tableIn (off := 565) (tgt := 681) G.1 G.2.1 d_Mo_act_116 (by rw [e116_30]; decide) (by rw [e116_30]; decide) (by rw [e116_30]; rfl) (by decide) ?_
          refine lv_iload_n G.1 G.2.1 d_Mo_act_681 rfl (lv_at hl 2 rfl) ?_
          refine W.eq (g2 := F0 m 682 ls [.int x1j100]) rfl ?_
          refine lv_bipush (v := 8) G.1 G.2.1 d_Mo_act_682 (by decide) ?_
          refine lv_icmp_lt (tgt := 698) G.1 G.2.1 d_Mo_act_684 (by decide) (fun c684 => ?_) (fun c684 => ?_)
          · skip
            have h := h.1 c684
            exact J_698 s_5 H locs h hP hD hS ls (lv_sub hl [] rfl)
          · skip
            have h := h.2 c684
            refine lv_iload_n G.1 G.2.1 d_Mo_act_687 rfl (lv_at hl 2 rfl) ?_
            refine lv_bipush (v := 18) G.1 G.2.1 d_Mo_act_688 (by decide) ?_
            refine lv_icmp_gt (tgt := 698) G.1 G.2.1 d_Mo_act_690 (by decide) (fun c690 => ?_) (fun c690 => ?_)
            · skip
              have h := h.1 c690
              exact J_698 s_5 H locs h hP hD hS ls (lv_sub hl [] rfl)
            · skip
              have h := h.2 c690
              refine lv_aload_n G.1 G.2.1 d_Mo_act_693 rfl (lv_at hl 1 rfl) ?_
              refine lv_iconst (v := 1) G.1 G.2.1 d_Mo_act_694 (by decide) ?_
              refine ucVv (As := [.int 1]) (rest := []) G hP hD hS (cu_Mo_lay l D g ad y _ s_5 a0 1 H.size h_a0 h) w9_Mo_lay q3779 ⟨Nat.le_of_ble_eq_true rfl, Nat.le_of_ble_eq_true rfl⟩ rfl rfl h_a0 (q := (RMo, TMo, 131)) rfl rfl hl.1 rfl (Nat.le_of_ble_eq_true rfl) rfl ⟨Nat.le_refl _, Nat.le_refl _⟩ d_Mo_act_695 (fun s_72 H locs h hP hD hS => ?_)
              exact J_698 s_72 H locs h hP hD hS ls (lv_sub hl [] rfl)
        replace h := h.2 e116_30
        by_cases e116_31 : x1j100 = 31
        · skip
          have h := h.1 e116_31
          refine lv_tableIn (off := 565) (tgt := 681) G.1 G.2.1 d_Mo_act_116 (by rw [e116_31]; decide) (by rw [e116_31]; decide) (by rw [e116_31]; rfl) (by decide) ?_
          refine lv_iload_n G.1 G.2.1 d_Mo_act_681 rfl (lv_at hl 2 rfl) ?_
          refine W.eq (g2 := F0 m 682 ls [.int x1j100]) rfl ?_
          refine lv_bipush (v := 8) G.1 G.2.1 d_Mo_act_682 (by decide) ?_
          refine lv_icmp_lt (tgt := 698) G.1 G.2.1 d_Mo_act_684 (by decide) (fun c684 => ?_) (fun c684 => ?_)
          · skip
            have h := h.1 c684
            exact J_698 s_5 H locs h hP hD hS ls (lv_sub hl [] rfl)
          · skip
            have h := h.2 c684
            refine lv_iload_n G.1 G.2.1 d_Mo_act_687 rfl (lv_at hl 2 rfl) ?_
            refine lv_bipush (v := 18) G.1 G.2.1 d_Mo_act_688 (by decide) ?_
            refine lv_icmp_gt (tgt := 698) G.1 G.2.1 d_Mo_act_690 (by decide) (fun c690 => ?_) (fun c690 => ?_)
            · skip
              have h := h.1 c690
              exact J_698 s_5 H locs h hP hD hS ls (lv_sub hl [] rfl)
            · skip
              have h := h.2 c690
              refine lv_aload_n G.1 G.2.1 d_Mo_act_693 rfl (lv_at hl 1 rfl) ?_
              refine lv_iconst (v := 1) G.1 G.2.1 d_Mo_act_694 (by decide) ?_
              refine ucVv (As := [.int 1]) (rest := []) G hP hD hS (cu_Mo_lay l D g ad y _ s_5 a0 1 H.size h_a0 h) w9_Mo_lay q3779 ⟨Nat.le_of_ble_eq_true rfl, Nat.le_of_ble_eq_true rfl⟩ rfl rfl h_a0 (q := (RMo, TMo, 131)) rfl rfl hl.1 rfl (Nat.le_of_ble_eq_true rfl) rfl ⟨Nat.le_refl _, Nat.le_refl _⟩ d_Mo_act_695 (fun s_74 H locs h hP hD hS => ?_)
              exact J_698 s_74 H locs h hP hD hS ls (lv_sub hl [] rfl)
        replace h := h.2 e116_31
        by_cases e116_32 : x1j100 = 32
        · skip
          have h := h.1 e116_32
          refine lv_tableIn (off := 565) (tgt := 681) G.1 G.2.1 d_Mo_act_116 (by rw [e116_32]; decide) (by rw [e116_32]; decide) (by rw [e116_32]; rfl) (by decide) ?_
          refine lv_iload_n G.1 G.2.1 d_Mo_act_681 rfl (lv_at hl 2 rfl) ?_
          refine W.eq (g2 := F0 m 682 ls [.int x1j100]) rfl ?_
          refine lv_bipush (v := 8) G.1 G.2.1 d_Mo_act_682 (by decide) ?_
          refine lv_icmp_lt (tgt := 698) G.1 G.2.1 d_Mo_act_684 (by decide) (fun c684 => ?_) (fun c684 => ?_)
          · skip
            have h := h.1 c684
            exact J_698 s_5 H locs h hP hD hS ls (lv_sub hl [] rfl)
          · skip
            have h := h.2 c684
            refine lv_iload_n G.1 G.2.1 d_Mo_act_687 rfl (lv_at hl 2 rfl) ?_
            refine lv_bipush (v := 18) G.1 G.2.1 d_Mo_act_688 (by decide) ?_
            refine lv_icmp_gt (tgt := 698) G.1 G.2.1 d_Mo_act_690 (by decide) (fun c690 => ?_) (fun c690 => ?_)
            · skip
              have h := h.1 c690
              exact J_698 s_5 H locs h hP hD hS ls (lv_sub hl [] rfl)
            · skip
              have h := h.2 c690
              refine lv_aload_n G.1 G.2.1 d_Mo_act_693 rfl (lv_at hl 1 rfl) ?_
              refine lv_iconst (v := 1) G.1 G.2.1 d_Mo_act_694 (by decide) ?_
              refine ucVv (As := [.int 1]) (rest := []) G hP hD hS (cu_Mo_lay l D g ad y _ s_5 a0 1 H.size h_a0 h) w9_Mo_lay q3779 ⟨Nat.le_of_ble_eq_true rfl, Nat.le_of_ble_eq_true rfl⟩ rfl rfl h_a0 (q := (RMo, TMo, 131)) rfl rfl hl.1 rfl (Nat.le_of_ble_eq_true rfl) rfl ⟨Nat.le_refl _, Nat.le_refl _⟩ d_Mo_act_695 (fun s_76 H locs h hP hD hS => ?_)
              exact J_698 s_76 H locs h hP hD hS ls (lv_sub hl [] rfl)
        replace h := h.2 e116_32
        by_cases e116_33 : x1j100 = 33
        · skip
          have h := h.1 e116_33
          refine lv_tableIn (off := 565) (tgt := 681) G.1 G.2.1 d_Mo_act_116 (by rw [e116_33]; decide) (by rw [e116_33]; decide) (by rw [e116_33]; rfl) (by decide) ?_
          refine lv_iload_n G.1 G.2.1 d_Mo_act_681 rfl (lv_at hl 2 rfl) ?_
          refine W.eq (g2 := F0 m 682 ls [.int x1j100]) rfl ?_
          refine lv_bipush (v := 8) G.1 G.2.1 d_Mo_act_682 (by decide) ?_
          refine lv_icmp_lt (tgt := 698) G.1 G.2.1 d_Mo_act_684 (by decide) (fun c684 => ?_) (fun c684 => ?_)
          · skip
            have h := h.1 c684
            exact J_698 s_5 H locs h hP hD hS ls (lv_sub hl [] rfl)
          · skip
            have h := h.2 c684
            refine lv_iload_n G.1 G.2.1 d_Mo_act_687 rfl (lv_at hl 2 rfl) ?_
            refine lv_bipush (v := 18) G.1 G.2.1 d_Mo_act_688 (by decide) ?_
            refine lv_icmp_gt (tgt := 698) G.1 G.2.1 d_Mo_act_690 (by decide) (fun c690 => ?_) (fun c690 => ?_)
            · skip
              have h := h.1 c690
              exact J_698 s_5 H locs h hP hD hS ls (lv_sub hl [] rfl)
            · skip
              have h := h.2 c690
              refine lv_aload_n G.1 G.2.1 d_Mo_act_693 rfl (lv_at hl 1 rfl) ?_
              refine lv_iconst (v := 1) G.1 G.2.1 d_Mo_act_694 (by decide) ?_
              refine ucVv (As := [.int 1]) (rest := []) G hP hD hS (cu_Mo_lay l D g ad y _ s_5 a0 1 H.size h_a0 h) w9_Mo_lay q3779 ⟨Nat.le_of_ble_eq_true rfl, Nat.le_of_ble_eq_true rfl⟩ rfl rfl h_a0 (q := (RMo, TMo, 131)) rfl rfl hl.1 rfl (Nat.le_of_ble_eq_true rfl) rfl ⟨Nat.le_refl _, Nat.le_refl _⟩ d_Mo_act_695 (fun s_78 H locs h hP hD hS => ?_)
              exact J_698 s_78 H locs h hP hD hS ls (lv_sub hl [] rfl)
        replace h := h.2 e116_33
        by_cases e116_34 : x1j100 = 34
        · skip
          have h := h.1 e116_34
          refine lv_tableIn (off := 565) (tgt := 681) G.1 G.2.1 d_Mo_act_116 (by rw [e116_34]; decide) (by rw [e116_34]; decide) (by rw [e116_34]; rfl) (by decide) ?_
          refine lv_iload_n G.1 G.2.1 d_Mo_act_681 rfl (lv_at hl 2 rfl) ?_
          refine W.eq (g2 := F0 m 682 ls [.int x1j100]) rfl ?_
          refine lv_bipush (v := 8) G.1 G.2.1 d_Mo_act_682 (by decide) ?_
          refine lv_icmp_lt (tgt := 698) G.1 G.2.1 d_Mo_act_684 (by decide) (fun c684 => ?_) (fun c684 => ?_)
          · skip
            have h := h.1 c684
            exact J_698 s_5 H locs h hP hD hS ls (lv_sub hl [] rfl)
          · skip
            have h := h.2 c684
            refine lv_iload_n G.1 G.2.1 d_Mo_act_687 rfl (lv_at hl 2 rfl) ?_
            refine lv_bipush (v := 18) G.1 G.2.1 d_Mo_act_688 (by decide) ?_
            refine lv_icmp_gt (tgt := 698) G.1 G.2.1 d_Mo_act_690 (by decide) (fun c690 => ?_) (fun c690 => ?_)
            · skip
              have h := h.1 c690
              exact J_698 s_5 H locs h hP hD hS ls (lv_sub hl [] rfl)
            · skip
              have h := h.2 c690
              refine lv_aload_n G.1 G.2.1 d_Mo_act_693 rfl (lv_at hl 1 rfl) ?_
              refine lv_iconst (v := 1) G.1 G.2.1 d_Mo_act_694 (by decide) ?_
              refine ucVv (As := [.int 1]) (rest := []) G hP hD hS (cu_Mo_lay l D g ad y _ s_5 a0 1 H.size h_a0 h) w9_Mo_lay q3779 ⟨Nat.le_of_ble_eq_true rfl, Nat.le_of_ble_eq_true rfl⟩ rfl rfl h_a0 (q := (RMo, TMo, 131)) rfl rfl hl.1 rfl (Nat.le_of_ble_eq_true rfl) rfl ⟨Nat.le_refl _, Nat.le_refl _⟩ d_Mo_act_695 (fun s_80 H locs h hP hD hS => ?_)
              exact J_698 s_80 H locs h hP hD hS ls (lv_sub hl [] rfl)
        replace h := h.2 e116_34
        by_cases e116_35 : x1j100 = 35
        · skip
          have h := h.1 e116_35
          refine lv_tableIn (off := 565) (tgt := 681) G.1 G.2.1 d_Mo_act_116 (by rw [e116_35]; decide) (by rw [e116_35]; decide) (by rw [e116_35]; rfl) (by decide) ?_
          refine lv_iload_n G.1 G.2.1 d_Mo_act_681 rfl (lv_at hl 2 rfl) ?_
          refine W.eq (g2 := F0 m 682 ls [.int x1j100]) rfl ?_
          refine lv_bipush (v := 8) G.1 G.2.1 d_Mo_act_682 (by decide) ?_
          refine lv_icmp_lt (tgt := 698) G.1 G.2.1 d_Mo_act_684 (by decide) (fun c684 => ?_) (fun c684 => ?_)
          · skip
            have h := h.1 c684
            exact J_698 s_5 H locs h hP hD hS ls (lv_sub hl [] rfl)
          · skip
            have h := h.2 c684
            refine lv_iload_n G.1 G.2.1 d_Mo_act_687 rfl (lv_at hl 2 rfl) ?_
            refine lv_bipush (v := 18) G.1 G.2.1 d_Mo_act_688 (by decide) ?_
            refine lv_icmp_gt (tgt := 698) G.1 G.2.1 d_Mo_act_690 (by decide) (fun c690 => ?_) (fun c690 => ?_)
            · skip
              have h := h.1 c690
              exact J_698 s_5 H locs h hP hD hS ls (lv_sub hl [] rfl)
            · skip
              have h := h.2 c690
              refine lv_aload_n G.1 G.2.1 d_Mo_act_693 rfl (lv_at hl 1 rfl) ?_
              refine lv_iconst (v := 1) G.1 G.2.1 d_Mo_act_694 (by decide) ?_
              refine ucVv (As := [.int 1]) (rest := []) G hP hD hS (cu_Mo_lay l D g ad y _ s_5 a0 1 H.size h_a0 h) w9_Mo_lay q3779 ⟨Nat.le_of_ble_eq_true rfl, Nat.le_of_ble_eq_true rfl⟩ rfl rfl h_a0 (q := (RMo, TMo, 131)) rfl rfl hl.1 rfl (Nat.le_of_ble_eq_true rfl) rfl ⟨Nat.le_refl _, Nat.le_refl _⟩ d_Mo_act_695 (fun s_82 H locs h hP hD hS => ?_)
              exact J_698 s_82 H locs h hP hD hS ls (lv_sub hl [] rfl)
        replace h := h.2 e116_35
        by_cases e116_36 : x1j100 = 36
        · skip
          have h := h.1 e116_36
          refine lv_tableIn (off := 565) (tgt := 681) G.1 G.2.1 d_Mo_act_116 (by rw [e116_36]; decide) (by rw [e116_36]; decide) (by rw [e116_36]; rfl) (by decide) ?_
          refine lv_iload_n G.1 G.2.1 d_Mo_act_681 rfl (lv_at hl 2 rfl) ?_
          refine W.eq (g2 := F0 m 682 ls [.int x1j100]) rfl ?_
          refine lv_bipush (v := 8) G.1 G.2.1 d_Mo_act_682 (by decide) ?_
          refine lv_icmp_lt (tgt := 698) G.1 G.2.1 d_Mo_act_684 (by decide) (fun c684 => ?_) (fun c684 => ?_)
          · skip
            have h := h.1 c684
            exact J_698 s_5 H locs h hP hD hS ls (lv_sub hl [] rfl)
          · skip
            have h := h.2 c684
            refine lv_iload_n G.1 G.2.1 d_Mo_act_687 rfl (lv_at hl 2 rfl) ?_
            refine lv_bipush (v := 18) G.1 G.2.1 d_Mo_act_688 (by decide) ?_
            refine lv_icmp_gt (tgt := 698) G.1 G.2.1 d_Mo_act_690 (by decide) (fun c690 => ?_) (fun c690 => ?_)
            · skip
              have h := h.1 c690
              exact J_698 s_5 H locs h hP hD hS ls (lv_sub hl [] rfl)
            · skip
              have h := h.2 c690
              refine lv_aload_n G.1 G.2.1 d_Mo_act_693 rfl (lv_at hl 1 rfl) ?_
              refine lv_iconst (v := 1) G.1 G.2.1 d_Mo_act_694 (by decide) ?_
              refine ucVv (As := [.int 1]) (rest := []) G hP hD hS (cu_Mo_lay l D g ad y _ s_5 a0 1 H.size h_a0 h) w9_Mo_lay q3779 ⟨Nat.le_of_ble_eq_true rfl, Nat.le_of_ble_eq_true rfl⟩ rfl rfl h_a0 (q := (RMo, TMo, 131)) rfl rfl hl.1 rfl (Nat.le_of_ble_eq_true rfl) rfl ⟨Nat.le_refl _, Nat.le_refl _⟩ d_Mo_act_695 (fun s_84 H locs h hP hD hS => ?_)
              exact J_698 s_84 H locs h hP hD hS ls (lv_sub hl [] rfl)
        replace h := h.2 e116_36
        by_cases e116_37 : x1j100 = 37
        · skip
          have h := h.1 e116_37
          refine lv_tableIn (off := 565) (tgt := 681) G.1 G.2.1 d_Mo_act_116 (by rw [e116_37]; decide) (by rw [e116_37]; decide) (by rw [e116_37]; rfl) (by decide) ?_
          refine lv_iload_n G.1 G.2.1 d_Mo_act_681 rfl (lv_at hl 2 rfl) ?_
          refine W.eq (g2 := F0 m 682 ls [.int x1j100]) rfl ?_
          refine lv_bipush (v := 8) G.1 G.2.1 d_Mo_act_682 (by decide) ?_
          refine lv_icmp_lt (tgt := 698) G.1 G.2.1 d_Mo_act_684 (by decide) (fun c684 => ?_) (fun c684 => ?_)
          · skip
            have h := h.1 c684
            exact J_698 s_5 H locs h hP hD hS ls (lv_sub hl [] rfl)
          · skip
            have h := h.2 c684
            refine lv_iload_n G.1 G.2.1 d_Mo_act_687 rfl (lv_at hl 2 rfl) ?_
            refine lv_bipush (v := 18) G.1 G.2.1 d_Mo_act_688 (by decide) ?_
            refine lv_icmp_gt (tgt := 698) G.1 G.2.1 d_Mo_act_690 (by decide) (fun c690 => ?_) (fun c690 => ?_)
            · skip
              have h := h.1 c690
              exact J_698 s_5 H locs h hP hD hS ls (lv_sub hl [] rfl)
            · skip
              have h := h.2 c690
              refine lv_aload_n G.1 G.2.1 d_Mo_act_693 rfl (lv_at hl 1 rfl) ?_
              refine lv_iconst (v := 1) G.1 G.2.1 d_Mo_act_694 (by decide) ?_
              refine ucVv (As := [.int 1]) (rest := []) G hP hD hS (cu_Mo_lay l D g ad y _ s_5 a0 1 H.size h_a0 h) w9_Mo_lay q3779 ⟨Nat.le_of_ble_eq_true rfl, Nat.le_of_ble_eq_true rfl⟩ rfl rfl h_a0 (q := (RMo, TMo, 131)) rfl rfl hl.1 rfl (Nat.le_of_ble_eq_true rfl) rfl ⟨Nat.le_refl _, Nat.le_refl _⟩ d_Mo_act_695 (fun s_86 H locs h hP hD hS => ?_)
              exact J_698 s_86 H locs h hP hD hS ls (lv_sub hl [] rfl)
        replace h := h.2 e116_37
        by_cases e116_38 : x1j100 = 38
        · skip
          have h := h.1 e116_38
          refine lv_tableIn (off := 565) (tgt := 681) G.1 G.2.1 d_Mo_act_116 (by rw [e116_38]; decide) (by rw [e116_38]; decide) (by rw [e116_38]; rfl) (by decide) ?_
          refine lv_iload_n G.1 G.2.1 d_Mo_act_681 rfl (lv_at hl 2 rfl) ?_
          refine W.eq (g2 := F0 m 682 ls [.int x1j100]) rfl ?_
          refine lv_bipush (v := 8) G.1 G.2.1 d_Mo_act_682 (by decide) ?_
          refine lv_icmp_lt (tgt := 698) G.1 G.2.1 d_Mo_act_684 (by decide) (fun c684 => ?_) (fun c684 => ?_)
          · skip
            have h := h.1 c684
            exact J_698 s_5 H locs h hP hD hS ls (lv_sub hl [] rfl)
          · skip
            have h := h.2 c684
            refine lv_iload_n G.1 G.2.1 d_Mo_act_687 rfl (lv_at hl 2 rfl) ?_
            refine lv_bipush (v := 18) G.1 G.2.1 d_Mo_act_688 (by decide) ?_
            refine lv_icmp_gt (tgt := 698) G.1 G.2.1 d_Mo_act_690 (by decide) (fun c690 => ?_) (fun c690 => ?_)
            · skip
              have h := h.1 c690
              exact J_698 s_5 H locs h hP hD hS ls (lv_sub hl [] rfl)
            · skip
              have h := h.2 c690
              refine lv_aload_n G.1 G.2.1 d_Mo_act_693 rfl (lv_at hl 1 rfl) ?_
              refine lv_iconst (v := 1) G.1 G.2.1 d_Mo_act_694 (by decide) ?_
              refine ucVv (As := [.int 1]) (rest := []) G hP hD hS (cu_Mo_lay l D g ad y _ s_5 a0 1 H.size h_a0 h) w9_Mo_lay q3779 ⟨Nat.le_of_ble_eq_true rfl, Nat.le_of_ble_eq_true rfl⟩ rfl rfl h_a0 (q := (RMo, TMo, 131)) rfl rfl hl.1 rfl (Nat.le_of_ble_eq_true rfl) rfl ⟨Nat.le_refl _, Nat.le_refl _⟩ d_Mo_act_695 (fun s_88 H locs h hP hD hS => ?_)
              exact J_698 s_88 H locs h hP hD hS ls (lv_sub hl [] rfl)
        replace h := h.2 e116_38
        by_cases e116_39 : x1j100 = 39
        · skip
          have h := h.1 e116_39
          refine lv_tableIn (off := 565) (tgt := 681) G.1 G.2.1 d_Mo_act_116 (by rw [e116_39]; decide) (by rw [e116_39]; decide) (by rw [e116_39]; rfl) (by decide) ?_
          refine lv_iload_n G.1 G.2.1 d_Mo_act_681 rfl (lv_at hl 2 rfl) ?_
          refine W.eq (g2 := F0 m 682 ls [.int x1j100]) rfl ?_
          refine lv_bipush (v := 8) G.1 G.2.1 d_Mo_act_682 (by decide) ?_
          refine lv_icmp_lt (tgt := 698) G.1 G.2.1 d_Mo_act_684 (by decide) (fun c684 => ?_) (fun c684 => ?_)
          · skip
            have h := h.1 c684
            exact J_698 s_5 H locs h hP hD hS ls (lv_sub hl [] rfl)
          · skip
            have h := h.2 c684
            refine lv_iload_n G.1 G.2.1 d_Mo_act_687 rfl (lv_at hl 2 rfl) ?_
            refine lv_bipush (v := 18) G.1 G.2.1 d_Mo_act_688 (by decide) ?_
            refine lv_icmp_gt (tgt := 698) G.1 G.2.1 d_Mo_act_690 (by decide) (fun c690 => ?_) (fun c690 => ?_)
            · skip
              have h := h.1 c690
              exact J_698 s_5 H locs h hP hD hS ls (lv_sub hl [] rfl)
            · skip
              have h := h.2 c690
              refine lv_aload_n G.1 G.2.1 d_Mo_act_693 rfl (lv_at hl 1 rfl) ?_
              refine lv_iconst (v := 1) G.1 G.2.1 d_Mo_act_694 (by decide) ?_
              refine ucVv (As := [.int 1]) (rest := []) G hP hD hS (cu_Mo_lay l D g ad y _ s_5 a0 1 H.size h_a0 h) w9_Mo_lay q3779 ⟨Nat.le_of_ble_eq_true rfl, Nat.le_of_ble_eq_true rfl⟩ rfl rfl h_a0 (q := (RMo, TMo, 131)) rfl rfl hl.1 rfl (Nat.le_of_ble_eq_true rfl) rfl ⟨Nat.le_refl _, Nat.le_refl _⟩ d_Mo_act_695 (fun s_90 H locs h hP hD hS => ?_)
              exact J_698 s_90 H locs h hP hD hS ls (lv_sub hl [] rfl)
        replace h := h.2 e116_39
        by_cases e116_40 : x1j100 = 40
        · skip
          have h := h.1 e116_40
          refine lv_tableIn (off := 565) (tgt := 681) G.1 G.2.1 d_Mo_act_116 (by rw [e116_40]; decide) (by rw [e116_40]; decide) (by rw [e116_40]; rfl) (by decide) ?_
          refine lv_iload_n G.1 G.2.1 d_Mo_act_681 rfl (lv_at hl 2 rfl) ?_
          refine W.eq (g2 := F0 m 682 ls [.int x1j100]) rfl ?_
          refine lv_bipush (v := 8) G.1 G.2.1 d_Mo_act_682 (by decide) ?_
          refine lv_icmp_lt (tgt := 698) G.1 G.2.1 d_Mo_act_684 (by decide) (fun c684 => ?_) (fun c684 => ?_)
          · skip
            have h := h.1 c684
            exact J_698 s_5 H locs h hP hD hS ls (lv_sub hl [] rfl)
          · skip
            have h := h.2 c684
            refine lv_iload_n G.1 G.2.1 d_Mo_act_687 rfl (lv_at hl 2 rfl) ?_
            refine lv_bipush (v := 18) G.1 G.2.1 d_Mo_act_688 (by decide) ?_
            refine lv_icmp_gt (tgt := 698) G.1 G.2.1 d_Mo_act_690 (by decide) (fun c690 => ?_) (fun c690 => ?_)
            · skip
              have h := h.1 c690
              exact J_698 s_5 H locs h hP hD hS ls (lv_sub hl [] rfl)
            · skip
              have h := h.2 c690
              refine lv_aload_n G.1 G.2.1 d_Mo_act_693 rfl (lv_at hl 1 rfl) ?_
              refine lv_iconst (v := 1) G.1 G.2.1 d_Mo_act_694 (by decide) ?_
              refine ucVv (As := [.int 1]) (rest := []) G hP hD hS (cu_Mo_lay l D g ad y _ s_5 a0 1 H.size h_a0 h) w9_Mo_lay q3779 ⟨Nat.le_of_ble_eq_true rfl, Nat.le_of_ble_eq_true rfl⟩ rfl rfl h_a0 (q := (RMo, TMo, 131)) rfl rfl hl.1 rfl (Nat.le_of_ble_eq_true rfl) rfl ⟨Nat.le_refl _, Nat.le_refl _⟩ d_Mo_act_695 (fun s_92 H locs h hP hD hS => ?_)
              exact J_698 s_92 H locs h hP hD hS ls (lv_sub hl [] rfl)
        replace h := h.2 e116_40
        by_cases e116_41 : x1j100 = 41
        · skip
          have h := h.1 e116_41
          refine lv_tableIn (off := 350) (tgt := 466) G.1 G.2.1 d_Mo_act_116 (by rw [e116_41]; decide) (by rw [e116_41]; decide) (by rw [e116_41]; rfl) (by decide) ?_
          refine lv_aload_n G.1 G.2.1 d_Mo_act_466 rfl (lv_at hl 1 rfl) ?_
          refine W.eq (g2 := F0 m 467 ls [.ref (ad a0)]) rfl ?_
          refine lv_iconst (v := (-1)) G.1 G.2.1 d_Mo_act_467 (by decide) ?_
          refine lv_iload_n G.1 G.2.1 d_Mo_act_468 rfl (lv_at hl 4 rfl) ?_
          refine lv_isub G.1 G.2.1 d_Mo_act_469 ?_
          refine ucVv (As := [.int ((-1) - x3j100)]) (rest := []) G hP hD hS (cu_Mo_lay l D g ad y _ s_5 a0 ((-1) - x3j100) H.size h_a0 h) w9_Mo_lay q3779 ⟨Nat.le_of_ble_eq_true rfl, Nat.le_of_ble_eq_true rfl⟩ rfl rfl h_a0 (q := (RMo, TMo, 131)) rfl rfl hl.1 rfl (Nat.le_of_ble_eq_true rfl) rfl ⟨Nat.le_refl _, Nat.le_refl _⟩ d_Mo_act_470 (fun s_94 H locs h hP hD hS => ?_)
          refine lv_goto (tgt := 698) G.1 G.2.1 d_Mo_act_473 (by decide) ?_
          exact J_698 s_94 H locs h hP hD hS ls (lv_sub hl [] rfl)
        replace h := h.2 e116_41
        by_cases e116_42 : x1j100 = 42
        · skip
          have h := h.1 e116_42
          refine lv_tableIn (off := 236) (tgt := 352) G.1 G.2.1 d_Mo_act_116 (by rw [e116_42]; decide) (by rw [e116_42]; decide) (by rw [e116_42]; rfl) (by decide) ?_
          refine lv_aload_n G.1 G.2.1 d_Mo_act_352 rfl (lv_at hl 1 rfl) ?_
          refine W.eq (g2 := F0 m 353 ls [.ref (ad a0)]) rfl ?_
          refine lv_iload_n G.1 G.2.1 d_Mo_act_353 rfl (lv_at hl 2 rfl) ?_
          refine lv_bipush (v := 42) G.1 G.2.1 d_Mo_act_354 (by decide) ?_
          have J_364 : ∀ (s_j364 : St) (z1j364 : Int32) (H : Heap) (locs : List Loc), wj_Mo_act_364 y Post a0 s_j364 z1j364 → va_P D CL (ws g ad y s_j364) H → va_D A (ws g ad y s_j364) → va_S A s.heap H locs → ∀ ls, lv_has ls 10 [] → W p l e ru_Mo_act s m args below meth c H locs 0 0 Q (F0 m 364 ls [.int z1j364, .ref (ad a0)]) := by
            intro s_j364 z1j364 H locs h hP hD hS ls hl
            unfold wj_Mo_act_364 at h
            refine ucVv (As := [.int z1j364]) (rest := []) G hP hD hS (cu_Mo_lay l D g ad y _ s_j364 a0 z1j364 H.size h_a0 h) w9_Mo_lay q3779 ⟨Nat.le_of_ble_eq_true rfl, Nat.le_of_ble_eq_true rfl⟩ rfl rfl h_a0 (q := (RMo, TMo, 131)) rfl rfl hl.1 rfl (Nat.le_of_ble_eq_true rfl) rfl ⟨Nat.le_refl _, Nat.le_refl _⟩ d_Mo_act_364 (fun s_96 H locs h hP hD hS => ?_)
            refine lv_goto (tgt := 698) G.1 G.2.1 d_Mo_act_367 (by decide) ?_
            exact J_698 s_96 H locs h hP hD hS ls (lv_sub hl [] rfl)
          refine lv_icmp_ne (tgt := 363) G.1 G.2.1 d_Mo_act_356 (by decide) (fun c356 => ?_) (fun c356 => ?_)
          · skip
            have h := h.1 c356
            refine lv_iconst (v := 1) G.1 G.2.1 d_Mo_act_363 (by decide) ?_
            exact J_364 s_5 1 H locs h hP hD hS ls (lv_sub hl [] rfl)
          · skip
            have h := h.2 c356
            refine lv_iconst (v := 2) G.1 G.2.1 d_Mo_act_359 (by decide) ?_
            refine lv_goto (tgt := 364) G.1 G.2.1 d_Mo_act_360 (by decide) ?_
            exact J_364 s_5 2 H locs h hP hD hS ls (lv_sub hl [] rfl)
        replace h := h.2 e116_42
        by_cases e116_43 : x1j100 = 43
        · skip
          have h := h.1 e116_43
          refine lv_tableIn (off := 236) (tgt := 352) G.1 G.2.1 d_Mo_act_116 (by rw [e116_43]; decide) (by rw [e116_43]; decide) (by rw [e116_43]; rfl) (by decide) ?_
          refine lv_aload_n G.1 G.2.1 d_Mo_act_352 rfl (lv_at hl 1 rfl) ?_
          refine W.eq (g2 := F0 m 353 ls [.ref (ad a0)]) rfl ?_
          refine lv_iload_n G.1 G.2.1 d_Mo_act_353 rfl (lv_at hl 2 rfl) ?_
          refine lv_bipush (v := 42) G.1 G.2.1 d_Mo_act_354 (by decide) ?_
          have J_364 : ∀ (s_j364 : St) (z1j364 : Int32) (H : Heap) (locs : List Loc), wj_Mo_act_364 y Post a0 s_j364 z1j364 → va_P D CL (ws g ad y s_j364) H → va_D A (ws g ad y s_j364) → va_S A s.heap H locs → ∀ ls, lv_has ls 10 [] → W p l e ru_Mo_act s m args below meth c H locs 0 0 Q (F0 m 364 ls [.int z1j364, .ref (ad a0)]) := by
            intro s_j364 z1j364 H locs h hP hD hS ls hl
            unfold wj_Mo_act_364 at h
            refine ucVv (As := [.int z1j364]) (rest := []) G hP hD hS (cu_Mo_lay l D g ad y _ s_j364 a0 z1j364 H.size h_a0 h) w9_Mo_lay q3779 ⟨Nat.le_of_ble_eq_true rfl, Nat.le_of_ble_eq_true rfl⟩ rfl rfl h_a0 (q := (RMo, TMo, 131)) rfl rfl hl.1 rfl (Nat.le_of_ble_eq_true rfl) rfl ⟨Nat.le_refl _, Nat.le_refl _⟩ d_Mo_act_364 (fun s_98 H locs h hP hD hS => ?_)
            refine lv_goto (tgt := 698) G.1 G.2.1 d_Mo_act_367 (by decide) ?_
            exact J_698 s_98 H locs h hP hD hS ls (lv_sub hl [] rfl)
          refine lv_icmp_ne (tgt := 363) G.1 G.2.1 d_Mo_act_356 (by decide) (fun c356 => ?_) (fun c356 => ?_)
          · skip
            have h := h.1 c356
            refine lv_iconst (v := 1) G.1 G.2.1 d_Mo_act_363 (by decide) ?_
            exact J_364 s_5 1 H locs h hP hD hS ls (lv_sub hl [] rfl)
          · skip
            have h := h.2 c356
            refine lv_iconst (v := 2) G.1 G.2.1 d_Mo_act_359 (by decide) ?_
            refine lv_goto (tgt := 364) G.1 G.2.1 d_Mo_act_360 (by decide) ?_
            exact J_364 s_5 2 H locs h hP hD hS ls (lv_sub hl [] rfl)
        replace h := h.2 e116_43
        by_cases e116_44 : x1j100 = 44
        · skip
          have h := h.1 e116_44
          refine lv_tableIn (off := 565) (tgt := 681) G.1 G.2.1 d_Mo_act_116 (by rw [e116_44]; decide) (by rw [e116_44]; decide) (by rw [e116_44]; rfl) (by decide) ?_
          refine lv_iload_n G.1 G.2.1 d_Mo_act_681 rfl (lv_at hl 2 rfl) ?_
          refine W.eq (g2 := F0 m 682 ls [.int x1j100]) rfl ?_
          refine lv_bipush (v := 8) G.1 G.2.1 d_Mo_act_682 (by decide) ?_
          refine lv_icmp_lt (tgt := 698) G.1 G.2.1 d_Mo_act_684 (by decide) (fun c684 => ?_) (fun c684 => ?_)
          · skip
            have h := h.1 c684
            exact J_698 s_5 H locs h hP hD hS ls (lv_sub hl [] rfl)
          · skip
            have h := h.2 c684
            refine lv_iload_n G.1 G.2.1 d_Mo_act_687 rfl (lv_at hl 2 rfl) ?_
            refine lv_bipush (v := 18) G.1 G.2.1 d_Mo_act_688 (by decide) ?_
            refine lv_icmp_gt (tgt := 698) G.1 G.2.1 d_Mo_act_690 (by decide) (fun c690 => ?_) (fun c690 => ?_)
            · skip
              have h := h.1 c690
              exact J_698 s_5 H locs h hP hD hS ls (lv_sub hl [] rfl)
            · skip
              have h := h.2 c690
              refine lv_aload_n G.1 G.2.1 d_Mo_act_693 rfl (lv_at hl 1 rfl) ?_
              refine lv_iconst (v := 1) G.1 G.2.1 d_Mo_act_694 (by decide) ?_
              refine ucVv (As := [.int 1]) (rest := []) G hP hD hS (cu_Mo_lay l D g ad y _ s_5 a0 1 H.size h_a0 h) w9_Mo_lay q3779 ⟨Nat.le_of_ble_eq_true rfl, Nat.le_of_ble_eq_true rfl⟩ rfl rfl h_a0 (q := (RMo, TMo, 131)) rfl rfl hl.1 rfl (Nat.le_of_ble_eq_true rfl) rfl ⟨Nat.le_refl _, Nat.le_refl _⟩ d_Mo_act_695 (fun s_100 H locs h hP hD hS => ?_)
              exact J_698 s_100 H locs h hP hD hS ls (lv_sub hl [] rfl)
        replace h := h.2 e116_44
        by_cases e116_45 : x1j100 = 45
        · skip
          have h := h.1 e116_45
          refine lv_tableIn (off := 236) (tgt := 352) G.1 G.2.1 d_Mo_act_116 (by rw [e116_45]; decide) (by rw [e116_45]; decide) (by rw [e116_45]; rfl) (by decide) ?_
          refine lv_aload_n G.1 G.2.1 d_Mo_act_352 rfl (lv_at hl 1 rfl) ?_
          refine W.eq (g2 := F0 m 353 ls [.ref (ad a0)]) rfl ?_
          refine lv_iload_n G.1 G.2.1 d_Mo_act_353 rfl (lv_at hl 2 rfl) ?_
          refine lv_bipush (v := 42) G.1 G.2.1 d_Mo_act_354 (by decide) ?_
          have J_364 : ∀ (s_j364 : St) (z1j364 : Int32) (H : Heap) (locs : List Loc), wj_Mo_act_364 y Post a0 s_j364 z1j364 → va_P D CL (ws g ad y s_j364) H → va_D A (ws g ad y s_j364) → va_S A s.heap H locs → ∀ ls, lv_has ls 10 [] → W p l e ru_Mo_act s m args below meth c H locs 0 0 Q (F0 m 364 ls [.int z1j364, .ref (ad a0)]) := by
            intro s_j364 z1j364 H locs h hP hD hS ls hl
            unfold wj_Mo_act_364 at h
            refine ucVv (As := [.int z1j364]) (rest := []) G hP hD hS (cu_Mo_lay l D g ad y _ s_j364 a0 z1j364 H.size h_a0 h) w9_Mo_lay q3779 ⟨Nat.le_of_ble_eq_true rfl, Nat.le_of_ble_eq_true rfl⟩ rfl rfl h_a0 (q := (RMo, TMo, 131)) rfl rfl hl.1 rfl (Nat.le_of_ble_eq_true rfl) rfl ⟨Nat.le_refl _, Nat.le_refl _⟩ d_Mo_act_364 (fun s_102 H locs h hP hD hS => ?_)
            refine lv_goto (tgt := 698) G.1 G.2.1 d_Mo_act_367 (by decide) ?_
            exact J_698 s_102 H locs h hP hD hS ls (lv_sub hl [] rfl)
          refine lv_icmp_ne (tgt := 363) G.1 G.2.1 d_Mo_act_356 (by decide) (fun c356 => ?_) (fun c356 => ?_)
          · skip
            have h := h.1 c356
            refine lv_iconst (v := 1) G.1 G.2.1 d_Mo_act_363 (by decide) ?_
            exact J_364 s_5 1 H locs h hP hD hS ls (lv_sub hl [] rfl)
          · skip
            have h := h.2 c356
            refine lv_iconst (v := 2) G.1 G.2.1 d_Mo_act_359 (by decide) ?_
            refine lv_goto (tgt := 364) G.1 G.2.1 d_Mo_act_360 (by decide) ?_
            exact J_364 s_5 2 H locs h hP hD hS ls (lv_sub hl [] rfl)
        replace h := h.2 e116_45
        by_cases e116_46 : x1j100 = 46
        · skip
          have h := h.1 e116_46
          refine lv_tableIn (off := 360) (tgt := 476) G.1 G.2.1 d_Mo_act_116 (by rw [e116_46]; decide) (by rw [e116_46]; decide) (by rw [e116_46]; rfl) (by decide) ?_
          refine lv_aload_n G.1 G.2.1 d_Mo_act_476 rfl (lv_at hl 1 rfl) ?_
          refine W.eq (g2 := F0 m 477 ls [.ref (ad a0)]) rfl ?_
          refine lv_aload_n G.1 G.2.1 d_Mo_act_477 rfl (lv_at hl 1 rfl) ?_
          obtain ⟨b_103, e_104, c_105, h⟩ := h
          refine ugf (v := .ref (ad b_103)) G hP h_a0 iMo rfl 45 (by decide) rfl q3109 rfl (by show va_rf ((sO s_5 a0 45).map ad) = _; rw [e_104]; rfl) d_Mo_act_478 ?_
          refine ugfN (v := .ref (yP y b_103 33)) G hP c_105 iMw rfl 33 (by decide) rfl q2770 rfl rfl d_Mo_act_481 ?_
          refine lv_iload_n G.1 G.2.1 d_Mo_act_484 rfl (lv_at hl 3 rfl) ?_
          refine uiald G hP (kdp c_105 rfl) (typ c_105 rfl) h d_Mo_act_485 (fun x_106 h => ?_)
          refine ucVv (As := [.int x_106]) (rest := []) G hP hD hS (cu_Mo_lay l D g ad y _ s_5 a0 x_106 H.size h_a0 h) w9_Mo_lay q3779 ⟨Nat.le_of_ble_eq_true rfl, Nat.le_of_ble_eq_true rfl⟩ rfl rfl h_a0 (q := (RMo, TMo, 131)) rfl rfl hl.1 rfl (Nat.le_of_ble_eq_true rfl) rfl ⟨Nat.le_refl _, Nat.le_refl _⟩ d_Mo_act_486 (fun s_108 H locs h hP hD hS => ?_)
          refine lv_goto (tgt := 698) G.1 G.2.1 d_Mo_act_489 (by decide) ?_
          exact J_698 s_108 H locs h hP hD hS ls (lv_sub hl [] rfl)
        replace h := h.2 e116_46
        by_cases e116_47 : x1j100 = 47
        · skip
          have h := h.1 e116_47
          refine lv_tableIn (off := 565) (tgt := 681) G.1 G.2.1 d_Mo_act_116 (by rw [e116_47]; decide) (by rw [e116_47]; decide) (by rw [e116_47]; rfl) (by decide) ?_
          refine lv_iload_n G.1 G.2.1 d_Mo_act_681 rfl (lv_at hl 2 rfl) ?_
          refine W.eq (g2 := F0 m 682 ls [.int x1j100]) rfl ?_
          refine lv_bipush (v := 8) G.1 G.2.1 d_Mo_act_682 (by decide) ?_
          refine lv_icmp_lt (tgt := 698) G.1 G.2.1 d_Mo_act_684 (by decide) (fun c684 => ?_) (fun c684 => ?_)
          · skip
            have h := h.1 c684
            exact J_698 s_5 H locs h hP hD hS ls (lv_sub hl [] rfl)
          · skip
            have h := h.2 c684
            refine lv_iload_n G.1 G.2.1 d_Mo_act_687 rfl (lv_at hl 2 rfl) ?_
            refine lv_bipush (v := 18) G.1 G.2.1 d_Mo_act_688 (by decide) ?_
            refine lv_icmp_gt (tgt := 698) G.1 G.2.1 d_Mo_act_690 (by decide) (fun c690 => ?_) (fun c690 => ?_)
            · skip
              have h := h.1 c690
              exact J_698 s_5 H locs h hP hD hS ls (lv_sub hl [] rfl)
            · skip
              have h := h.2 c690
              refine lv_aload_n G.1 G.2.1 d_Mo_act_693 rfl (lv_at hl 1 rfl) ?_
              refine lv_iconst (v := 1) G.1 G.2.1 d_Mo_act_694 (by decide) ?_
              refine ucVv (As := [.int 1]) (rest := []) G hP hD hS (cu_Mo_lay l D g ad y _ s_5 a0 1 H.size h_a0 h) w9_Mo_lay q3779 ⟨Nat.le_of_ble_eq_true rfl, Nat.le_of_ble_eq_true rfl⟩ rfl rfl h_a0 (q := (RMo, TMo, 131)) rfl rfl hl.1 rfl (Nat.le_of_ble_eq_true rfl) rfl ⟨Nat.le_refl _, Nat.le_refl _⟩ d_Mo_act_695 (fun s_110 H locs h hP hD hS => ?_)
              exact J_698 s_110 H locs h hP hD hS ls (lv_sub hl [] rfl)
        replace h := h.2 e116_47
        by_cases e116_48 : x1j100 = 48
        · skip
          have h := h.1 e116_48
          refine lv_tableIn (off := 360) (tgt := 476) G.1 G.2.1 d_Mo_act_116 (by rw [e116_48]; decide) (by rw [e116_48]; decide) (by rw [e116_48]; rfl) (by decide) ?_
          refine lv_aload_n G.1 G.2.1 d_Mo_act_476 rfl (lv_at hl 1 rfl) ?_
          refine W.eq (g2 := F0 m 477 ls [.ref (ad a0)]) rfl ?_
          refine lv_aload_n G.1 G.2.1 d_Mo_act_477 rfl (lv_at hl 1 rfl) ?_
          obtain ⟨b_111, e_112, c_113, h⟩ := h
          refine ugf (v := .ref (ad b_111)) G hP h_a0 iMo rfl 45 (by decide) rfl q3109 rfl (by show va_rf ((sO s_5 a0 45).map ad) = _; rw [e_112]; rfl) d_Mo_act_478 ?_
          refine ugfN (v := .ref (yP y b_111 33)) G hP c_113 iMw rfl 33 (by decide) rfl q2770 rfl rfl d_Mo_act_481 ?_
          refine lv_iload_n G.1 G.2.1 d_Mo_act_484 rfl (lv_at hl 3 rfl) ?_
          refine uiald G hP (kdp c_113 rfl) (typ c_113 rfl) h d_Mo_act_485 (fun x_114 h => ?_)
          refine ucVv (As := [.int x_114]) (rest := []) G hP hD hS (cu_Mo_lay l D g ad y _ s_5 a0 x_114 H.size h_a0 h) w9_Mo_lay q3779 ⟨Nat.le_of_ble_eq_true rfl, Nat.le_of_ble_eq_true rfl⟩ rfl rfl h_a0 (q := (RMo, TMo, 131)) rfl rfl hl.1 rfl (Nat.le_of_ble_eq_true rfl) rfl ⟨Nat.le_refl _, Nat.le_refl _⟩ d_Mo_act_486 (fun s_116 H locs h hP hD hS => ?_)
          refine lv_goto (tgt := 698) G.1 G.2.1 d_Mo_act_489 (by decide) ?_
          exact J_698 s_116 H locs h hP hD hS ls (lv_sub hl [] rfl)
        replace h := h.2 e116_48
        by_cases e116_49 : x1j100 = 49
        · skip
          have h := h.1 e116_49
          refine lv_tableIn (off := 565) (tgt := 681) G.1 G.2.1 d_Mo_act_116 (by rw [e116_49]; decide) (by rw [e116_49]; decide) (by rw [e116_49]; rfl) (by decide) ?_
          refine lv_iload_n G.1 G.2.1 d_Mo_act_681 rfl (lv_at hl 2 rfl) ?_
          refine W.eq (g2 := F0 m 682 ls [.int x1j100]) rfl ?_
          refine lv_bipush (v := 8) G.1 G.2.1 d_Mo_act_682 (by decide) ?_
          refine lv_icmp_lt (tgt := 698) G.1 G.2.1 d_Mo_act_684 (by decide) (fun c684 => ?_) (fun c684 => ?_)
          · skip
            have h := h.1 c684
            exact J_698 s_5 H locs h hP hD hS ls (lv_sub hl [] rfl)
          · skip
            have h := h.2 c684
            refine lv_iload_n G.1 G.2.1 d_Mo_act_687 rfl (lv_at hl 2 rfl) ?_
            refine lv_bipush (v := 18) G.1 G.2.1 d_Mo_act_688 (by decide) ?_
            refine lv_icmp_gt (tgt := 698) G.1 G.2.1 d_Mo_act_690 (by decide) (fun c690 => ?_) (fun c690 => ?_)
            · skip
              have h := h.1 c690
              exact J_698 s_5 H locs h hP hD hS ls (lv_sub hl [] rfl)
            · skip
              have h := h.2 c690
              refine lv_aload_n G.1 G.2.1 d_Mo_act_693 rfl (lv_at hl 1 rfl) ?_
              refine lv_iconst (v := 1) G.1 G.2.1 d_Mo_act_694 (by decide) ?_
              refine ucVv (As := [.int 1]) (rest := []) G hP hD hS (cu_Mo_lay l D g ad y _ s_5 a0 1 H.size h_a0 h) w9_Mo_lay q3779 ⟨Nat.le_of_ble_eq_true rfl, Nat.le_of_ble_eq_true rfl⟩ rfl rfl h_a0 (q := (RMo, TMo, 131)) rfl rfl hl.1 rfl (Nat.le_of_ble_eq_true rfl) rfl ⟨Nat.le_refl _, Nat.le_refl _⟩ d_Mo_act_695 (fun s_118 H locs h hP hD hS => ?_)
              exact J_698 s_118 H locs h hP hD hS ls (lv_sub hl [] rfl)
        replace h := h.2 e116_49
        by_cases e116_50 : x1j100 = 50
        · skip
          have h := h.1 e116_50
          refine lv_tableIn (off := 388) (tgt := 504) G.1 G.2.1 d_Mo_act_116 (by rw [e116_50]; decide) (by rw [e116_50]; decide) (by rw [e116_50]; rfl) (by decide) ?_
          refine lv_iload G.1 G.2.1 d_Mo_act_504 (lv_at hl 0 rfl) ?_
          have J_643 : ∀ (s_j643 : St) (x2j643 : Int32) (H : Heap) (locs : List Loc), wj_Mo_act_643 y Post a0 s_j643 x2j643 → va_P D CL (ws g ad y s_j643) H → va_D A (ws g ad y s_j643) → va_S A s.heap H locs → ∀ ls, lv_has ls 10 [(0, .ref (ad a0)), (2, .int x2j643)] → W p l e ru_Mo_act s m args below meth c H locs 0 0 Q (F0 m 643 ls []) := by
            intro s_j643 x2j643 H locs h hP hD hS ls hl
            unfold wj_Mo_act_643 at h
            refine lv_aload_n G.1 G.2.1 d_Mo_act_643 rfl (lv_at hl 0 rfl) ?_
            refine ugf (v := .ref (yP y a0 32)) G hP h_a0 iMo rfl 32 (by decide) rfl q3096 rfl rfl d_Mo_act_644 ?_
            refine lv_aload_n G.1 G.2.1 d_Mo_act_647 rfl (lv_at hl 0 rfl) ?_
            obtain ⟨b_119, e_120, c_121, h⟩ := h
            refine ugf (v := .ref (ad b_119)) G hP h_a0 iMo rfl 45 (by decide) rfl q3109 rfl (by show va_rf ((sO s_j643 a0 45).map ad) = _; rw [e_120]; rfl) d_Mo_act_648 ?_
            refine ugfN (v := .ref (yP y b_119 33)) G hP c_121 iMw rfl 33 (by decide) rfl q2770 rfl rfl d_Mo_act_651 ?_
            refine lv_iload_n G.1 G.2.1 d_Mo_act_654 rfl (lv_at hl 1 rfl) ?_
            refine uiald G hP (kdp c_121 rfl) (typ c_121 rfl) h d_Mo_act_655 (fun x_122 h => ?_)
            refine uiald G hP (kdp h_a0 rfl) (typ h_a0 rfl) h d_Mo_act_656 (fun x_123 h => ?_)
            refine lv_if_eq (tgt := 698) G.1 G.2.1 d_Mo_act_657 (by decide) (fun c657 => ?_) (fun c657 => ?_)
            · skip
              have h := h.1 c657
              exact J_698 s_j643 H locs h hP hD hS ls (lv_sub hl [] rfl)
            · skip
              have h := h.2 c657
              refine lv_aload_n G.1 G.2.1 d_Mo_act_660 rfl (lv_at hl 0 rfl) ?_
              refine lv_aload_n G.1 G.2.1 d_Mo_act_661 rfl (lv_at hl 0 rfl) ?_
              refine W.eq (g2 := F0 m 662 ls [.ref (ad a0), .ref (ad a0)]) rfl ?_
              refine ugf (v := .ref (yP y a0 32)) G hP h_a0 iMo rfl 32 (by decide) rfl q3096 rfl rfl d_Mo_act_662 ?_
              refine lv_aload_n G.1 G.2.1 d_Mo_act_665 rfl (lv_at hl 0 rfl) ?_
              obtain ⟨b_124, e_125, c_126, h⟩ := h
              refine ugf (v := .ref (ad b_124)) G hP h_a0 iMo rfl 45 (by decide) rfl q3109 rfl (by show va_rf ((sO s_j643 a0 45).map ad) = _; rw [e_125]; rfl) d_Mo_act_666 ?_
              refine ugfN (v := .ref (yP y b_124 33)) G hP c_126 iMw rfl 33 (by decide) rfl q2770 rfl rfl d_Mo_act_669 ?_
              refine lv_iload_n G.1 G.2.1 d_Mo_act_672 rfl (lv_at hl 1 rfl) ?_
              refine uiald G hP (kdp c_126 rfl) (typ c_126 rfl) h d_Mo_act_673 (fun x_127 h => ?_)
              refine uiald G hP (kdp h_a0 rfl) (typ h_a0 rfl) h d_Mo_act_674 (fun x_128 h => ?_)
              refine ucVv (As := [.int x_128]) (rest := []) G hP hD hS (cu_Mo_lay l D g ad y _ s_j643 a0 x_128 H.size h_a0 h) w9_Mo_lay q3779 ⟨Nat.le_of_ble_eq_true rfl, Nat.le_of_ble_eq_true rfl⟩ rfl rfl h_a0 (q := (RMo, TMo, 131)) rfl rfl hl.1 rfl (Nat.le_of_ble_eq_true rfl) rfl ⟨Nat.le_refl _, Nat.le_refl _⟩ d_Mo_act_675 (fun s_130 H locs h hP hD hS => ?_)
              refine lv_goto (tgt := 698) G.1 G.2.1 d_Mo_act_678 (by decide) ?_
              exact J_698 s_130 H locs h hP hD hS ls (lv_sub hl [] rfl)
          refine W.eq (g2 := F0 m 506 ls [.int z0j100]) rfl ?_
          refine lv_if_eq (tgt := 643) G.1 G.2.1 d_Mo_act_506 (by decide) (fun c506 => ?_) (fun c506 => ?_)
          · skip
            have h := h.1 c506
            exact J_643 s_5 x2j100 H locs h hP hD hS ls (lv_sub hl [1, 3] rfl)
          · skip
            have h := h.2 c506
            refine lv_bipush (v := 16) G.1 G.2.1 d_Mo_act_509 (by decide) ?_
            refine lv_iload G.1 G.2.1 d_Mo_act_511 (lv_at hl 0 rfl) ?_
            refine lv_iconst (v := 5) G.1 G.2.1 d_Mo_act_513 (by decide) ?_
            have J_534 : ∀ (s_j534 : St) (x2j534 : Int32) (x7j534 : Int32) (z0j534 : Int32) (z1j534 : Int32) (H : Heap) (locs : List Loc), wj_Mo_act_534 y Post a0 s_j534 x2j534 x7j534 z0j534 z1j534 → va_P D CL (ws g ad y s_j534) H → va_D A (ws g ad y s_j534) → va_S A s.heap H locs → ∀ ls, lv_has ls 10 [(0, .ref (ad a0)), (2, .int x2j534), (7, .int x7j534)] → W p l e ru_Mo_act s m args below meth c H locs 0 0 Q (F0 m 534 ls [.int z1j534, .int z0j534]) := by
              intro s_j534 x2j534 x7j534 z0j534 z1j534 H locs h hP hD hS ls hl
              unfold wj_Mo_act_534 at h
              refine lv_iadd G.1 G.2.1 d_Mo_act_534 ?_
              refine lv_istore (lv' := [(8, .int (z0j534 + z1j534)), (0, .ref (ad a0)), (2, .int x2j534), (7, .int x7j534)]) G.1 G.2.1 d_Mo_act_535 hl (by decide) rfl (fun ls hl => ?_)
              refine lv_iconst (v := 0) G.1 G.2.1 d_Mo_act_537 (by decide) ?_
              refine lv_istore (lv' := [(9, .int 0), (8, .int (z0j534 + z1j534)), (0, .ref (ad a0)), (2, .int x2j534), (7, .int x7j534)]) G.1 G.2.1 d_Mo_act_538 hl (by decide) rfl (fun ls hl => ?_)
              unfold wl_Mo_act_540 at h
              obtain ⟨I_540, μ_540, hI_540, hB_540⟩ := h
              have L_540 : ∀ (n_540 : Nat) (s_h540 : St) (x2h540 : Int32) (x7h540 : Int32) (x8h540 : Int32) (x9h540 : Int32), μ_540 s_h540 x2h540 x7h540 x8h540 x9h540 < n_540 → I_540 s_h540 x2h540 x7h540 x8h540 x9h540 → ∀ (H : Heap) (locs : List Loc), va_P D CL (ws g ad y s_h540) H → va_D A (ws g ad y s_h540) → va_S A s.heap H locs → ∀ ls, lv_has ls 10 [(0, .ref (ad a0)), (2, .int x2h540), (7, .int x7h540), (8, .int x8h540), (9, .int x9h540)] → W p l e ru_Mo_act s m args below meth c H locs 0 0 Q (F0 m 540 ls []) := by
                intro n_540
                induction n_540 with
                | zero => intro s_h540 x2h540 x7h540 x8h540 x9h540 hμ; exact absurd hμ (Nat.not_lt_zero _)
                | succ n_540 ih_540 =>
                  intro s_h540 x2h540 x7h540 x8h540 x9h540 hμ_540 hJ H locs hP hD hS ls hl
                  obtain ⟨K_540, hK_540, h⟩ : ∃ K : St → Int32 → Int32 → Int32 → Int32 → Prop, (∀ z (t0 : Int32) (t1 : Int32) (t2 : Int32) (t3 : Int32), K z t0 t1 t2 t3 → I_540 z t0 t1 t2 t3 ∧ μ_540 z t0 t1 t2 t3 < μ_540 s_h540 x2h540 x7h540 x8h540 x9h540) ∧ wb_Mo_act_540 y Post K a0 s_h540 x2h540 x7h540 x8h540 x9h540 := ⟨_, fun _ _ _ _ _ h => h, hB_540 s_h540 x2h540 x7h540 x8h540 x9h540 hJ⟩
                  unfold wb_Mo_act_540 at h
                  refine lv_iload G.1 G.2.1 d_Mo_act_540 (lv_at hl 4 rfl) ?_
                  refine lv_aload_n G.1 G.2.1 d_Mo_act_542 rfl (lv_at hl 0 rfl) ?_
                  obtain ⟨b_131, e_132, c_133, h⟩ := h
                  refine ugf (v := .ref (ad b_131)) G hP h_a0 iMo rfl 45 (by decide) rfl q3109 rfl (by show va_rf ((sO s_h540 a0 45).map ad) = _; rw [e_132]; rfl) d_Mo_act_543 ?_
                  refine ugfN (v := .ref (yP y b_131 22)) G hP c_133 iMw rfl 22 (by decide) rfl q2748 rfl rfl d_Mo_act_546 ?_
                  refine lv_aload_n G.1 G.2.1 d_Mo_act_549 rfl (lv_at hl 0 rfl) ?_
                  refine ugf (v := .int (sV s_h540 a0 75)) G hP h_a0 iMo rfl 75 (by decide) rfl q3139 rfl rfl d_Mo_act_550 ?_
                  refine uiald G hP (kdp c_133 rfl) (typ c_133 rfl) h d_Mo_act_553 (fun x_134 h => ?_)
                  refine lv_icmp_ge (tgt := 594) G.1 G.2.1 d_Mo_act_554 (by decide) (fun c554 => ?_) (fun c554 => ?_)
                  · skip
                    have h := h.1 c554
                    refine lv_iconst (v := 0) G.1 G.2.1 d_Mo_act_594 (by decide) ?_
                    refine lv_istore (lv' := [(9, .int 0), (0, .ref (ad a0)), (2, .int x2h540), (7, .int x7h540), (8, .int x8h540)]) G.1 G.2.1 d_Mo_act_595 hl (by decide) rfl (fun ls hl => ?_)
                    unfold wl_Mo_act_597 at h
                    obtain ⟨I_597, μ_597, hI_597, hB_597⟩ := h
                    have L_597 : ∀ (n_597 : Nat) (s_h597 : St) (x2h597 : Int32) (x7h597 : Int32) (x8h597 : Int32) (x9h597 : Int32), μ_597 s_h597 x2h597 x7h597 x8h597 x9h597 < n_597 → I_597 s_h597 x2h597 x7h597 x8h597 x9h597 → ∀ (H : Heap) (locs : List Loc), va_P D CL (ws g ad y s_h597) H → va_D A (ws g ad y s_h597) → va_S A s.heap H locs → ∀ ls, lv_has ls 10 [(0, .ref (ad a0)), (2, .int x2h597), (7, .int x7h597), (8, .int x8h597), (9, .int x9h597)] → W p l e ru_Mo_act s m args below meth c H locs 0 0 Q (F0 m 597 ls []) := by
                      intro n_597
                      induction n_597 with
                      | zero => intro s_h597 x2h597 x7h597 x8h597 x9h597 hμ; exact absurd hμ (Nat.not_lt_zero _)
                      | succ n_597 ih_597 =>
                        intro s_h597 x2h597 x7h597 x8h597 x9h597 hμ_597 hJ H locs hP hD hS ls hl
                        obtain ⟨K_597, hK_597, h⟩ : ∃ K : St → Int32 → Int32 → Int32 → Int32 → Prop, (∀ z (t0 : Int32) (t1 : Int32) (t2 : Int32) (t3 : Int32), K z t0 t1 t2 t3 → I_597 z t0 t1 t2 t3 ∧ μ_597 z t0 t1 t2 t3 < μ_597 s_h597 x2h597 x7h597 x8h597 x9h597) ∧ wb_Mo_act_597 y Post K a0 s_h597 x2h597 x7h597 x8h597 x9h597 := ⟨_, fun _ _ _ _ _ h => h, hB_597 s_h597 x2h597 x7h597 x8h597 x9h597 hJ⟩
                        unfold wb_Mo_act_597 at h
                        refine lv_iload G.1 G.2.1 d_Mo_act_597 (lv_at hl 4 rfl) ?_
                        refine lv_aload_n G.1 G.2.1 d_Mo_act_599 rfl (lv_at hl 0 rfl) ?_
                        refine ugf (v := .int (sV s_h597 a0 72)) G hP h_a0 iMo rfl 72 (by decide) rfl q3136 rfl rfl d_Mo_act_600 ?_
                        refine lv_icmp_ge (tgt := 643) G.1 G.2.1 d_Mo_act_603 (by decide) (fun c603 => ?_) (fun c603 => ?_)
                        · skip
                          have h := h.1 c603
                          exact J_643 s_h597 x2h597 H locs h hP hD hS ls (lv_sub hl [0, 1] rfl)
                        · skip
                          have h := h.2 c603
                          refine lv_aload_n G.1 G.2.1 d_Mo_act_606 rfl (lv_at hl 0 rfl) ?_
                          refine ugf (v := .ref (yP y a0 71)) G hP h_a0 iMo rfl 71 (by decide) rfl q3135 rfl rfl d_Mo_act_607 ?_
                          refine lv_iload G.1 G.2.1 d_Mo_act_610 (lv_at hl 4 rfl) ?_
                          refine lv_aload_n G.1 G.2.1 d_Mo_act_612 rfl (lv_at hl 0 rfl) ?_
                          refine ugf (v := .ref (yP y a0 71)) G hP h_a0 iMo rfl 71 (by decide) rfl q3135 rfl rfl d_Mo_act_613 ?_
                          refine lv_iload G.1 G.2.1 d_Mo_act_616 (lv_at hl 4 rfl) ?_
                          refine uiald G hP (kdp h_a0 rfl) (typ h_a0 rfl) h d_Mo_act_618 (fun x_135 h => ?_)
                          refine W.eq (g2 := F0 m 619 ls [.int x_135, .int x9h597, .ref (yP y a0 71)]) rfl ?_
                          refine lv_iload G.1 G.2.1 d_Mo_act_619 (lv_at hl 2 rfl) ?_
                          have J_636 : ∀ (s_j636 : St) (x2j636 : Int32) (x7j636 : Int32) (x8j636 : Int32) (x9j636 : Int32) (z1j636 : Int32) (z2j636 : Int32) (H : Heap) (locs : List Loc), wj_Mo_act_636 y Post K_597 a0 s_j636 x2j636 x7j636 x8j636 x9j636 z1j636 z2j636 → va_P D CL (ws g ad y s_j636) H → va_D A (ws g ad y s_j636) → va_S A s.heap H locs → ∀ ls, lv_has ls 10 [(0, .ref (ad a0)), (2, .int x2j636), (7, .int x7j636), (8, .int x8j636), (9, .int x9j636)] → W p l e ru_Mo_act s m args below meth c H locs 0 0 Q (F0 m 636 ls [.int z2j636, .int z1j636, .ref (yP y a0 71)]) := by
                            intro s_j636 x2j636 x7j636 x8j636 x9j636 z1j636 z2j636 H locs h hP hD hS ls hl
                            unfold wj_Mo_act_636 at h
                            refine uiast G hP hD hS (kdp h_a0 rfl) (typ h_a0 rfl) h d_Mo_act_636 (fun s_136 H locs h hP hD hS => ?_)
                            refine lv_iinc (v := x9j636 + 1) (lv' := [(9, .int (x9j636 + 1)), (0, .ref (ad a0)), (2, .int x2j636), (7, .int x7j636), (8, .int x8j636)]) G.1 G.2.1 d_Mo_act_637 hl (k := 4) rfl rfl (by decide) rfl (fun ls hl => ?_)
                            refine lv_goto (tgt := 597) G.1 G.2.1 d_Mo_act_640 (by decide) ?_
                            have h := hK_597 s_136 x2j636 x7j636 x8j636 (x9j636 + 1) h
                            exact ih_597 s_136 x2j636 x7j636 x8j636 (x9j636 + 1) (Nat.lt_of_lt_of_le h.2 (Nat.le_of_lt_succ hμ_597)) h.1 H locs hP hD hS ls (lv_sub hl [1, 2, 3, 4, 0] rfl)
                          refine lv_icmp_ne (tgt := 629) G.1 G.2.1 d_Mo_act_621 (by decide) (fun c621 => ?_) (fun c621 => ?_)
                          · skip
                            have h := h.1 c621
                            refine lv_aload_n G.1 G.2.1 d_Mo_act_629 rfl (lv_at hl 0 rfl) ?_
                            refine ugf (v := .ref (yP y a0 71)) G hP h_a0 iMo rfl 71 (by decide) rfl q3135 rfl rfl d_Mo_act_630 ?_
                            refine lv_iload G.1 G.2.1 d_Mo_act_633 (lv_at hl 4 rfl) ?_
                            refine uiald G hP (kdp h_a0 rfl) (typ h_a0 rfl) h d_Mo_act_635 (fun x_137 h => ?_)
                            exact J_636 s_h597 x2h597 x7h597 x8h597 x9h597 x9h597 x_137 H locs h hP hD hS ls (lv_sub hl [0, 1, 2, 3, 4] rfl)
                          · skip
                            have h := h.2 c621
                            refine lv_iload G.1 G.2.1 d_Mo_act_624 (lv_at hl 3 rfl) ?_
                            refine lv_goto (tgt := 636) G.1 G.2.1 d_Mo_act_626 (by decide) ?_
                            exact J_636 s_h597 x2h597 x7h597 x8h597 x9h597 x9h597 x8h597 H locs h hP hD hS ls (lv_sub hl [0, 1, 2, 3, 4] rfl)
                    exact L_597 _ s_h540 x2h540 x7h540 x8h540 0 (Nat.lt_succ_self _) hI_597 H locs hP hD hS ls (lv_sub hl [1, 2, 3, 4, 0] rfl)
                  · skip
                    have h := h.2 c554
                    refine lv_aload_n G.1 G.2.1 d_Mo_act_557 rfl (lv_at hl 0 rfl) ?_
                    refine ugf (v := .ref (yP y a0 70)) G hP h_a0 iMo rfl 70 (by decide) rfl q3134 rfl rfl d_Mo_act_558 ?_
                    refine lv_iload G.1 G.2.1 d_Mo_act_561 (lv_at hl 4 rfl) ?_
                    refine W.eq (g2 := F0 m 563 ls [.int x9h540, .ref (yP y a0 70)]) rfl ?_
                    refine lv_aload_n G.1 G.2.1 d_Mo_act_563 rfl (lv_at hl 0 rfl) ?_
                    refine ugf (v := .ref (yP y a0 70)) G hP h_a0 iMo rfl 70 (by decide) rfl q3134 rfl rfl d_Mo_act_564 ?_
                    refine lv_iload G.1 G.2.1 d_Mo_act_567 (lv_at hl 4 rfl) ?_
                    refine uiald G hP (kdp h_a0 rfl) (typ h_a0 rfl) h d_Mo_act_569 (fun x_138 h => ?_)
                    refine lv_iload G.1 G.2.1 d_Mo_act_570 (lv_at hl 2 rfl) ?_
                    have J_587 : ∀ (s_j587 : St) (x2j587 : Int32) (x7j587 : Int32) (x8j587 : Int32) (x9j587 : Int32) (z1j587 : Int32) (z2j587 : Int32) (H : Heap) (locs : List Loc), wj_Mo_act_587 y Post K_540 a0 s_j587 x2j587 x7j587 x8j587 x9j587 z1j587 z2j587 → va_P D CL (ws g ad y s_j587) H → va_D A (ws g ad y s_j587) → va_S A s.heap H locs → ∀ ls, lv_has ls 10 [(0, .ref (ad a0)), (2, .int x2j587), (7, .int x7j587), (8, .int x8j587), (9, .int x9j587)] → W p l e ru_Mo_act s m args below meth c H locs 0 0 Q (F0 m 587 ls [.int z2j587, .int z1j587, .ref (yP y a0 70)]) := by
                      intro s_j587 x2j587 x7j587 x8j587 x9j587 z1j587 z2j587 H locs h hP hD hS ls hl
                      unfold wj_Mo_act_587 at h
                      refine uiast G hP hD hS (kdp h_a0 rfl) (typ h_a0 rfl) h d_Mo_act_587 (fun s_139 H locs h hP hD hS => ?_)
                      refine lv_iinc (v := x9j587 + 1) (lv' := [(9, .int (x9j587 + 1)), (0, .ref (ad a0)), (2, .int x2j587), (7, .int x7j587), (8, .int x8j587)]) G.1 G.2.1 d_Mo_act_588 hl (k := 4) rfl rfl (by decide) rfl (fun ls hl => ?_)
                      refine lv_goto (tgt := 540) G.1 G.2.1 d_Mo_act_591 (by decide) ?_
                      have h := hK_540 s_139 x2j587 x7j587 x8j587 (x9j587 + 1) h
                      exact ih_540 s_139 x2j587 x7j587 x8j587 (x9j587 + 1) (Nat.lt_of_lt_of_le h.2 (Nat.le_of_lt_succ hμ_540)) h.1 H locs hP hD hS ls (lv_sub hl [1, 2, 3, 4, 0] rfl)
                    refine lv_icmp_ne (tgt := 580) G.1 G.2.1 d_Mo_act_572 (by decide) (fun c572 => ?_) (fun c572 => ?_)
                    · skip
                      have h := h.1 c572
                      refine lv_aload_n G.1 G.2.1 d_Mo_act_580 rfl (lv_at hl 0 rfl) ?_
                      refine ugf (v := .ref (yP y a0 70)) G hP h_a0 iMo rfl 70 (by decide) rfl q3134 rfl rfl d_Mo_act_581 ?_
                      refine lv_iload G.1 G.2.1 d_Mo_act_584 (lv_at hl 4 rfl) ?_
                      refine uiald G hP (kdp h_a0 rfl) (typ h_a0 rfl) h d_Mo_act_586 (fun x_140 h => ?_)
                      exact J_587 s_h540 x2h540 x7h540 x8h540 x9h540 x9h540 x_140 H locs h hP hD hS ls (lv_sub hl [0, 1, 2, 3, 4] rfl)
                    · skip
                      have h := h.2 c572
                      refine lv_iload G.1 G.2.1 d_Mo_act_575 (lv_at hl 3 rfl) ?_
                      refine lv_goto (tgt := 587) G.1 G.2.1 d_Mo_act_577 (by decide) ?_
                      exact J_587 s_h540 x2h540 x7h540 x8h540 x9h540 x9h540 x8h540 H locs h hP hD hS ls (lv_sub hl [0, 1, 2, 3, 4] rfl)
              exact L_540 _ s_j534 x2j534 x7j534 (z0j534 + z1j534) 0 (Nat.lt_succ_self _) hI_540 H locs hP hD hS ls (lv_sub hl [2, 3, 4, 1, 0] rfl)
            refine lv_icmp_ne (tgt := 532) G.1 G.2.1 d_Mo_act_514 (by decide) (fun c514 => ?_) (fun c514 => ?_)
            · skip
              have h := h.1 c514
              refine lv_iload G.1 G.2.1 d_Mo_act_532 (lv_at hl 5 rfl) ?_
              exact J_534 s_5 x2j100 z0j100 16 x4j100 H locs h hP hD hS ls (lv_sub hl [1, 3, 0] rfl)
            · skip
              have h := h.2 c514
              refine lv_aload_n G.1 G.2.1 d_Mo_act_517 rfl (lv_at hl 1 rfl) ?_
              obtain ⟨b_141, e_142, c_143, h⟩ := h
              refine ugf (v := .ref (ad b_141)) G hP h_a0 iMo rfl 45 (by decide) rfl q3109 rfl (by show va_rf ((sO s_5 a0 45).map ad) = _; rw [e_142]; rfl) d_Mo_act_518 ?_
              refine ugfN (v := .ref (yP y b_141 3)) G hP c_143 iMw rfl 3 (by decide) rfl q2710 rfl rfl d_Mo_act_521 ?_
              refine lv_aload_n G.1 G.2.1 d_Mo_act_524 rfl (lv_at hl 1 rfl) ?_
              refine ugf (v := .int (sV s_5 a0 76)) G hP h_a0 iMo rfl 76 (by decide) rfl q3140 rfl rfl d_Mo_act_525 ?_
              refine uiald G hP (kdp c_143 rfl) (typ c_143 rfl) h d_Mo_act_528 (fun x_144 h => ?_)
              refine lv_goto (tgt := 534) G.1 G.2.1 d_Mo_act_529 (by decide) ?_
              exact J_534 s_5 x2j100 z0j100 16 x_144 H locs h hP hD hS ls (lv_sub hl [1, 3, 0] rfl)
        replace h := h.2 e116_50
        by_cases e116_51 : x1j100 = 51
        · skip
          have h := h.1 e116_51
          refine lv_tableIn (off := 388) (tgt := 504) G.1 G.2.1 d_Mo_act_116 (by rw [e116_51]; decide) (by rw [e116_51]; decide) (by rw [e116_51]; rfl) (by decide) ?_
          refine lv_iload G.1 G.2.1 d_Mo_act_504 (lv_at hl 0 rfl) ?_
          have J_643 : ∀ (s_j643 : St) (x2j643 : Int32) (H : Heap) (locs : List Loc), wj_Mo_act_643 y Post a0 s_j643 x2j643 → va_P D CL (ws g ad y s_j643) H → va_D A (ws g ad y s_j643) → va_S A s.heap H locs → ∀ ls, lv_has ls 10 [(0, .ref (ad a0)), (2, .int x2j643)] → W p l e ru_Mo_act s m args below meth c H locs 0 0 Q (F0 m 643 ls []) := by
            intro s_j643 x2j643 H locs h hP hD hS ls hl
            unfold wj_Mo_act_643 at h
            refine lv_aload_n G.1 G.2.1 d_Mo_act_643 rfl (lv_at hl 0 rfl) ?_
            refine ugf (v := .ref (yP y a0 32)) G hP h_a0 iMo rfl 32 (by decide) rfl q3096 rfl rfl d_Mo_act_644 ?_
            refine lv_aload_n G.1 G.2.1 d_Mo_act_647 rfl (lv_at hl 0 rfl) ?_
            obtain ⟨b_145, e_146, c_147, h⟩ := h
            refine ugf (v := .ref (ad b_145)) G hP h_a0 iMo rfl 45 (by decide) rfl q3109 rfl (by show va_rf ((sO s_j643 a0 45).map ad) = _; rw [e_146]; rfl) d_Mo_act_648 ?_
            refine ugfN (v := .ref (yP y b_145 33)) G hP c_147 iMw rfl 33 (by decide) rfl q2770 rfl rfl d_Mo_act_651 ?_
            refine lv_iload_n G.1 G.2.1 d_Mo_act_654 rfl (lv_at hl 1 rfl) ?_
            refine uiald G hP (kdp c_147 rfl) (typ c_147 rfl) h d_Mo_act_655 (fun x_148 h => ?_)
            refine uiald G hP (kdp h_a0 rfl) (typ h_a0 rfl) h d_Mo_act_656 (fun x_149 h => ?_)
            refine lv_if_eq (tgt := 698) G.1 G.2.1 d_Mo_act_657 (by decide) (fun c657 => ?_) (fun c657 => ?_)
            · skip
              have h := h.1 c657
              exact J_698 s_j643 H locs h hP hD hS ls (lv_sub hl [] rfl)
            · skip
              have h := h.2 c657
              refine lv_aload_n G.1 G.2.1 d_Mo_act_660 rfl (lv_at hl 0 rfl) ?_
              refine lv_aload_n G.1 G.2.1 d_Mo_act_661 rfl (lv_at hl 0 rfl) ?_
              refine W.eq (g2 := F0 m 662 ls [.ref (ad a0), .ref (ad a0)]) rfl ?_
              refine ugf (v := .ref (yP y a0 32)) G hP h_a0 iMo rfl 32 (by decide) rfl q3096 rfl rfl d_Mo_act_662 ?_
              refine lv_aload_n G.1 G.2.1 d_Mo_act_665 rfl (lv_at hl 0 rfl) ?_
              obtain ⟨b_150, e_151, c_152, h⟩ := h
              refine ugf (v := .ref (ad b_150)) G hP h_a0 iMo rfl 45 (by decide) rfl q3109 rfl (by show va_rf ((sO s_j643 a0 45).map ad) = _; rw [e_151]; rfl) d_Mo_act_666 ?_
              refine ugfN (v := .ref (yP y b_150 33)) G hP c_152 iMw rfl 33 (by decide) rfl q2770 rfl rfl d_Mo_act_669 ?_
              refine lv_iload_n G.1 G.2.1 d_Mo_act_672 rfl (lv_at hl 1 rfl) ?_
              refine uiald G hP (kdp c_152 rfl) (typ c_152 rfl) h d_Mo_act_673 (fun x_153 h => ?_)
              refine uiald G hP (kdp h_a0 rfl) (typ h_a0 rfl) h d_Mo_act_674 (fun x_154 h => ?_)
              refine ucVv (As := [.int x_154]) (rest := []) G hP hD hS (cu_Mo_lay l D g ad y _ s_j643 a0 x_154 H.size h_a0 h) w9_Mo_lay q3779 ⟨Nat.le_of_ble_eq_true rfl, Nat.le_of_ble_eq_true rfl⟩ rfl rfl h_a0 (q := (RMo, TMo, 131)) rfl rfl hl.1 rfl (Nat.le_of_ble_eq_true rfl) rfl ⟨Nat.le_refl _, Nat.le_refl _⟩ d_Mo_act_675 (fun s_156 H locs h hP hD hS => ?_)
              refine lv_goto (tgt := 698) G.1 G.2.1 d_Mo_act_678 (by decide) ?_
              exact J_698 s_156 H locs h hP hD hS ls (lv_sub hl [] rfl)
          refine W.eq (g2 := F0 m 506 ls [.int z0j100]) rfl ?_
          refine lv_if_eq (tgt := 643) G.1 G.2.1 d_Mo_act_506 (by decide) (fun c506 => ?_) (fun c506 => ?_)
          · skip
            have h := h.1 c506
            exact J_643 s_5 x2j100 H locs h hP hD hS ls (lv_sub hl [1, 3] rfl)
          · skip
            have h := h.2 c506
            refine lv_bipush (v := 16) G.1 G.2.1 d_Mo_act_509 (by decide) ?_
            refine lv_iload G.1 G.2.1 d_Mo_act_511 (lv_at hl 0 rfl) ?_
            refine lv_iconst (v := 5) G.1 G.2.1 d_Mo_act_513 (by decide) ?_
            have J_534 : ∀ (s_j534 : St) (x2j534 : Int32) (x7j534 : Int32) (z0j534 : Int32) (z1j534 : Int32) (H : Heap) (locs : List Loc), wj_Mo_act_534 y Post a0 s_j534 x2j534 x7j534 z0j534 z1j534 → va_P D CL (ws g ad y s_j534) H → va_D A (ws g ad y s_j534) → va_S A s.heap H locs → ∀ ls, lv_has ls 10 [(0, .ref (ad a0)), (2, .int x2j534), (7, .int x7j534)] → W p l e ru_Mo_act s m args below meth c H locs 0 0 Q (F0 m 534 ls [.int z1j534, .int z0j534]) := by
              intro s_j534 x2j534 x7j534 z0j534 z1j534 H locs h hP hD hS ls hl
              unfold wj_Mo_act_534 at h
              refine lv_iadd G.1 G.2.1 d_Mo_act_534 ?_
              refine lv_istore (lv' := [(8, .int (z0j534 + z1j534)), (0, .ref (ad a0)), (2, .int x2j534), (7, .int x7j534)]) G.1 G.2.1 d_Mo_act_535 hl (by decide) rfl (fun ls hl => ?_)
              refine lv_iconst (v := 0) G.1 G.2.1 d_Mo_act_537 (by decide) ?_
              refine lv_istore (lv' := [(9, .int 0), (8, .int (z0j534 + z1j534)), (0, .ref (ad a0)), (2, .int x2j534), (7, .int x7j534)]) G.1 G.2.1 d_Mo_act_538 hl (by decide) rfl (fun ls hl => ?_)
              unfold wl_Mo_act_540 at h
              obtain ⟨I_540, μ_540, hI_540, hB_540⟩ := h
              have L_540 : ∀ (n_540 : Nat) (s_h540 : St) (x2h540 : Int32) (x7h540 : Int32) (x8h540 : Int32) (x9h540 : Int32), μ_540 s_h540 x2h540 x7h540 x8h540 x9h540 < n_540 → I_540 s_h540 x2h540 x7h540 x8h540 x9h540 → ∀ (H : Heap) (locs : List Loc), va_P D CL (ws g ad y s_h540) H → va_D A (ws g ad y s_h540) → va_S A s.heap H locs → ∀ ls, lv_has ls 10 [(0, .ref (ad a0)), (2, .int x2h540), (7, .int x7h540), (8, .int x8h540), (9, .int x9h540)] → W p l e ru_Mo_act s m args below meth c H locs 0 0 Q (F0 m 540 ls []) := by
                intro n_540
                induction n_540 with
                | zero => intro s_h540 x2h540 x7h540 x8h540 x9h540 hμ; exact absurd hμ (Nat.not_lt_zero _)
                | succ n_540 ih_540 =>
                  intro s_h540 x2h540 x7h540 x8h540 x9h540 hμ_540 hJ H locs hP hD hS ls hl
                  obtain ⟨K_540, hK_540, h⟩ : ∃ K : St → Int32 → Int32 → Int32 → Int32 → Prop, (∀ z (t0 : Int32) (t1 : Int32) (t2 : Int32) (t3 : Int32), K z t0 t1 t2 t3 → I_540 z t0 t1 t2 t3 ∧ μ_540 z t0 t1 t2 t3 < μ_540 s_h540 x2h540 x7h540 x8h540 x9h540) ∧ wb_Mo_act_540 y Post K a0 s_h540 x2h540 x7h540 x8h540 x9h540 := ⟨_, fun _ _ _ _ _ h => h, hB_540 s_h540 x2h540 x7h540 x8h540 x9h540 hJ⟩
                  unfold wb_Mo_act_540 at h
                  refine lv_iload G.1 G.2.1 d_Mo_act_540 (lv_at hl 4 rfl) ?_
                  refine lv_aload_n G.1 G.2.1 d_Mo_act_542 rfl (lv_at hl 0 rfl) ?_
                  obtain ⟨b_157, e_158, c_159, h⟩ := h
                  refine ugf (v := .ref (ad b_157)) G hP h_a0 iMo rfl 45 (by decide) rfl q3109 rfl (by show va_rf ((sO s_h540 a0 45).map ad) = _; rw [e_158]; rfl) d_Mo_act_543 ?_
                  refine ugfN (v := .ref (yP y b_157 22)) G hP c_159 iMw rfl 22 (by decide) rfl q2748 rfl rfl d_Mo_act_546 ?_
                  refine lv_aload_n G.1 G.2.1 d_Mo_act_549 rfl (lv_at hl 0 rfl) ?_
                  refine ugf (v := .int (sV s_h540 a0 75)) G hP h_a0 iMo rfl 75 (by decide) rfl q3139 rfl rfl d_Mo_act_550 ?_
                  refine uiald G hP (kdp c_159 rfl) (typ c_159 rfl) h d_Mo_act_553 (fun x_160 h => ?_)
                  refine lv_icmp_ge (tgt := 594) G.1 G.2.1 d_Mo_act_554 (by decide) (fun c554 => ?_) (fun c554 => ?_)
                  · skip
                    have h := h.1 c554
                    refine lv_iconst (v := 0) G.1 G.2.1 d_Mo_act_594 (by decide) ?_
                    refine lv_istore (lv' := [(9, .int 0), (0, .ref (ad a0)), (2, .int x2h540), (7, .int x7h540), (8, .int x8h540)]) G.1 G.2.1 d_Mo_act_595 hl (by decide) rfl (fun ls hl => ?_)
                    unfold wl_Mo_act_597 at h
                    obtain ⟨I_597, μ_597, hI_597, hB_597⟩ := h
                    have L_597 : ∀ (n_597 : Nat) (s_h597 : St) (x2h597 : Int32) (x7h597 : Int32) (x8h597 : Int32) (x9h597 : Int32), μ_597 s_h597 x2h597 x7h597 x8h597 x9h597 < n_597 → I_597 s_h597 x2h597 x7h597 x8h597 x9h597 → ∀ (H : Heap) (locs : List Loc), va_P D CL (ws g ad y s_h597) H → va_D A (ws g ad y s_h597) → va_S A s.heap H locs → ∀ ls, lv_has ls 10 [(0, .ref (ad a0)), (2, .int x2h597), (7, .int x7h597), (8, .int x8h597), (9, .int x9h597)] → W p l e ru_Mo_act s m args below meth c H locs 0 0 Q (F0 m 597 ls []) := by
                      intro n_597
                      induction n_597 with
                      | zero => intro s_h597 x2h597 x7h597 x8h597 x9h597 hμ; exact absurd hμ (Nat.not_lt_zero _)
                      | succ n_597 ih_597 =>
                        intro s_h597 x2h597 x7h597 x8h597 x9h597 hμ_597 hJ H locs hP hD hS ls hl
                        obtain ⟨K_597, hK_597, h⟩ : ∃ K : St → Int32 → Int32 → Int32 → Int32 → Prop, (∀ z (t0 : Int32) (t1 : Int32) (t2 : Int32) (t3 : Int32), K z t0 t1 t2 t3 → I_597 z t0 t1 t2 t3 ∧ μ_597 z t0 t1 t2 t3 < μ_597 s_h597 x2h597 x7h597 x8h597 x9h597) ∧ wb_Mo_act_597 y Post K a0 s_h597 x2h597 x7h597 x8h597 x9h597 := ⟨_, fun _ _ _ _ _ h => h, hB_597 s_h597 x2h597 x7h597 x8h597 x9h597 hJ⟩
                        unfold wb_Mo_act_597 at h
                        refine lv_iload G.1 G.2.1 d_Mo_act_597 (lv_at hl 4 rfl) ?_
                        refine lv_aload_n G.1 G.2.1 d_Mo_act_599 rfl (lv_at hl 0 rfl) ?_
                        refine ugf (v := .int (sV s_h597 a0 72)) G hP h_a0 iMo rfl 72 (by decide) rfl q3136 rfl rfl d_Mo_act_600 ?_
                        refine lv_icmp_ge (tgt := 643) G.1 G.2.1 d_Mo_act_603 (by decide) (fun c603 => ?_) (fun c603 => ?_)
                        · skip
                          have h := h.1 c603
                          exact J_643 s_h597 x2h597 H locs h hP hD hS ls (lv_sub hl [0, 1] rfl)
                        · skip
                          have h := h.2 c603
                          refine lv_aload_n G.1 G.2.1 d_Mo_act_606 rfl (lv_at hl 0 rfl) ?_
                          refine ugf (v := .ref (yP y a0 71)) G hP h_a0 iMo rfl 71 (by decide) rfl q3135 rfl rfl d_Mo_act_607 ?_
                          refine lv_iload G.1 G.2.1 d_Mo_act_610 (lv_at hl 4 rfl) ?_
                          refine lv_aload_n G.1 G.2.1 d_Mo_act_612 rfl (lv_at hl 0 rfl) ?_
                          refine ugf (v := .ref (yP y a0 71)) G hP h_a0 iMo rfl 71 (by decide) rfl q3135 rfl rfl d_Mo_act_613 ?_
                          refine lv_iload G.1 G.2.1 d_Mo_act_616 (lv_at hl 4 rfl) ?_
                          refine uiald G hP (kdp h_a0 rfl) (typ h_a0 rfl) h d_Mo_act_618 (fun x_161 h => ?_)
                          refine W.eq (g2 := F0 m 619 ls [.int x_161, .int x9h597, .ref (yP y a0 71)]) rfl ?_
                          refine lv_iload G.1 G.2.1 d_Mo_act_619 (lv_at hl 2 rfl) ?_
                          have J_636 : ∀ (s_j636 : St) (x2j636 : Int32) (x7j636 : Int32) (x8j636 : Int32) (x9j636 : Int32) (z1j636 : Int32) (z2j636 : Int32) (H : Heap) (locs : List Loc), wj_Mo_act_636 y Post K_597 a0 s_j636 x2j636 x7j636 x8j636 x9j636 z1j636 z2j636 → va_P D CL (ws g ad y s_j636) H → va_D A (ws g ad y s_j636) → va_S A s.heap H locs → ∀ ls, lv_has ls 10 [(0, .ref (ad a0)), (2, .int x2j636), (7, .int x7j636), (8, .int x8j636), (9, .int x9j636)] → W p l e ru_Mo_act s m args below meth c H locs 0 0 Q (F0 m 636 ls [.int z2j636, .int z1j636, .ref (yP y a0 71)]) := by
                            intro s_j636 x2j636 x7j636 x8j636 x9j636 z1j636 z2j636 H locs h hP hD hS ls hl
                            unfold wj_Mo_act_636 at h
                            refine uiast G hP hD hS (kdp h_a0 rfl) (typ h_a0 rfl) h d_Mo_act_636 (fun s_162 H locs h hP hD hS => ?_)
                            refine lv_iinc (v := x9j636 + 1) (lv' := [(9, .int (x9j636 + 1)), (0, .ref (ad a0)), (2, .int x2j636), (7, .int x7j636), (8, .int x8j636)]) G.1 G.2.1 d_Mo_act_637 hl (k := 4) rfl rfl (by decide) rfl (fun ls hl => ?_)
                            refine lv_goto (tgt := 597) G.1 G.2.1 d_Mo_act_640 (by decide) ?_
                            have h := hK_597 s_162 x2j636 x7j636 x8j636 (x9j636 + 1) h
                            exact ih_597 s_162 x2j636 x7j636 x8j636 (x9j636 + 1) (Nat.lt_of_lt_of_le h.2 (Nat.le_of_lt_succ hμ_597)) h.1 H locs hP hD hS ls (lv_sub hl [1, 2, 3, 4, 0] rfl)
                          refine lv_icmp_ne (tgt := 629) G.1 G.2.1 d_Mo_act_621 (by decide) (fun c621 => ?_) (fun c621 => ?_)
                          · skip
                            have h := h.1 c621
                            refine lv_aload_n G.1 G.2.1 d_Mo_act_629 rfl (lv_at hl 0 rfl) ?_
                            refine ugf (v := .ref (yP y a0 71)) G hP h_a0 iMo rfl 71 (by decide) rfl q3135 rfl rfl d_Mo_act_630 ?_
                            refine lv_iload G.1 G.2.1 d_Mo_act_633 (lv_at hl 4 rfl) ?_
                            refine uiald G hP (kdp h_a0 rfl) (typ h_a0 rfl) h d_Mo_act_635 (fun x_163 h => ?_)
                            exact J_636 s_h597 x2h597 x7h597 x8h597 x9h597 x9h597 x_163 H locs h hP hD hS ls (lv_sub hl [0, 1, 2, 3, 4] rfl)
                          · skip
                            have h := h.2 c621
                            refine lv_iload G.1 G.2.1 d_Mo_act_624 (lv_at hl 3 rfl) ?_
                            refine lv_goto (tgt := 636) G.1 G.2.1 d_Mo_act_626 (by decide) ?_
                            exact J_636 s_h597 x2h597 x7h597 x8h597 x9h597 x9h597 x8h597 H locs h hP hD hS ls (lv_sub hl [0, 1, 2, 3, 4] rfl)
                    exact L_597 _ s_h540 x2h540 x7h540 x8h540 0 (Nat.lt_succ_self _) hI_597 H locs hP hD hS ls (lv_sub hl [1, 2, 3, 4, 0] rfl)
                  · skip
                    have h := h.2 c554
                    refine lv_aload_n G.1 G.2.1 d_Mo_act_557 rfl (lv_at hl 0 rfl) ?_
                    refine ugf (v := .ref (yP y a0 70)) G hP h_a0 iMo rfl 70 (by decide) rfl q3134 rfl rfl d_Mo_act_558 ?_
                    refine lv_iload G.1 G.2.1 d_Mo_act_561 (lv_at hl 4 rfl) ?_
                    refine W.eq (g2 := F0 m 563 ls [.int x9h540, .ref (yP y a0 70)]) rfl ?_
                    refine lv_aload_n G.1 G.2.1 d_Mo_act_563 rfl (lv_at hl 0 rfl) ?_
                    refine ugf (v := .ref (yP y a0 70)) G hP h_a0 iMo rfl 70 (by decide) rfl q3134 rfl rfl d_Mo_act_564 ?_
                    refine lv_iload G.1 G.2.1 d_Mo_act_567 (lv_at hl 4 rfl) ?_
                    refine uiald G hP (kdp h_a0 rfl) (typ h_a0 rfl) h d_Mo_act_569 (fun x_164 h => ?_)
                    refine lv_iload G.1 G.2.1 d_Mo_act_570 (lv_at hl 2 rfl) ?_
                    have J_587 : ∀ (s_j587 : St) (x2j587 : Int32) (x7j587 : Int32) (x8j587 : Int32) (x9j587 : Int32) (z1j587 : Int32) (z2j587 : Int32) (H : Heap) (locs : List Loc), wj_Mo_act_587 y Post K_540 a0 s_j587 x2j587 x7j587 x8j587 x9j587 z1j587 z2j587 → va_P D CL (ws g ad y s_j587) H → va_D A (ws g ad y s_j587) → va_S A s.heap H locs → ∀ ls, lv_has ls 10 [(0, .ref (ad a0)), (2, .int x2j587), (7, .int x7j587), (8, .int x8j587), (9, .int x9j587)] → W p l e ru_Mo_act s m args below meth c H locs 0 0 Q (F0 m 587 ls [.int z2j587, .int z1j587, .ref (yP y a0 70)]) := by
                      intro s_j587 x2j587 x7j587 x8j587 x9j587 z1j587 z2j587 H locs h hP hD hS ls hl
                      unfold wj_Mo_act_587 at h
                      refine uiast G hP hD hS (kdp h_a0 rfl) (typ h_a0 rfl) h d_Mo_act_587 (fun s_165 H locs h hP hD hS => ?_)
                      refine lv_iinc (v := x9j587 + 1) (lv' := [(9, .int (x9j587 + 1)), (0, .ref (ad a0)), (2, .int x2j587), (7, .int x7j587), (8, .int x8j587)]) G.1 G.2.1 d_Mo_act_588 hl (k := 4) rfl rfl (by decide) rfl (fun ls hl => ?_)
                      refine lv_goto (tgt := 540) G.1 G.2.1 d_Mo_act_591 (by decide) ?_
                      have h := hK_540 s_165 x2j587 x7j587 x8j587 (x9j587 + 1) h
                      exact ih_540 s_165 x2j587 x7j587 x8j587 (x9j587 + 1) (Nat.lt_of_lt_of_le h.2 (Nat.le_of_lt_succ hμ_540)) h.1 H locs hP hD hS ls (lv_sub hl [1, 2, 3, 4, 0] rfl)
                    refine lv_icmp_ne (tgt := 580) G.1 G.2.1 d_Mo_act_572 (by decide) (fun c572 => ?_) (fun c572 => ?_)
                    · skip
                      have h := h.1 c572
                      refine lv_aload_n G.1 G.2.1 d_Mo_act_580 rfl (lv_at hl 0 rfl) ?_
                      refine ugf (v := .ref (yP y a0 70)) G hP h_a0 iMo rfl 70 (by decide) rfl q3134 rfl rfl d_Mo_act_581 ?_
                      refine lv_iload G.1 G.2.1 d_Mo_act_584 (lv_at hl 4 rfl) ?_
                      refine uiald G hP (kdp h_a0 rfl) (typ h_a0 rfl) h d_Mo_act_586 (fun x_166 h => ?_)
                      exact J_587 s_h540 x2h540 x7h540 x8h540 x9h540 x9h540 x_166 H locs h hP hD hS ls (lv_sub hl [0, 1, 2, 3, 4] rfl)
                    · skip
                      have h := h.2 c572
                      refine lv_iload G.1 G.2.1 d_Mo_act_575 (lv_at hl 3 rfl) ?_
                      refine lv_goto (tgt := 587) G.1 G.2.1 d_Mo_act_577 (by decide) ?_
                      exact J_587 s_h540 x2h540 x7h540 x8h540 x9h540 x9h540 x8h540 H locs h hP hD hS ls (lv_sub hl [0, 1, 2, 3, 4] rfl)
              exact L_540 _ s_j534 x2j534 x7j534 (z0j534 + z1j534) 0 (Nat.lt_succ_self _) hI_540 H locs hP hD hS ls (lv_sub hl [2, 3, 4, 1, 0] rfl)
            refine lv_icmp_ne (tgt := 532) G.1 G.2.1 d_Mo_act_514 (by decide) (fun c514 => ?_) (fun c514 => ?_)
            · skip
              have h := h.1 c514
              refine lv_iload G.1 G.2.1 d_Mo_act_532 (lv_at hl 5 rfl) ?_
              exact J_534 s_5 x2j100 z0j100 16 x4j100 H locs h hP hD hS ls (lv_sub hl [1, 3, 0] rfl)
            · skip
              have h := h.2 c514
              refine lv_aload_n G.1 G.2.1 d_Mo_act_517 rfl (lv_at hl 1 rfl) ?_
              obtain ⟨b_167, e_168, c_169, h⟩ := h
              refine ugf (v := .ref (ad b_167)) G hP h_a0 iMo rfl 45 (by decide) rfl q3109 rfl (by show va_rf ((sO s_5 a0 45).map ad) = _; rw [e_168]; rfl) d_Mo_act_518 ?_
              refine ugfN (v := .ref (yP y b_167 3)) G hP c_169 iMw rfl 3 (by decide) rfl q2710 rfl rfl d_Mo_act_521 ?_
              refine lv_aload_n G.1 G.2.1 d_Mo_act_524 rfl (lv_at hl 1 rfl) ?_
              refine ugf (v := .int (sV s_5 a0 76)) G hP h_a0 iMo rfl 76 (by decide) rfl q3140 rfl rfl d_Mo_act_525 ?_
              refine uiald G hP (kdp c_169 rfl) (typ c_169 rfl) h d_Mo_act_528 (fun x_170 h => ?_)
              refine lv_goto (tgt := 534) G.1 G.2.1 d_Mo_act_529 (by decide) ?_
              exact J_534 s_5 x2j100 z0j100 16 x_170 H locs h hP hD hS ls (lv_sub hl [1, 3, 0] rfl)
        replace h := h.2 e116_51
        by_cases e116_52 : x1j100 = 52
        · skip
          have h := h.1 e116_52
          refine lv_tableIn (off := 388) (tgt := 504) G.1 G.2.1 d_Mo_act_116 (by rw [e116_52]; decide) (by rw [e116_52]; decide) (by rw [e116_52]; rfl) (by decide) ?_
          refine lv_iload G.1 G.2.1 d_Mo_act_504 (lv_at hl 0 rfl) ?_
          have J_643 : ∀ (s_j643 : St) (x2j643 : Int32) (H : Heap) (locs : List Loc), wj_Mo_act_643 y Post a0 s_j643 x2j643 → va_P D CL (ws g ad y s_j643) H → va_D A (ws g ad y s_j643) → va_S A s.heap H locs → ∀ ls, lv_has ls 10 [(0, .ref (ad a0)), (2, .int x2j643)] → W p l e ru_Mo_act s m args below meth c H locs 0 0 Q (F0 m 643 ls []) := by
            intro s_j643 x2j643 H locs h hP hD hS ls hl
            unfold wj_Mo_act_643 at h
            refine lv_aload_n G.1 G.2.1 d_Mo_act_643 rfl (lv_at hl 0 rfl) ?_
            refine ugf (v := .ref (yP y a0 32)) G hP h_a0 iMo rfl 32 (by decide) rfl q3096 rfl rfl d_Mo_act_644 ?_
            refine lv_aload_n G.1 G.2.1 d_Mo_act_647 rfl (lv_at hl 0 rfl) ?_
            obtain ⟨b_171, e_172, c_173, h⟩ := h
            refine ugf (v := .ref (ad b_171)) G hP h_a0 iMo rfl 45 (by decide) rfl q3109 rfl (by show va_rf ((sO s_j643 a0 45).map ad) = _; rw [e_172]; rfl) d_Mo_act_648 ?_
            refine ugfN (v := .ref (yP y b_171 33)) G hP c_173 iMw rfl 33 (by decide) rfl q2770 rfl rfl d_Mo_act_651 ?_
            refine lv_iload_n G.1 G.2.1 d_Mo_act_654 rfl (lv_at hl 1 rfl) ?_
            refine uiald G hP (kdp c_173 rfl) (typ c_173 rfl) h d_Mo_act_655 (fun x_174 h => ?_)
            refine uiald G hP (kdp h_a0 rfl) (typ h_a0 rfl) h d_Mo_act_656 (fun x_175 h => ?_)
            refine lv_if_eq (tgt := 698) G.1 G.2.1 d_Mo_act_657 (by decide) (fun c657 => ?_) (fun c657 => ?_)
            · skip
              have h := h.1 c657
              exact J_698 s_j643 H locs h hP hD hS ls (lv_sub hl [] rfl)
            · skip
              have h := h.2 c657
              refine lv_aload_n G.1 G.2.1 d_Mo_act_660 rfl (lv_at hl 0 rfl) ?_
              refine lv_aload_n G.1 G.2.1 d_Mo_act_661 rfl (lv_at hl 0 rfl) ?_
              refine W.eq (g2 := F0 m 662 ls [.ref (ad a0), .ref (ad a0)]) rfl ?_
              refine ugf (v := .ref (yP y a0 32)) G hP h_a0 iMo rfl 32 (by decide) rfl q3096 rfl rfl d_Mo_act_662 ?_
              refine lv_aload_n G.1 G.2.1 d_Mo_act_665 rfl (lv_at hl 0 rfl) ?_
              obtain ⟨b_176, e_177, c_178, h⟩ := h
              refine ugf (v := .ref (ad b_176)) G hP h_a0 iMo rfl 45 (by decide) rfl q3109 rfl (by show va_rf ((sO s_j643 a0 45).map ad) = _; rw [e_177]; rfl) d_Mo_act_666 ?_
              refine ugfN (v := .ref (yP y b_176 33)) G hP c_178 iMw rfl 33 (by decide) rfl q2770 rfl rfl d_Mo_act_669 ?_
              refine lv_iload_n G.1 G.2.1 d_Mo_act_672 rfl (lv_at hl 1 rfl) ?_
              refine uiald G hP (kdp c_178 rfl) (typ c_178 rfl) h d_Mo_act_673 (fun x_179 h => ?_)
              refine uiald G hP (kdp h_a0 rfl) (typ h_a0 rfl) h d_Mo_act_674 (fun x_180 h => ?_)
              refine ucVv (As := [.int x_180]) (rest := []) G hP hD hS (cu_Mo_lay l D g ad y _ s_j643 a0 x_180 H.size h_a0 h) w9_Mo_lay q3779 ⟨Nat.le_of_ble_eq_true rfl, Nat.le_of_ble_eq_true rfl⟩ rfl rfl h_a0 (q := (RMo, TMo, 131)) rfl rfl hl.1 rfl (Nat.le_of_ble_eq_true rfl) rfl ⟨Nat.le_refl _, Nat.le_refl _⟩ d_Mo_act_675 (fun s_182 H locs h hP hD hS => ?_)
              refine lv_goto (tgt := 698) G.1 G.2.1 d_Mo_act_678 (by decide) ?_
              exact J_698 s_182 H locs h hP hD hS ls (lv_sub hl [] rfl)
          refine W.eq (g2 := F0 m 506 ls [.int z0j100]) rfl ?_
          refine lv_if_eq (tgt := 643) G.1 G.2.1 d_Mo_act_506 (by decide) (fun c506 => ?_) (fun c506 => ?_)
          · skip
            have h := h.1 c506
            exact J_643 s_5 x2j100 H locs h hP hD hS ls (lv_sub hl [1, 3] rfl)
          · skip
            have h := h.2 c506
            refine lv_bipush (v := 16) G.1 G.2.1 d_Mo_act_509 (by decide) ?_
            refine lv_iload G.1 G.2.1 d_Mo_act_511 (lv_at hl 0 rfl) ?_
            refine lv_iconst (v := 5) G.1 G.2.1 d_Mo_act_513 (by decide) ?_
            have J_534 : ∀ (s_j534 : St) (x2j534 : Int32) (x7j534 : Int32) (z0j534 : Int32) (z1j534 : Int32) (H : Heap) (locs : List Loc), wj_Mo_act_534 y Post a0 s_j534 x2j534 x7j534 z0j534 z1j534 → va_P D CL (ws g ad y s_j534) H → va_D A (ws g ad y s_j534) → va_S A s.heap H locs → ∀ ls, lv_has ls 10 [(0, .ref (ad a0)), (2, .int x2j534), (7, .int x7j534)] → W p l e ru_Mo_act s m args below meth c H locs 0 0 Q (F0 m 534 ls [.int z1j534, .int z0j534]) := by
              intro s_j534 x2j534 x7j534 z0j534 z1j534 H locs h hP hD hS ls hl
              unfold wj_Mo_act_534 at h
              refine lv_iadd G.1 G.2.1 d_Mo_act_534 ?_
              refine lv_istore (lv' := [(8, .int (z0j534 + z1j534)), (0, .ref (ad a0)), (2, .int x2j534), (7, .int x7j534)]) G.1 G.2.1 d_Mo_act_535 hl (by decide) rfl (fun ls hl => ?_)
              refine lv_iconst (v := 0) G.1 G.2.1 d_Mo_act_537 (by decide) ?_
              refine lv_istore (lv' := [(9, .int 0), (8, .int (z0j534 + z1j534)), (0, .ref (ad a0)), (2, .int x2j534), (7, .int x7j534)]) G.1 G.2.1 d_Mo_act_538 hl (by decide) rfl (fun ls hl => ?_)
              unfold wl_Mo_act_540 at h
              obtain ⟨I_540, μ_540, hI_540, hB_540⟩ := h
              have L_540 : ∀ (n_540 : Nat) (s_h540 : St) (x2h540 : Int32) (x7h540 : Int32) (x8h540 : Int32) (x9h540 : Int32), μ_540 s_h540 x2h540 x7h540 x8h540 x9h540 < n_540 → I_540 s_h540 x2h540 x7h540 x8h540 x9h540 → ∀ (H : Heap) (locs : List Loc), va_P D CL (ws g ad y s_h540) H → va_D A (ws g ad y s_h540) → va_S A s.heap H locs → ∀ ls, lv_has ls 10 [(0, .ref (ad a0)), (2, .int x2h540), (7, .int x7h540), (8, .int x8h540), (9, .int x9h540)] → W p l e ru_Mo_act s m args below meth c H locs 0 0 Q (F0 m 540 ls []) := by
                intro n_540
                induction n_540 with
                | zero => intro s_h540 x2h540 x7h540 x8h540 x9h540 hμ; exact absurd hμ (Nat.not_lt_zero _)
                | succ n_540 ih_540 =>
                  intro s_h540 x2h540 x7h540 x8h540 x9h540 hμ_540 hJ H locs hP hD hS ls hl
                  obtain ⟨K_540, hK_540, h⟩ : ∃ K : St → Int32 → Int32 → Int32 → Int32 → Prop, (∀ z (t0 : Int32) (t1 : Int32) (t2 : Int32) (t3 : Int32), K z t0 t1 t2 t3 → I_540 z t0 t1 t2 t3 ∧ μ_540 z t0 t1 t2 t3 < μ_540 s_h540 x2h540 x7h540 x8h540 x9h540) ∧ wb_Mo_act_540 y Post K a0 s_h540 x2h540 x7h540 x8h540 x9h540 := ⟨_, fun _ _ _ _ _ h => h, hB_540 s_h540 x2h540 x7h540 x8h540 x9h540 hJ⟩
                  unfold wb_Mo_act_540 at h
                  refine lv_iload G.1 G.2.1 d_Mo_act_540 (lv_at hl 4 rfl) ?_
                  refine lv_aload_n G.1 G.2.1 d_Mo_act_542 rfl (lv_at hl 0 rfl) ?_
                  obtain ⟨b_183, e_184, c_185, h⟩ := h
                  refine ugf (v := .ref (ad b_183)) G hP h_a0 iMo rfl 45 (by decide) rfl q3109 rfl (by show va_rf ((sO s_h540 a0 45).map ad) = _; rw [e_184]; rfl) d_Mo_act_543 ?_
                  refine ugfN (v := .ref (yP y b_183 22)) G hP c_185 iMw rfl 22 (by decide) rfl q2748 rfl rfl d_Mo_act_546 ?_
                  refine lv_aload_n G.1 G.2.1 d_Mo_act_549 rfl (lv_at hl 0 rfl) ?_
                  refine ugf (v := .int (sV s_h540 a0 75)) G hP h_a0 iMo rfl 75 (by decide) rfl q3139 rfl rfl d_Mo_act_550 ?_
                  refine uiald G hP (kdp c_185 rfl) (typ c_185 rfl) h d_Mo_act_553 (fun x_186 h => ?_)
                  refine lv_icmp_ge (tgt := 594) G.1 G.2.1 d_Mo_act_554 (by decide) (fun c554 => ?_) (fun c554 => ?_)
                  · skip
                    have h := h.1 c554
                    refine lv_iconst (v := 0) G.1 G.2.1 d_Mo_act_594 (by decide) ?_
                    refine lv_istore (lv' := [(9, .int 0), (0, .ref (ad a0)), (2, .int x2h540), (7, .int x7h540), (8, .int x8h540)]) G.1 G.2.1 d_Mo_act_595 hl (by decide) rfl (fun ls hl => ?_)
                    unfold wl_Mo_act_597 at h
                    obtain ⟨I_597, μ_597, hI_597, hB_597⟩ := h
                    have L_597 : ∀ (n_597 : Nat) (s_h597 : St) (x2h597 : Int32) (x7h597 : Int32) (x8h597 : Int32) (x9h597 : Int32), μ_597 s_h597 x2h597 x7h597 x8h597 x9h597 < n_597 → I_597 s_h597 x2h597 x7h597 x8h597 x9h597 → ∀ (H : Heap) (locs : List Loc), va_P D CL (ws g ad y s_h597) H → va_D A (ws g ad y s_h597) → va_S A s.heap H locs → ∀ ls, lv_has ls 10 [(0, .ref (ad a0)), (2, .int x2h597), (7, .int x7h597), (8, .int x8h597), (9, .int x9h597)] → W p l e ru_Mo_act s m args below meth c H locs 0 0 Q (F0 m 597 ls []) := by
                      intro n_597
                      induction n_597 with
                      | zero => intro s_h597 x2h597 x7h597 x8h597 x9h597 hμ; exact absurd hμ (Nat.not_lt_zero _)
                      | succ n_597 ih_597 =>
                        intro s_h597 x2h597 x7h597 x8h597 x9h597 hμ_597 hJ H locs hP hD hS ls hl
                        obtain ⟨K_597, hK_597, h⟩ : ∃ K : St → Int32 → Int32 → Int32 → Int32 → Prop, (∀ z (t0 : Int32) (t1 : Int32) (t2 : Int32) (t3 : Int32), K z t0 t1 t2 t3 → I_597 z t0 t1 t2 t3 ∧ μ_597 z t0 t1 t2 t3 < μ_597 s_h597 x2h597 x7h597 x8h597 x9h597) ∧ wb_Mo_act_597 y Post K a0 s_h597 x2h597 x7h597 x8h597 x9h597 := ⟨_, fun _ _ _ _ _ h => h, hB_597 s_h597 x2h597 x7h597 x8h597 x9h597 hJ⟩
                        unfold wb_Mo_act_597 at h
                        refine lv_iload G.1 G.2.1 d_Mo_act_597 (lv_at hl 4 rfl) ?_
                        refine lv_aload_n G.1 G.2.1 d_Mo_act_599 rfl (lv_at hl 0 rfl) ?_
                        refine ugf (v := .int (sV s_h597 a0 72)) G hP h_a0 iMo rfl 72 (by decide) rfl q3136 rfl rfl d_Mo_act_600 ?_
                        refine lv_icmp_ge (tgt := 643) G.1 G.2.1 d_Mo_act_603 (by decide) (fun c603 => ?_) (fun c603 => ?_)
                        · skip
                          have h := h.1 c603
                          exact J_643 s_h597 x2h597 H locs h hP hD hS ls (lv_sub hl [0, 1] rfl)
                        · skip
                          have h := h.2 c603
                          refine lv_aload_n G.1 G.2.1 d_Mo_act_606 rfl (lv_at hl 0 rfl) ?_
                          refine ugf (v := .ref (yP y a0 71)) G hP h_a0 iMo rfl 71 (by decide) rfl q3135 rfl rfl d_Mo_act_607 ?_
                          refine lv_iload G.1 G.2.1 d_Mo_act_610 (lv_at hl 4 rfl) ?_
                          refine lv_aload_n G.1 G.2.1 d_Mo_act_612 rfl (lv_at hl 0 rfl) ?_
                          refine ugf (v := .ref (yP y a0 71)) G hP h_a0 iMo rfl 71 (by decide) rfl q3135 rfl rfl d_Mo_act_613 ?_
                          refine lv_iload G.1 G.2.1 d_Mo_act_616 (lv_at hl 4 rfl) ?_
                          refine uiald G hP (kdp h_a0 rfl) (typ h_a0 rfl) h d_Mo_act_618 (fun x_187 h => ?_)
                          refine W.eq (g2 := F0 m 619 ls [.int x_187, .int x9h597, .ref (yP y a0 71)]) rfl ?_
                          refine lv_iload G.1 G.2.1 d_Mo_act_619 (lv_at hl 2 rfl) ?_
                          have J_636 : ∀ (s_j636 : St) (x2j636 : Int32) (x7j636 : Int32) (x8j636 : Int32) (x9j636 : Int32) (z1j636 : Int32) (z2j636 : Int32) (H : Heap) (locs : List Loc), wj_Mo_act_636 y Post K_597 a0 s_j636 x2j636 x7j636 x8j636 x9j636 z1j636 z2j636 → va_P D CL (ws g ad y s_j636) H → va_D A (ws g ad y s_j636) → va_S A s.heap H locs → ∀ ls, lv_has ls 10 [(0, .ref (ad a0)), (2, .int x2j636), (7, .int x7j636), (8, .int x8j636), (9, .int x9j636)] → W p l e ru_Mo_act s m args below meth c H locs 0 0 Q (F0 m 636 ls [.int z2j636, .int z1j636, .ref (yP y a0 71)]) := by
                            intro s_j636 x2j636 x7j636 x8j636 x9j636 z1j636 z2j636 H locs h hP hD hS ls hl
                            unfold wj_Mo_act_636 at h
                            refine uiast G hP hD hS (kdp h_a0 rfl) (typ h_a0 rfl) h d_Mo_act_636 (fun s_188 H locs h hP hD hS => ?_)
                            refine lv_iinc (v := x9j636 + 1) (lv' := [(9, .int (x9j636 + 1)), (0, .ref (ad a0)), (2, .int x2j636), (7, .int x7j636), (8, .int x8j636)]) G.1 G.2.1 d_Mo_act_637 hl (k := 4) rfl rfl (by decide) rfl (fun ls hl => ?_)
                            refine lv_goto (tgt := 597) G.1 G.2.1 d_Mo_act_640 (by decide) ?_
                            have h := hK_597 s_188 x2j636 x7j636 x8j636 (x9j636 + 1) h
                            exact ih_597 s_188 x2j636 x7j636 x8j636 (x9j636 + 1) (Nat.lt_of_lt_of_le h.2 (Nat.le_of_lt_succ hμ_597)) h.1 H locs hP hD hS ls (lv_sub hl [1, 2, 3, 4, 0] rfl)
                          refine lv_icmp_ne (tgt := 629) G.1 G.2.1 d_Mo_act_621 (by decide) (fun c621 => ?_) (fun c621 => ?_)
                          · skip
                            have h := h.1 c621
                            refine lv_aload_n G.1 G.2.1 d_Mo_act_629 rfl (lv_at hl 0 rfl) ?_
                            refine ugf (v := .ref (yP y a0 71)) G hP h_a0 iMo rfl 71 (by decide) rfl q3135 rfl rfl d_Mo_act_630 ?_
                            refine lv_iload G.1 G.2.1 d_Mo_act_633 (lv_at hl 4 rfl) ?_
                            refine uiald G hP (kdp h_a0 rfl) (typ h_a0 rfl) h d_Mo_act_635 (fun x_189 h => ?_)
                            exact J_636 s_h597 x2h597 x7h597 x8h597 x9h597 x9h597 x_189 H locs h hP hD hS ls (lv_sub hl [0, 1, 2, 3, 4] rfl)
                          · skip
                            have h := h.2 c621
                            refine lv_iload G.1 G.2.1 d_Mo_act_624 (lv_at hl 3 rfl) ?_
                            refine lv_goto (tgt := 636) G.1 G.2.1 d_Mo_act_626 (by decide) ?_
                            exact J_636 s_h597 x2h597 x7h597 x8h597 x9h597 x9h597 x8h597 H locs h hP hD hS ls (lv_sub hl [0, 1, 2, 3, 4] rfl)
                    exact L_597 _ s_h540 x2h540 x7h540 x8h540 0 (Nat.lt_succ_self _) hI_597 H locs hP hD hS ls (lv_sub hl [1, 2, 3, 4, 0] rfl)
                  · skip
                    have h := h.2 c554
                    refine lv_aload_n G.1 G.2.1 d_Mo_act_557 rfl (lv_at hl 0 rfl) ?_
                    refine ugf (v := .ref (yP y a0 70)) G hP h_a0 iMo rfl 70 (by decide) rfl q3134 rfl rfl d_Mo_act_558 ?_
                    refine lv_iload G.1 G.2.1 d_Mo_act_561 (lv_at hl 4 rfl) ?_
                    refine W.eq (g2 := F0 m 563 ls [.int x9h540, .ref (yP y a0 70)]) rfl ?_
                    refine lv_aload_n G.1 G.2.1 d_Mo_act_563 rfl (lv_at hl 0 rfl) ?_
                    refine ugf (v := .ref (yP y a0 70)) G hP h_a0 iMo rfl 70 (by decide) rfl q3134 rfl rfl d_Mo_act_564 ?_
                    refine lv_iload G.1 G.2.1 d_Mo_act_567 (lv_at hl 4 rfl) ?_
                    refine uiald G hP (kdp h_a0 rfl) (typ h_a0 rfl) h d_Mo_act_569 (fun x_190 h => ?_)
                    refine lv_iload G.1 G.2.1 d_Mo_act_570 (lv_at hl 2 rfl) ?_
                    have J_587 : ∀ (s_j587 : St) (x2j587 : Int32) (x7j587 : Int32) (x8j587 : Int32) (x9j587 : Int32) (z1j587 : Int32) (z2j587 : Int32) (H : Heap) (locs : List Loc), wj_Mo_act_587 y Post K_540 a0 s_j587 x2j587 x7j587 x8j587 x9j587 z1j587 z2j587 → va_P D CL (ws g ad y s_j587) H → va_D A (ws g ad y s_j587) → va_S A s.heap H locs → ∀ ls, lv_has ls 10 [(0, .ref (ad a0)), (2, .int x2j587), (7, .int x7j587), (8, .int x8j587), (9, .int x9j587)] → W p l e ru_Mo_act s m args below meth c H locs 0 0 Q (F0 m 587 ls [.int z2j587, .int z1j587, .ref (yP y a0 70)]) := by
                      intro s_j587 x2j587 x7j587 x8j587 x9j587 z1j587 z2j587 H locs h hP hD hS ls hl
                      unfold wj_Mo_act_587 at h
                      refine uiast G hP hD hS (kdp h_a0 rfl) (typ h_a0 rfl) h d_Mo_act_587 (fun s_191 H locs h hP hD hS => ?_)
                      refine lv_iinc (v := x9j587 + 1) (lv' := [(9, .int (x9j587 + 1)), (0, .ref (ad a0)), (2, .int x2j587), (7, .int x7j587), (8, .int x8j587)]) G.1 G.2.1 d_Mo_act_588 hl (k := 4) rfl rfl (by decide) rfl (fun ls hl => ?_)
                      refine lv_goto (tgt := 540) G.1 G.2.1 d_Mo_act_591 (by decide) ?_
                      have h := hK_540 s_191 x2j587 x7j587 x8j587 (x9j587 + 1) h
                      exact ih_540 s_191 x2j587 x7j587 x8j587 (x9j587 + 1) (Nat.lt_of_lt_of_le h.2 (Nat.le_of_lt_succ hμ_540)) h.1 H locs hP hD hS ls (lv_sub hl [1, 2, 3, 4, 0] rfl)
                    refine lv_icmp_ne (tgt := 580) G.1 G.2.1 d_Mo_act_572 (by decide) (fun c572 => ?_) (fun c572 => ?_)
                    · skip
                      have h := h.1 c572
                      refine lv_aload_n G.1 G.2.1 d_Mo_act_580 rfl (lv_at hl 0 rfl) ?_
                      refine ugf (v := .ref (yP y a0 70)) G hP h_a0 iMo rfl 70 (by decide) rfl q3134 rfl rfl d_Mo_act_581 ?_
                      refine lv_iload G.1 G.2.1 d_Mo_act_584 (lv_at hl 4 rfl) ?_
                      refine uiald G hP (kdp h_a0 rfl) (typ h_a0 rfl) h d_Mo_act_586 (fun x_192 h => ?_)
                      exact J_587 s_h540 x2h540 x7h540 x8h540 x9h540 x9h540 x_192 H locs h hP hD hS ls (lv_sub hl [0, 1, 2, 3, 4] rfl)
                    · skip
                      have h := h.2 c572
                      refine lv_iload G.1 G.2.1 d_Mo_act_575 (lv_at hl 3 rfl) ?_
                      refine lv_goto (tgt := 587) G.1 G.2.1 d_Mo_act_577 (by decide) ?_
                      exact J_587 s_h540 x2h540 x7h540 x8h540 x9h540 x9h540 x8h540 H locs h hP hD hS ls (lv_sub hl [0, 1, 2, 3, 4] rfl)
              exact L_540 _ s_j534 x2j534 x7j534 (z0j534 + z1j534) 0 (Nat.lt_succ_self _) hI_540 H locs hP hD hS ls (lv_sub hl [2, 3, 4, 1, 0] rfl)
            refine lv_icmp_ne (tgt := 532) G.1 G.2.1 d_Mo_act_514 (by decide) (fun c514 => ?_) (fun c514 => ?_)
            · skip
              have h := h.1 c514
              refine lv_iload G.1 G.2.1 d_Mo_act_532 (lv_at hl 5 rfl) ?_
              exact J_534 s_5 x2j100 z0j100 16 x4j100 H locs h hP hD hS ls (lv_sub hl [1, 3, 0] rfl)
            · skip
              have h := h.2 c514
              refine lv_aload_n G.1 G.2.1 d_Mo_act_517 rfl (lv_at hl 1 rfl) ?_
              obtain ⟨b_193, e_194, c_195, h⟩ := h
              refine ugf (v := .ref (ad b_193)) G hP h_a0 iMo rfl 45 (by decide) rfl q3109 rfl (by show va_rf ((sO s_5 a0 45).map ad) = _; rw [e_194]; rfl) d_Mo_act_518 ?_
              refine ugfN (v := .ref (yP y b_193 3)) G hP c_195 iMw rfl 3 (by decide) rfl q2710 rfl rfl d_Mo_act_521 ?_
              refine lv_aload_n G.1 G.2.1 d_Mo_act_524 rfl (lv_at hl 1 rfl) ?_
              refine ugf (v := .int (sV s_5 a0 76)) G hP h_a0 iMo rfl 76 (by decide) rfl q3140 rfl rfl d_Mo_act_525 ?_
              refine uiald G hP (kdp c_195 rfl) (typ c_195 rfl) h d_Mo_act_528 (fun x_196 h => ?_)
              refine lv_goto (tgt := 534) G.1 G.2.1 d_Mo_act_529 (by decide) ?_
              exact J_534 s_5 x2j100 z0j100 16 x_196 H locs h hP hD hS ls (lv_sub hl [1, 3, 0] rfl)
        replace h := h.2 e116_52
        by_cases e116_53 : x1j100 = 53
        · skip
          have h := h.1 e116_53
          refine lv_tableIn (off := 388) (tgt := 504) G.1 G.2.1 d_Mo_act_116 (by rw [e116_53]; decide) (by rw [e116_53]; decide) (by rw [e116_53]; rfl) (by decide) ?_
          refine lv_iload G.1 G.2.1 d_Mo_act_504 (lv_at hl 0 rfl) ?_
          have J_643 : ∀ (s_j643 : St) (x2j643 : Int32) (H : Heap) (locs : List Loc), wj_Mo_act_643 y Post a0 s_j643 x2j643 → va_P D CL (ws g ad y s_j643) H → va_D A (ws g ad y s_j643) → va_S A s.heap H locs → ∀ ls, lv_has ls 10 [(0, .ref (ad a0)), (2, .int x2j643)] → W p l e ru_Mo_act s m args below meth c H locs 0 0 Q (F0 m 643 ls []) := by
            intro s_j643 x2j643 H locs h hP hD hS ls hl
            unfold wj_Mo_act_643 at h
            refine lv_aload_n G.1 G.2.1 d_Mo_act_643 rfl (lv_at hl 0 rfl) ?_
            refine ugf (v := .ref (yP y a0 32)) G hP h_a0 iMo rfl 32 (by decide) rfl q3096 rfl rfl d_Mo_act_644 ?_
            refine lv_aload_n G.1 G.2.1 d_Mo_act_647 rfl (lv_at hl 0 rfl) ?_
            obtain ⟨b_197, e_198, c_199, h⟩ := h
            refine ugf (v := .ref (ad b_197)) G hP h_a0 iMo rfl 45 (by decide) rfl q3109 rfl (by show va_rf ((sO s_j643 a0 45).map ad) = _; rw [e_198]; rfl) d_Mo_act_648 ?_
            refine ugfN (v := .ref (yP y b_197 33)) G hP c_199 iMw rfl 33 (by decide) rfl q2770 rfl rfl d_Mo_act_651 ?_
            refine lv_iload_n G.1 G.2.1 d_Mo_act_654 rfl (lv_at hl 1 rfl) ?_
            refine uiald G hP (kdp c_199 rfl) (typ c_199 rfl) h d_Mo_act_655 (fun x_200 h => ?_)
            refine uiald G hP (kdp h_a0 rfl) (typ h_a0 rfl) h d_Mo_act_656 (fun x_201 h => ?_)
            refine lv_if_eq (tgt := 698) G.1 G.2.1 d_Mo_act_657 (by decide) (fun c657 => ?_) (fun c657 => ?_)
            · skip
              have h := h.1 c657
              exact J_698 s_j643 H locs h hP hD hS ls (lv_sub hl [] rfl)
            · skip
              have h := h.2 c657
              refine lv_aload_n G.1 G.2.1 d_Mo_act_660 rfl (lv_at hl 0 rfl) ?_
              refine lv_aload_n G.1 G.2.1 d_Mo_act_661 rfl (lv_at hl 0 rfl) ?_
              refine W.eq (g2 := F0 m 662 ls [.ref (ad a0), .ref (ad a0)]) rfl ?_
              refine ugf (v := .ref (yP y a0 32)) G hP h_a0 iMo rfl 32 (by decide) rfl q3096 rfl rfl d_Mo_act_662 ?_
              refine lv_aload_n G.1 G.2.1 d_Mo_act_665 rfl (lv_at hl 0 rfl) ?_
              obtain ⟨b_202, e_203, c_204, h⟩ := h
              refine ugf (v := .ref (ad b_202)) G hP h_a0 iMo rfl 45 (by decide) rfl q3109 rfl (by show va_rf ((sO s_j643 a0 45).map ad) = _; rw [e_203]; rfl) d_Mo_act_666 ?_
              refine ugfN (v := .ref (yP y b_202 33)) G hP c_204 iMw rfl 33 (by decide) rfl q2770 rfl rfl d_Mo_act_669 ?_
              refine lv_iload_n G.1 G.2.1 d_Mo_act_672 rfl (lv_at hl 1 rfl) ?_
              refine uiald G hP (kdp c_204 rfl) (typ c_204 rfl) h d_Mo_act_673 (fun x_205 h => ?_)
              refine uiald G hP (kdp h_a0 rfl) (typ h_a0 rfl) h d_Mo_act_674 (fun x_206 h => ?_)
              refine ucVv (As := [.int x_206]) (rest := []) G hP hD hS (cu_Mo_lay l D g ad y _ s_j643 a0 x_206 H.size h_a0 h) w9_Mo_lay q3779 ⟨Nat.le_of_ble_eq_true rfl, Nat.le_of_ble_eq_true rfl⟩ rfl rfl h_a0 (q := (RMo, TMo, 131)) rfl rfl hl.1 rfl (Nat.le_of_ble_eq_true rfl) rfl ⟨Nat.le_refl _, Nat.le_refl _⟩ d_Mo_act_675 (fun s_208 H locs h hP hD hS => ?_)
              refine lv_goto (tgt := 698) G.1 G.2.1 d_Mo_act_678 (by decide) ?_
              exact J_698 s_208 H locs h hP hD hS ls (lv_sub hl [] rfl)
          refine W.eq (g2 := F0 m 506 ls [.int z0j100]) rfl ?_
          refine lv_if_eq (tgt := 643) G.1 G.2.1 d_Mo_act_506 (by decide) (fun c506 => ?_) (fun c506 => ?_)
          · skip
            have h := h.1 c506
            exact J_643 s_5 x2j100 H locs h hP hD hS ls (lv_sub hl [1, 3] rfl)
          · skip
            have h := h.2 c506
            refine lv_bipush (v := 16) G.1 G.2.1 d_Mo_act_509 (by decide) ?_
            refine lv_iload G.1 G.2.1 d_Mo_act_511 (lv_at hl 0 rfl) ?_
            refine lv_iconst (v := 5) G.1 G.2.1 d_Mo_act_513 (by decide) ?_
            have J_534 : ∀ (s_j534 : St) (x2j534 : Int32) (x7j534 : Int32) (z0j534 : Int32) (z1j534 : Int32) (H : Heap) (locs : List Loc), wj_Mo_act_534 y Post a0 s_j534 x2j534 x7j534 z0j534 z1j534 → va_P D CL (ws g ad y s_j534) H → va_D A (ws g ad y s_j534) → va_S A s.heap H locs → ∀ ls, lv_has ls 10 [(0, .ref (ad a0)), (2, .int x2j534), (7, .int x7j534)] → W p l e ru_Mo_act s m args below meth c H locs 0 0 Q (F0 m 534 ls [.int z1j534, .int z0j534]) := by
              intro s_j534 x2j534 x7j534 z0j534 z1j534 H locs h hP hD hS ls hl
              unfold wj_Mo_act_534 at h
              refine lv_iadd G.1 G.2.1 d_Mo_act_534 ?_
              refine lv_istore (lv' := [(8, .int (z0j534 + z1j534)), (0, .ref (ad a0)), (2, .int x2j534), (7, .int x7j534)]) G.1 G.2.1 d_Mo_act_535 hl (by decide) rfl (fun ls hl => ?_)
              refine lv_iconst (v := 0) G.1 G.2.1 d_Mo_act_537 (by decide) ?_
              refine lv_istore (lv' := [(9, .int 0), (8, .int (z0j534 + z1j534)), (0, .ref (ad a0)), (2, .int x2j534), (7, .int x7j534)]) G.1 G.2.1 d_Mo_act_538 hl (by decide) rfl (fun ls hl => ?_)
              unfold wl_Mo_act_540 at h
              obtain ⟨I_540, μ_540, hI_540, hB_540⟩ := h
              have L_540 : ∀ (n_540 : Nat) (s_h540 : St) (x2h540 : Int32) (x7h540 : Int32) (x8h540 : Int32) (x9h540 : Int32), μ_540 s_h540 x2h540 x7h540 x8h540 x9h540 < n_540 → I_540 s_h540 x2h540 x7h540 x8h540 x9h540 → ∀ (H : Heap) (locs : List Loc), va_P D CL (ws g ad y s_h540) H → va_D A (ws g ad y s_h540) → va_S A s.heap H locs → ∀ ls, lv_has ls 10 [(0, .ref (ad a0)), (2, .int x2h540), (7, .int x7h540), (8, .int x8h540), (9, .int x9h540)] → W p l e ru_Mo_act s m args below meth c H locs 0 0 Q (F0 m 540 ls []) := by
                intro n_540
                induction n_540 with
                | zero => intro s_h540 x2h540 x7h540 x8h540 x9h540 hμ; exact absurd hμ (Nat.not_lt_zero _)
                | succ n_540 ih_540 =>
                  intro s_h540 x2h540 x7h540 x8h540 x9h540 hμ_540 hJ H locs hP hD hS ls hl
                  obtain ⟨K_540, hK_540, h⟩ : ∃ K : St → Int32 → Int32 → Int32 → Int32 → Prop, (∀ z (t0 : Int32) (t1 : Int32) (t2 : Int32) (t3 : Int32), K z t0 t1 t2 t3 → I_540 z t0 t1 t2 t3 ∧ μ_540 z t0 t1 t2 t3 < μ_540 s_h540 x2h540 x7h540 x8h540 x9h540) ∧ wb_Mo_act_540 y Post K a0 s_h540 x2h540 x7h540 x8h540 x9h540 := ⟨_, fun _ _ _ _ _ h => h, hB_540 s_h540 x2h540 x7h540 x8h540 x9h540 hJ⟩
                  unfold wb_Mo_act_540 at h
                  refine lv_iload G.1 G.2.1 d_Mo_act_540 (lv_at hl 4 rfl) ?_
                  refine lv_aload_n G.1 G.2.1 d_Mo_act_542 rfl (lv_at hl 0 rfl) ?_
                  obtain ⟨b_209, e_210, c_211, h⟩ := h
                  refine ugf (v := .ref (ad b_209)) G hP h_a0 iMo rfl 45 (by decide) rfl q3109 rfl (by show va_rf ((sO s_h540 a0 45).map ad) = _; rw [e_210]; rfl) d_Mo_act_543 ?_
                  refine ugfN (v := .ref (yP y b_209 22)) G hP c_211 iMw rfl 22 (by decide) rfl q2748 rfl rfl d_Mo_act_546 ?_
                  refine lv_aload_n G.1 G.2.1 d_Mo_act_549 rfl (lv_at hl 0 rfl) ?_
                  refine ugf (v := .int (sV s_h540 a0 75)) G hP h_a0 iMo rfl 75 (by decide) rfl q3139 rfl rfl d_Mo_act_550 ?_
                  refine uiald G hP (kdp c_211 rfl) (typ c_211 rfl) h d_Mo_act_553 (fun x_212 h => ?_)
                  refine lv_icmp_ge (tgt := 594) G.1 G.2.1 d_Mo_act_554 (by decide) (fun c554 => ?_) (fun c554 => ?_)
                  · skip
                    have h := h.1 c554
                    refine lv_iconst (v := 0) G.1 G.2.1 d_Mo_act_594 (by decide) ?_
                    refine lv_istore (lv' := [(9, .int 0), (0, .ref (ad a0)), (2, .int x2h540), (7, .int x7h540), (8, .int x8h540)]) G.1 G.2.1 d_Mo_act_595 hl (by decide) rfl (fun ls hl => ?_)
                    unfold wl_Mo_act_597 at h
                    obtain ⟨I_597, μ_597, hI_597, hB_597⟩ := h
                    have L_597 : ∀ (n_597 : Nat) (s_h597 : St) (x2h597 : Int32) (x7h597 : Int32) (x8h597 : Int32) (x9h597 : Int32), μ_597 s_h597 x2h597 x7h597 x8h597 x9h597 < n_597 → I_597 s_h597 x2h597 x7h597 x8h597 x9h597 → ∀ (H : Heap) (locs : List Loc), va_P D CL (ws g ad y s_h597) H → va_D A (ws g ad y s_h597) → va_S A s.heap H locs → ∀ ls, lv_has ls 10 [(0, .ref (ad a0)), (2, .int x2h597), (7, .int x7h597), (8, .int x8h597), (9, .int x9h597)] → W p l e ru_Mo_act s m args below meth c H locs 0 0 Q (F0 m 597 ls []) := by
                      intro n_597
                      induction n_597 with
                      | zero => intro s_h597 x2h597 x7h597 x8h597 x9h597 hμ; exact absurd hμ (Nat.not_lt_zero _)
                      | succ n_597 ih_597 =>
                        intro s_h597 x2h597 x7h597 x8h597 x9h597 hμ_597 hJ H locs hP hD hS ls hl
                        obtain ⟨K_597, hK_597, h⟩ : ∃ K : St → Int32 → Int32 → Int32 → Int32 → Prop, (∀ z (t0 : Int32) (t1 : Int32) (t2 : Int32) (t3 : Int32), K z t0 t1 t2 t3 → I_597 z t0 t1 t2 t3 ∧ μ_597 z t0 t1 t2 t3 < μ_597 s_h597 x2h597 x7h597 x8h597 x9h597) ∧ wb_Mo_act_597 y Post K a0 s_h597 x2h597 x7h597 x8h597 x9h597 := ⟨_, fun _ _ _ _ _ h => h, hB_597 s_h597 x2h597 x7h597 x8h597 x9h597 hJ⟩
                        unfold wb_Mo_act_597 at h
                        refine lv_iload G.1 G.2.1 d_Mo_act_597 (lv_at hl 4 rfl) ?_
                        refine lv_aload_n G.1 G.2.1 d_Mo_act_599 rfl (lv_at hl 0 rfl) ?_
                        refine ugf (v := .int (sV s_h597 a0 72)) G hP h_a0 iMo rfl 72 (by decide) rfl q3136 rfl rfl d_Mo_act_600 ?_
                        refine lv_icmp_ge (tgt := 643) G.1 G.2.1 d_Mo_act_603 (by decide) (fun c603 => ?_) (fun c603 => ?_)
                        · skip
                          have h := h.1 c603
                          exact J_643 s_h597 x2h597 H locs h hP hD hS ls (lv_sub hl [0, 1] rfl)
                        · skip
                          have h := h.2 c603
                          refine lv_aload_n G.1 G.2.1 d_Mo_act_606 rfl (lv_at hl 0 rfl) ?_
                          refine ugf (v := .ref (yP y a0 71)) G hP h_a0 iMo rfl 71 (by decide) rfl q3135 rfl rfl d_Mo_act_607 ?_
                          refine lv_iload G.1 G.2.1 d_Mo_act_610 (lv_at hl 4 rfl) ?_
                          refine lv_aload_n G.1 G.2.1 d_Mo_act_612 rfl (lv_at hl 0 rfl) ?_
                          refine ugf (v := .ref (yP y a0 71)) G hP h_a0 iMo rfl 71 (by decide) rfl q3135 rfl rfl d_Mo_act_613 ?_
                          refine lv_iload G.1 G.2.1 d_Mo_act_616 (lv_at hl 4 rfl) ?_
                          refine uiald G hP (kdp h_a0 rfl) (typ h_a0 rfl) h d_Mo_act_618 (fun x_213 h => ?_)
                          refine W.eq (g2 := F0 m 619 ls [.int x_213, .int x9h597, .ref (yP y a0 71)]) rfl ?_
                          refine lv_iload G.1 G.2.1 d_Mo_act_619 (lv_at hl 2 rfl) ?_
                          have J_636 : ∀ (s_j636 : St) (x2j636 : Int32) (x7j636 : Int32) (x8j636 : Int32) (x9j636 : Int32) (z1j636 : Int32) (z2j636 : Int32) (H : Heap) (locs : List Loc), wj_Mo_act_636 y Post K_597 a0 s_j636 x2j636 x7j636 x8j636 x9j636 z1j636 z2j636 → va_P D CL (ws g ad y s_j636) H → va_D A (ws g ad y s_j636) → va_S A s.heap H locs → ∀ ls, lv_has ls 10 [(0, .ref (ad a0)), (2, .int x2j636), (7, .int x7j636), (8, .int x8j636), (9, .int x9j636)] → W p l e ru_Mo_act s m args below meth c H locs 0 0 Q (F0 m 636 ls [.int z2j636, .int z1j636, .ref (yP y a0 71)]) := by
                            intro s_j636 x2j636 x7j636 x8j636 x9j636 z1j636 z2j636 H locs h hP hD hS ls hl
                            unfold wj_Mo_act_636 at h
                            refine uiast G hP hD hS (kdp h_a0 rfl) (typ h_a0 rfl) h d_Mo_act_636 (fun s_214 H locs h hP hD hS => ?_)
                            refine lv_iinc (v := x9j636 + 1) (lv' := [(9, .int (x9j636 + 1)), (0, .ref (ad a0)), (2, .int x2j636), (7, .int x7j636), (8, .int x8j636)]) G.1 G.2.1 d_Mo_act_637 hl (k := 4) rfl rfl (by decide) rfl (fun ls hl => ?_)
                            refine lv_goto (tgt := 597) G.1 G.2.1 d_Mo_act_640 (by decide) ?_
                            have h := hK_597 s_214 x2j636 x7j636 x8j636 (x9j636 + 1) h
                            exact ih_597 s_214 x2j636 x7j636 x8j636 (x9j636 + 1) (Nat.lt_of_lt_of_le h.2 (Nat.le_of_lt_succ hμ_597)) h.1 H locs hP hD hS ls (lv_sub hl [1, 2, 3, 4, 0] rfl)
                          refine lv_icmp_ne (tgt := 629) G.1 G.2.1 d_Mo_act_621 (by decide) (fun c621 => ?_) (fun c621 => ?_)
                          · skip
                            have h := h.1 c621
                            refine lv_aload_n G.1 G.2.1 d_Mo_act_629 rfl (lv_at hl 0 rfl) ?_
                            refine ugf (v := .ref (yP y a0 71)) G hP h_a0 iMo rfl 71 (by decide) rfl q3135 rfl rfl d_Mo_act_630 ?_
                            refine lv_iload G.1 G.2.1 d_Mo_act_633 (lv_at hl 4 rfl) ?_
                            refine uiald G hP (kdp h_a0 rfl) (typ h_a0 rfl) h d_Mo_act_635 (fun x_215 h => ?_)
                            exact J_636 s_h597 x2h597 x7h597 x8h597 x9h597 x9h597 x_215 H locs h hP hD hS ls (lv_sub hl [0, 1, 2, 3, 4] rfl)
                          · skip
                            have h := h.2 c621
                            refine lv_iload G.1 G.2.1 d_Mo_act_624 (lv_at hl 3 rfl) ?_
                            refine lv_goto (tgt := 636) G.1 G.2.1 d_Mo_act_626 (by decide) ?_
                            exact J_636 s_h597 x2h597 x7h597 x8h597 x9h597 x9h597 x8h597 H locs h hP hD hS ls (lv_sub hl [0, 1, 2, 3, 4] rfl)
                    exact L_597 _ s_h540 x2h540 x7h540 x8h540 0 (Nat.lt_succ_self _) hI_597 H locs hP hD hS ls (lv_sub hl [1, 2, 3, 4, 0] rfl)
                  · skip
                    have h := h.2 c554
                    refine lv_aload_n G.1 G.2.1 d_Mo_act_557 rfl (lv_at hl 0 rfl) ?_
                    refine ugf (v := .ref (yP y a0 70)) G hP h_a0 iMo rfl 70 (by decide) rfl q3134 rfl rfl d_Mo_act_558 ?_
                    refine lv_iload G.1 G.2.1 d_Mo_act_561 (lv_at hl 4 rfl) ?_
                    refine W.eq (g2 := F0 m 563 ls [.int x9h540, .ref (yP y a0 70)]) rfl ?_
                    refine lv_aload_n G.1 G.2.1 d_Mo_act_563 rfl (lv_at hl 0 rfl) ?_
                    refine ugf (v := .ref (yP y a0 70)) G hP h_a0 iMo rfl 70 (by decide) rfl q3134 rfl rfl d_Mo_act_564 ?_
                    refine lv_iload G.1 G.2.1 d_Mo_act_567 (lv_at hl 4 rfl) ?_
                    refine uiald G hP (kdp h_a0 rfl) (typ h_a0 rfl) h d_Mo_act_569 (fun x_216 h => ?_)
                    refine lv_iload G.1 G.2.1 d_Mo_act_570 (lv_at hl 2 rfl) ?_
                    have J_587 : ∀ (s_j587 : St) (x2j587 : Int32) (x7j587 : Int32) (x8j587 : Int32) (x9j587 : Int32) (z1j587 : Int32) (z2j587 : Int32) (H : Heap) (locs : List Loc), wj_Mo_act_587 y Post K_540 a0 s_j587 x2j587 x7j587 x8j587 x9j587 z1j587 z2j587 → va_P D CL (ws g ad y s_j587) H → va_D A (ws g ad y s_j587) → va_S A s.heap H locs → ∀ ls, lv_has ls 10 [(0, .ref (ad a0)), (2, .int x2j587), (7, .int x7j587), (8, .int x8j587), (9, .int x9j587)] → W p l e ru_Mo_act s m args below meth c H locs 0 0 Q (F0 m 587 ls [.int z2j587, .int z1j587, .ref (yP y a0 70)]) := by
                      intro s_j587 x2j587 x7j587 x8j587 x9j587 z1j587 z2j587 H locs h hP hD hS ls hl
                      unfold wj_Mo_act_587 at h
                      refine uiast G hP hD hS (kdp h_a0 rfl) (typ h_a0 rfl) h d_Mo_act_587 (fun s_217 H locs h hP hD hS => ?_)
                      refine lv_iinc (v := x9j587 + 1) (lv' := [(9, .int (x9j587 + 1)), (0, .ref (ad a0)), (2, .int x2j587), (7, .int x7j587), (8, .int x8j587)]) G.1 G.2.1 d_Mo_act_588 hl (k := 4) rfl rfl (by decide) rfl (fun ls hl => ?_)
                      refine lv_goto (tgt := 540) G.1 G.2.1 d_Mo_act_591 (by decide) ?_
                      have h := hK_540 s_217 x2j587 x7j587 x8j587 (x9j587 + 1) h
                      exact ih_540 s_217 x2j587 x7j587 x8j587 (x9j587 + 1) (Nat.lt_of_lt_of_le h.2 (Nat.le_of_lt_succ hμ_540)) h.1 H locs hP hD hS ls (lv_sub hl [1, 2, 3, 4, 0] rfl)
                    refine lv_icmp_ne (tgt := 580) G.1 G.2.1 d_Mo_act_572 (by decide) (fun c572 => ?_) (fun c572 => ?_)
                    · skip
                      have h := h.1 c572
                      refine lv_aload_n G.1 G.2.1 d_Mo_act_580 rfl (lv_at hl 0 rfl) ?_
                      refine ugf (v := .ref (yP y a0 70)) G hP h_a0 iMo rfl 70 (by decide) rfl q3134 rfl rfl d_Mo_act_581 ?_
                      refine lv_iload G.1 G.2.1 d_Mo_act_584 (lv_at hl 4 rfl) ?_
                      refine uiald G hP (kdp h_a0 rfl) (typ h_a0 rfl) h d_Mo_act_586 (fun x_218 h => ?_)
                      exact J_587 s_h540 x2h540 x7h540 x8h540 x9h540 x9h540 x_218 H locs h hP hD hS ls (lv_sub hl [0, 1, 2, 3, 4] rfl)
                    · skip
                      have h := h.2 c572
                      refine lv_iload G.1 G.2.1 d_Mo_act_575 (lv_at hl 3 rfl) ?_
                      refine lv_goto (tgt := 587) G.1 G.2.1 d_Mo_act_577 (by decide) ?_
                      exact J_587 s_h540 x2h540 x7h540 x8h540 x9h540 x9h540 x8h540 H locs h hP hD hS ls (lv_sub hl [0, 1, 2, 3, 4] rfl)
              exact L_540 _ s_j534 x2j534 x7j534 (z0j534 + z1j534) 0 (Nat.lt_succ_self _) hI_540 H locs hP hD hS ls (lv_sub hl [2, 3, 4, 1, 0] rfl)
            refine lv_icmp_ne (tgt := 532) G.1 G.2.1 d_Mo_act_514 (by decide) (fun c514 => ?_) (fun c514 => ?_)
            · skip
              have h := h.1 c514
              refine lv_iload G.1 G.2.1 d_Mo_act_532 (lv_at hl 5 rfl) ?_
              exact J_534 s_5 x2j100 z0j100 16 x4j100 H locs h hP hD hS ls (lv_sub hl [1, 3, 0] rfl)
            · skip
              have h := h.2 c514
              refine lv_aload_n G.1 G.2.1 d_Mo_act_517 rfl (lv_at hl 1 rfl) ?_
              obtain ⟨b_219, e_220, c_221, h⟩ := h
              refine ugf (v := .ref (ad b_219)) G hP h_a0 iMo rfl 45 (by decide) rfl q3109 rfl (by show va_rf ((sO s_5 a0 45).map ad) = _; rw [e_220]; rfl) d_Mo_act_518 ?_
              refine ugfN (v := .ref (yP y b_219 3)) G hP c_221 iMw rfl 3 (by decide) rfl q2710 rfl rfl d_Mo_act_521 ?_
              refine lv_aload_n G.1 G.2.1 d_Mo_act_524 rfl (lv_at hl 1 rfl) ?_
              refine ugf (v := .int (sV s_5 a0 76)) G hP h_a0 iMo rfl 76 (by decide) rfl q3140 rfl rfl d_Mo_act_525 ?_
              refine uiald G hP (kdp c_221 rfl) (typ c_221 rfl) h d_Mo_act_528 (fun x_222 h => ?_)
              refine lv_goto (tgt := 534) G.1 G.2.1 d_Mo_act_529 (by decide) ?_
              exact J_534 s_5 x2j100 z0j100 16 x_222 H locs h hP hD hS ls (lv_sub hl [1, 3, 0] rfl)
        replace h := h.2 e116_53
        by_cases e116_54 : x1j100 = 54
        · skip
          have h := h.1 e116_54
          refine lv_tableIn (off := 376) (tgt := 492) G.1 G.2.1 d_Mo_act_116 (by rw [e116_54]; decide) (by rw [e116_54]; decide) (by rw [e116_54]; rfl) (by decide) ?_
          refine lv_aload_n G.1 G.2.1 d_Mo_act_492 rfl (lv_at hl 1 rfl) ?_
          refine W.eq (g2 := F0 m 493 ls [.ref (ad a0)]) rfl ?_
          refine lv_bipush (v := 16) G.1 G.2.1 d_Mo_act_493 (by decide) ?_
          refine lv_iload G.1 G.2.1 d_Mo_act_495 (lv_at hl 5 rfl) ?_
          refine lv_iadd G.1 G.2.1 d_Mo_act_497 ?_
          refine ucVv (As := [.int (16 + x4j100)]) (rest := []) G hP hD hS (cu_Mo_lay l D g ad y _ s_5 a0 (16 + x4j100) H.size h_a0 h) w9_Mo_lay q3779 ⟨Nat.le_of_ble_eq_true rfl, Nat.le_of_ble_eq_true rfl⟩ rfl rfl h_a0 (q := (RMo, TMo, 131)) rfl rfl hl.1 rfl (Nat.le_of_ble_eq_true rfl) rfl ⟨Nat.le_refl _, Nat.le_refl _⟩ d_Mo_act_498 (fun s_224 H locs h hP hD hS => ?_)
          refine lv_goto (tgt := 698) G.1 G.2.1 d_Mo_act_501 (by decide) ?_
          exact J_698 s_224 H locs h hP hD hS ls (lv_sub hl [] rfl)
        replace h := h.2 e116_54
        by_cases e116_55 : x1j100 = 55
        · skip
          have h := h.1 e116_55
          refine lv_tableIn (off := 236) (tgt := 352) G.1 G.2.1 d_Mo_act_116 (by rw [e116_55]; decide) (by rw [e116_55]; decide) (by rw [e116_55]; rfl) (by decide) ?_
          refine lv_aload_n G.1 G.2.1 d_Mo_act_352 rfl (lv_at hl 1 rfl) ?_
          refine W.eq (g2 := F0 m 353 ls [.ref (ad a0)]) rfl ?_
          refine lv_iload_n G.1 G.2.1 d_Mo_act_353 rfl (lv_at hl 2 rfl) ?_
          refine lv_bipush (v := 42) G.1 G.2.1 d_Mo_act_354 (by decide) ?_
          have J_364 : ∀ (s_j364 : St) (z1j364 : Int32) (H : Heap) (locs : List Loc), wj_Mo_act_364 y Post a0 s_j364 z1j364 → va_P D CL (ws g ad y s_j364) H → va_D A (ws g ad y s_j364) → va_S A s.heap H locs → ∀ ls, lv_has ls 10 [] → W p l e ru_Mo_act s m args below meth c H locs 0 0 Q (F0 m 364 ls [.int z1j364, .ref (ad a0)]) := by
            intro s_j364 z1j364 H locs h hP hD hS ls hl
            unfold wj_Mo_act_364 at h
            refine ucVv (As := [.int z1j364]) (rest := []) G hP hD hS (cu_Mo_lay l D g ad y _ s_j364 a0 z1j364 H.size h_a0 h) w9_Mo_lay q3779 ⟨Nat.le_of_ble_eq_true rfl, Nat.le_of_ble_eq_true rfl⟩ rfl rfl h_a0 (q := (RMo, TMo, 131)) rfl rfl hl.1 rfl (Nat.le_of_ble_eq_true rfl) rfl ⟨Nat.le_refl _, Nat.le_refl _⟩ d_Mo_act_364 (fun s_226 H locs h hP hD hS => ?_)
            refine lv_goto (tgt := 698) G.1 G.2.1 d_Mo_act_367 (by decide) ?_
            exact J_698 s_226 H locs h hP hD hS ls (lv_sub hl [] rfl)
          refine lv_icmp_ne (tgt := 363) G.1 G.2.1 d_Mo_act_356 (by decide) (fun c356 => ?_) (fun c356 => ?_)
          · skip
            have h := h.1 c356
            refine lv_iconst (v := 1) G.1 G.2.1 d_Mo_act_363 (by decide) ?_
            exact J_364 s_5 1 H locs h hP hD hS ls (lv_sub hl [] rfl)
          · skip
            have h := h.2 c356
            refine lv_iconst (v := 2) G.1 G.2.1 d_Mo_act_359 (by decide) ?_
            refine lv_goto (tgt := 364) G.1 G.2.1 d_Mo_act_360 (by decide) ?_
            exact J_364 s_5 2 H locs h hP hD hS ls (lv_sub hl [] rfl)
        replace h := h.2 e116_55
        have te116_1 := lv_neT (a := 1) e116_1 (by decide)
        have te116_2 := lv_neT (a := 2) e116_2 (by decide)
        have te116_3 := lv_neT (a := 3) e116_3 (by decide)
        have te116_4 := lv_neT (a := 4) e116_4 (by decide)
        have te116_5 := lv_neT (a := 5) e116_5 (by decide)
        have te116_6 := lv_neT (a := 6) e116_6 (by decide)
        have te116_7 := lv_neT (a := 7) e116_7 (by decide)
        have te116_8 := lv_neT (a := 8) e116_8 (by decide)
        have te116_9 := lv_neT (a := 9) e116_9 (by decide)
        have te116_10 := lv_neT (a := 10) e116_10 (by decide)
        have te116_11 := lv_neT (a := 11) e116_11 (by decide)
        have te116_12 := lv_neT (a := 12) e116_12 (by decide)
        have te116_13 := lv_neT (a := 13) e116_13 (by decide)
        have te116_14 := lv_neT (a := 14) e116_14 (by decide)
        have te116_15 := lv_neT (a := 15) e116_15 (by decide)
        have te116_16 := lv_neT (a := 16) e116_16 (by decide)
        have te116_17 := lv_neT (a := 17) e116_17 (by decide)
        have te116_18 := lv_neT (a := 18) e116_18 (by decide)
        have te116_19 := lv_neT (a := 19) e116_19 (by decide)
        have te116_20 := lv_neT (a := 20) e116_20 (by decide)
        have te116_21 := lv_neT (a := 21) e116_21 (by decide)
        have te116_22 := lv_neT (a := 22) e116_22 (by decide)
        have te116_23 := lv_neT (a := 23) e116_23 (by decide)
        have te116_24 := lv_neT (a := 24) e116_24 (by decide)
        have te116_25 := lv_neT (a := 25) e116_25 (by decide)
        have te116_26 := lv_neT (a := 26) e116_26 (by decide)
        have te116_27 := lv_neT (a := 27) e116_27 (by decide)
        have te116_28 := lv_neT (a := 28) e116_28 (by decide)
        have te116_29 := lv_neT (a := 29) e116_29 (by decide)
        have te116_30 := lv_neT (a := 30) e116_30 (by decide)
        have te116_31 := lv_neT (a := 31) e116_31 (by decide)
        have te116_32 := lv_neT (a := 32) e116_32 (by decide)
        have te116_33 := lv_neT (a := 33) e116_33 (by decide)
        have te116_34 := lv_neT (a := 34) e116_34 (by decide)
        have te116_35 := lv_neT (a := 35) e116_35 (by decide)
        have te116_36 := lv_neT (a := 36) e116_36 (by decide)
        have te116_37 := lv_neT (a := 37) e116_37 (by decide)
        have te116_38 := lv_neT (a := 38) e116_38 (by decide)
        have te116_39 := lv_neT (a := 39) e116_39 (by decide)
        have te116_40 := lv_neT (a := 40) e116_40 (by decide)
        have te116_41 := lv_neT (a := 41) e116_41 (by decide)
        have te116_42 := lv_neT (a := 42) e116_42 (by decide)
        have te116_43 := lv_neT (a := 43) e116_43 (by decide)
        have te116_44 := lv_neT (a := 44) e116_44 (by decide)
        have te116_45 := lv_neT (a := 45) e116_45 (by decide)
        have te116_46 := lv_neT (a := 46) e116_46 (by decide)
        have te116_47 := lv_neT (a := 47) e116_47 (by decide)
        have te116_48 := lv_neT (a := 48) e116_48 (by decide)
        have te116_49 := lv_neT (a := 49) e116_49 (by decide)
        have te116_50 := lv_neT (a := 50) e116_50 (by decide)
        have te116_51 := lv_neT (a := 51) e116_51 (by decide)
        have te116_52 := lv_neT (a := 52) e116_52 (by decide)
        have te116_53 := lv_neT (a := 53) e116_53 (by decide)
        have te116_54 := lv_neT (a := 54) e116_54 (by decide)
        have te116_55 := lv_neT (a := 55) e116_55 (by decide)
        refine lv_tableOut (tgt := 681) G.1 G.2.1 d_Mo_act_116 (by omega) (by decide) ?_
        refine lv_iload_n G.1 G.2.1 d_Mo_act_681 rfl (lv_at hl 2 rfl) ?_
        refine W.eq (g2 := F0 m 682 ls [.int x1j100]) rfl ?_
        refine lv_bipush (v := 8) G.1 G.2.1 d_Mo_act_682 (by decide) ?_
        refine lv_icmp_lt (tgt := 698) G.1 G.2.1 d_Mo_act_684 (by decide) (fun c684 => ?_) (fun c684 => ?_)
        · skip
          have h := h.1 c684
          exact J_698 s_5 H locs h hP hD hS ls (lv_sub hl [] rfl)
        · skip
          have h := h.2 c684
          refine lv_iload_n G.1 G.2.1 d_Mo_act_687 rfl (lv_at hl 2 rfl) ?_
          refine lv_bipush (v := 18) G.1 G.2.1 d_Mo_act_688 (by decide) ?_
          refine lv_icmp_gt (tgt := 698) G.1 G.2.1 d_Mo_act_690 (by decide) (fun c690 => ?_) (fun c690 => ?_)
          · skip
            have h := h.1 c690
            exact J_698 s_5 H locs h hP hD hS ls (lv_sub hl [] rfl)
          · skip
            have h := h.2 c690
            refine lv_aload_n G.1 G.2.1 d_Mo_act_693 rfl (lv_at hl 1 rfl) ?_
            refine lv_iconst (v := 1) G.1 G.2.1 d_Mo_act_694 (by decide) ?_
            refine ucVv (As := [.int 1]) (rest := []) G hP hD hS (cu_Mo_lay l D g ad y _ s_5 a0 1 H.size h_a0 h) w9_Mo_lay q3779 ⟨Nat.le_of_ble_eq_true rfl, Nat.le_of_ble_eq_true rfl⟩ rfl rfl h_a0 (q := (RMo, TMo, 131)) rfl rfl hl.1 rfl (Nat.le_of_ble_eq_true rfl) rfl ⟨Nat.le_refl _, Nat.le_refl _⟩ d_Mo_act_695 (fun s_228 H locs h hP hD hS => ?_)
            exact J_698 s_228 H locs h hP hD hS ls (lv_sub hl [] rfl)
      have J_99 : ∀ (s_j99 : St) (x1j99 : Int32) (x2j99 : Int32) (x3j99 : Int32) (x4j99 : Int32) (x5j99 : Int32) (x6j99 : Int32) (H : Heap) (locs : List Loc), wj_Mo_act_99 y Post a0 s_j99 x1j99 x2j99 x3j99 x4j99 x5j99 x6j99 → va_P D CL (ws g ad y s_j99) H → va_D A (ws g ad y s_j99) → va_S A s.heap H locs → ∀ ls, lv_has ls 10 [(0, .ref (ad a0)), (1, .int x1j99), (2, .int x2j99), (3, .int x3j99), (4, .int x4j99), (5, .int x5j99), (6, .int x6j99)] → W p l e ru_Mo_act s m args below meth c H locs 0 0 Q (F0 m 99 ls []) := by
        intro s_j99 x1j99 x2j99 x3j99 x4j99 x5j99 x6j99 H locs h hP hD hS ls hl
        unfold wj_Mo_act_99 at h
        refine lv_iconst (v := 0) G.1 G.2.1 d_Mo_act_99 (by decide) ?_
        exact J_100 s_j99 x1j99 x2j99 x3j99 x4j99 x5j99 x6j99 0 H locs h hP hD hS ls (lv_sub hl [0, 1, 2, 3, 4, 5, 6] rfl)
      refine lv_icmp_ne (tgt := 99) G.1 G.2.1 d_Mo_act_63 (by decide) (fun c63 => ?_) (fun c63 => ?_)
      · skip
        have h := h.1 c63
        exact J_99 s_j58 x1j58 x2j58 x3j58 x4j58 x5j58 z0j58 H locs h hP hD hS ls (lv_sub hl [1, 2, 3, 4, 5, 6, 0] rfl)
      · skip
        have h := h.2 c63
        refine lv_aload_n G.1 G.2.1 d_Mo_act_66 rfl (lv_at hl 1 rfl) ?_
        obtain ⟨b_229, e_230, c_231, h⟩ := h
        refine ugf (v := .ref (ad b_229)) G hP h_a0 iMo rfl 45 (by decide) rfl q3109 rfl (by show va_rf ((sO s_j58 a0 45).map ad) = _; rw [e_230]; rfl) d_Mo_act_67 ?_
        refine ugfN (v := .ref (yP y b_229 32)) G hP c_231 iMw rfl 32 (by decide) rfl q2768 rfl rfl d_Mo_act_70 ?_
        refine lv_iload_n G.1 G.2.1 d_Mo_act_73 rfl (lv_at hl 3 rfl) ?_
        refine uiald G hP (kdp c_231 rfl) (typ c_231 rfl) h d_Mo_act_74 (fun x_232 h => ?_)
        refine lv_aload_n G.1 G.2.1 d_Mo_act_75 rfl (lv_at hl 1 rfl) ?_
        refine ugf (v := .int (sV s_j58 a0 6)) G hP h_a0 iMo rfl 6 (by decide) rfl q3070 rfl rfl d_Mo_act_76 ?_
        refine W.eq (g2 := F0 m 79 ls [.int (sV s_j58 a0 6), .int x_232]) rfl ?_
        refine lv_icmp_ne (tgt := 99) G.1 G.2.1 d_Mo_act_79 (by decide) (fun c79 => ?_) (fun c79 => ?_)
        · skip
          have h := h.1 c79
          exact J_99 s_j58 x1j58 x2j58 x3j58 x4j58 x5j58 z0j58 H locs h hP hD hS ls (lv_sub hl [1, 2, 3, 4, 5, 6, 0] rfl)
        · skip
          have h := h.2 c79
          refine lv_aload_n G.1 G.2.1 d_Mo_act_82 rfl (lv_at hl 1 rfl) ?_
          refine ugf (v := .ref (yP y a0 71)) G hP h_a0 iMo rfl 71 (by decide) rfl q3135 rfl rfl d_Mo_act_83 ?_
          refine lv_aload_n G.1 G.2.1 d_Mo_act_86 rfl (lv_at hl 1 rfl) ?_
          refine ugf (v := .int (sV s_j58 a0 72)) G hP h_a0 iMo rfl 72 (by decide) rfl q3136 rfl rfl d_Mo_act_87 ?_
          refine lv_aload_n G.1 G.2.1 d_Mo_act_90 rfl (lv_at hl 1 rfl) ?_
          refine ugf (v := .int (sV s_j58 a0 79)) G hP h_a0 iMo rfl 79 (by decide) rfl q3143 rfl rfl d_Mo_act_91 ?_
          refine lv_isub G.1 G.2.1 d_Mo_act_94 ?_
          refine uiald G hP (kdp h_a0 rfl) (typ h_a0 rfl) h d_Mo_act_95 (fun x_233 h => ?_)
          refine lv_goto (tgt := 100) G.1 G.2.1 d_Mo_act_96 (by decide) ?_
          exact J_100 s_j58 x1j58 x2j58 x3j58 x4j58 x5j58 z0j58 x_233 H locs h hP hD hS ls (lv_sub hl [1, 2, 3, 4, 5, 6, 0] rfl)
    refine lv_icmp_le (tgt := 57) G.1 G.2.1 d_Mo_act_40 (by decide) (fun c40 => ?_) (fun c40 => ?_)
    · skip
      have h := h.1 c40
      refine lv_iconst (v := 0) G.1 G.2.1 d_Mo_act_57 (by decide) ?_
      exact J_58 s_j33 x1j33 x2j33 x3j33 x4j33 z0j33 0 H locs h hP hD hS ls (lv_sub hl [1, 2, 3, 4, 5, 0] rfl)
    · skip
      have h := h.2 c40
      refine lv_aload_n G.1 G.2.1 d_Mo_act_43 rfl (lv_at hl 1 rfl) ?_
      refine ugf (v := .ref (yP y a0 71)) G hP h_a0 iMo rfl 71 (by decide) rfl q3135 rfl rfl d_Mo_act_44 ?_
      refine lv_aload_n G.1 G.2.1 d_Mo_act_47 rfl (lv_at hl 1 rfl) ?_
      refine ugf (v := .int (sV s_j33 a0 72)) G hP h_a0 iMo rfl 72 (by decide) rfl q3136 rfl rfl d_Mo_act_48 ?_
      refine lv_iconst (v := 2) G.1 G.2.1 d_Mo_act_51 (by decide) ?_
      refine lv_isub G.1 G.2.1 d_Mo_act_52 ?_
      refine W.eq (g2 := F0 m 53 ls [.int ((sV s_j33 a0 72) - 2), .ref (yP y a0 71)]) rfl ?_
      refine uiald G hP (kdp h_a0 rfl) (typ h_a0 rfl) h d_Mo_act_53 (fun x_234 h => ?_)
      refine lv_goto (tgt := 58) G.1 G.2.1 d_Mo_act_54 (by decide) ?_
      exact J_58 s_j33 x1j33 x2j33 x3j33 x4j33 z0j33 x_234 H locs h hP hD hS ls (lv_sub hl [1, 2, 3, 4, 5, 0] rfl)
  refine lv_if_le (tgt := 32) G.1 G.2.1 d_Mo_act_15 (by decide) (fun c15 => ?_) (fun c15 => ?_)
  · skip
    have h := h.1 c15
    refine lv_iconst (v := 0) G.1 G.2.1 d_Mo_act_32 (by decide) ?_
    exact J_33 σ v1 v2 v3 x_4 0 H locs h hP hD hS ls (lv_sub hl [1, 2, 3, 4, 0] rfl)
  · skip
    have h := h.2 c15
    refine lv_aload_n G.1 G.2.1 d_Mo_act_18 rfl (lv_at hl 1 rfl) ?_
    refine ugf (v := .ref (yP y a0 71)) G hP h_a0 iMo rfl 71 (by decide) rfl q3135 rfl rfl d_Mo_act_19 ?_
    refine W.eq (g2 := F0 m 22 ls [.ref (yP y a0 71)]) rfl ?_
    refine lv_aload_n G.1 G.2.1 d_Mo_act_22 rfl (lv_at hl 1 rfl) ?_
    refine ugf (v := .int (sV σ a0 72)) G hP h_a0 iMo rfl 72 (by decide) rfl q3136 rfl rfl d_Mo_act_23 ?_
    refine lv_iconst (v := 1) G.1 G.2.1 d_Mo_act_26 (by decide) ?_
    refine lv_isub G.1 G.2.1 d_Mo_act_27 ?_
    refine uiald G hP (kdp h_a0 rfl) (typ h_a0 rfl) h d_Mo_act_28 (fun x_235 h => ?_)
    refine lv_goto (tgt := 33) G.1 G.2.1 d_Mo_act_29 (by decide) ?_
    exact J_33 σ v1 v2 v3 x_4 x_235 H locs h hP hD hS ls (lv_sub hl [1, 2, 3, 4, 0] rfl)
