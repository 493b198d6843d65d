def y_Mo_fixed : MethodName := ⟨"ClassWorksModel", "fixed", "(III)I"⟩
abbrev b_Mo_fixed : ByteArray := prog_14_method_152_code
theorem q2738 : Cond.fieldLinkNest "ClassWorksModel" 636 "ClassWorksModel$World" "fieldValues" "[I" "ClassWorksModel" ∈ lw_nest := lw_nestmem (List.mem_of_getElem? (i := 2738) (by decide +kernel)) rfl
theorem d_Mo_fixed_0 : decode b_Mo_fixed 0 = .ok (.aload_n 0, 1) := by decide +kernel
theorem d_Mo_fixed_1 : decode b_Mo_fixed 1 = .ok (.iload_n 1, 1) := by decide +kernel
theorem d_Mo_fixed_2 : decode b_Mo_fixed 2 = .ok (.iload_n 2, 1) := by decide +kernel
theorem d_Mo_fixed_3 : decode b_Mo_fixed 3 = .ok (.invokevirtual 1129, 3) := by decide +kernel
theorem d_Mo_fixed_6 : decode b_Mo_fixed 6 = .ok (.ifCond .eq 22, 3) := by decide +kernel
theorem d_Mo_fixed_9 : decode b_Mo_fixed 9 = .ok (.iload_n 3, 1) := by decide +kernel
theorem d_Mo_fixed_10 : decode b_Mo_fixed 10 = .ok (.ifCond .lt 18, 3) := by decide +kernel
theorem d_Mo_fixed_13 : decode b_Mo_fixed 13 = .ok (.iload_n 3, 1) := by decide +kernel
theorem d_Mo_fixed_14 : decode b_Mo_fixed 14 = .ok (.aload_n 0, 1) := by decide +kernel
theorem d_Mo_fixed_15 : decode b_Mo_fixed 15 = .ok (.getfield 263, 3) := by decide +kernel
theorem d_Mo_fixed_18 : decode b_Mo_fixed 18 = .ok (.iload_n 1, 1) := by decide +kernel
theorem d_Mo_fixed_19 : decode b_Mo_fixed 19 = .ok (.aaload, 1) := by decide +kernel
theorem d_Mo_fixed_20 : decode b_Mo_fixed 20 = .ok (.getfield 435, 3) := by decide +kernel
theorem d_Mo_fixed_23 : decode b_Mo_fixed 23 = .ok (.iload_n 2, 1) := by decide +kernel
theorem d_Mo_fixed_24 : decode b_Mo_fixed 24 = .ok (.iaload, 1) := by decide +kernel
theorem d_Mo_fixed_25 : decode b_Mo_fixed 25 = .ok (.if_icmp .lt 5, 3) := by decide +kernel
theorem d_Mo_fixed_28 : decode b_Mo_fixed 28 = .ok (.iconst (-1), 1) := by decide +kernel
theorem d_Mo_fixed_29 : decode b_Mo_fixed 29 = .ok (.ireturn, 1) := by decide +kernel
theorem d_Mo_fixed_30 : decode b_Mo_fixed 30 = .ok (.aload_n 0, 1) := by decide +kernel
theorem d_Mo_fixed_31 : decode b_Mo_fixed 31 = .ok (.getfield 263, 3) := by decide +kernel
theorem d_Mo_fixed_34 : decode b_Mo_fixed 34 = .ok (.iload_n 1, 1) := by decide +kernel
theorem d_Mo_fixed_35 : decode b_Mo_fixed 35 = .ok (.aaload, 1) := by decide +kernel
theorem d_Mo_fixed_36 : decode b_Mo_fixed 36 = .ok (.astore 4, 2) := by decide +kernel
theorem d_Mo_fixed_38 : decode b_Mo_fixed 38 = .ok (.bipush 8, 2) := by decide +kernel
theorem d_Mo_fixed_40 : decode b_Mo_fixed 40 = .ok (.iload_n 2, 1) := by decide +kernel
theorem d_Mo_fixed_41 : decode b_Mo_fixed 41 = .ok (.imul, 1) := by decide +kernel
theorem d_Mo_fixed_42 : decode b_Mo_fixed 42 = .ok (.iload_n 3, 1) := by decide +kernel
theorem d_Mo_fixed_43 : decode b_Mo_fixed 43 = .ok (.iadd, 1) := by decide +kernel
theorem d_Mo_fixed_44 : decode b_Mo_fixed 44 = .ok (.istore 5, 2) := by decide +kernel
theorem d_Mo_fixed_46 : decode b_Mo_fixed 46 = .ok (.aload 4, 2) := by decide +kernel
theorem d_Mo_fixed_48 : decode b_Mo_fixed 48 = .ok (.getfield 627, 3) := by decide +kernel
theorem d_Mo_fixed_51 : decode b_Mo_fixed 51 = .ok (.iload 5, 2) := by decide +kernel
theorem d_Mo_fixed_53 : decode b_Mo_fixed 53 = .ok (.iaload, 1) := by decide +kernel
theorem d_Mo_fixed_54 : decode b_Mo_fixed 54 = .ok (.iconst 1, 1) := by decide +kernel
theorem d_Mo_fixed_55 : decode b_Mo_fixed 55 = .ok (.iand, 1) := by decide +kernel
theorem d_Mo_fixed_56 : decode b_Mo_fixed 56 = .ok (.ifCond .ne 7, 3) := by decide +kernel
theorem d_Mo_fixed_59 : decode b_Mo_fixed 59 = .ok (.iconst (-1), 1) := by decide +kernel
theorem d_Mo_fixed_60 : decode b_Mo_fixed 60 = .ok (.goto 31, 3) := by decide +kernel
theorem d_Mo_fixed_63 : decode b_Mo_fixed 63 = .ok (.aload 4, 2) := by decide +kernel
theorem d_Mo_fixed_65 : decode b_Mo_fixed 65 = .ok (.getfield 636, 3) := by decide +kernel
theorem d_Mo_fixed_68 : decode b_Mo_fixed 68 = .ok (.iload 5, 2) := by decide +kernel
theorem d_Mo_fixed_70 : decode b_Mo_fixed 70 = .ok (.iaload, 1) := by decide +kernel
theorem d_Mo_fixed_71 : decode b_Mo_fixed 71 = .ok (.aload 4, 2) := by decide +kernel
theorem d_Mo_fixed_73 : decode b_Mo_fixed 73 = .ok (.getfield 624, 3) := by decide +kernel
theorem d_Mo_fixed_76 : decode b_Mo_fixed 76 = .ok (.iload 5, 2) := by decide +kernel
theorem d_Mo_fixed_78 : decode b_Mo_fixed 78 = .ok (.iaload, 1) := by decide +kernel
theorem d_Mo_fixed_79 : decode b_Mo_fixed 79 = .ok (.iconst 1, 1) := by decide +kernel
theorem d_Mo_fixed_80 : decode b_Mo_fixed 80 = .ok (.if_icmp .eq 7, 3) := by decide +kernel
theorem d_Mo_fixed_83 : decode b_Mo_fixed 83 = .ok (.iconst 1, 1) := by decide +kernel
theorem d_Mo_fixed_84 : decode b_Mo_fixed 84 = .ok (.goto 4, 3) := by decide +kernel
theorem d_Mo_fixed_87 : decode b_Mo_fixed 87 = .ok (.iconst 0, 1) := by decide +kernel
theorem d_Mo_fixed_88 : decode b_Mo_fixed 88 = .ok (.invokestatic 1170, 3) := by decide +kernel
theorem d_Mo_fixed_91 : decode b_Mo_fixed 91 = .ok (.ireturn, 1) := by decide +kernel
abbrev ru_Mo_fixed : Room := { frames := 2, cells := 0, slots := 0, locals := 43 }
def wj_Mo_fixed_28 (y : Ly) (Post : St → Int32 → Prop) (a0 : Nat) (s_j28 : St) : Prop := Post s_j28 (-1)
def wj_Mo_fixed_91 (y : Ly) (Post : St → Int32 → Prop) (a0 : Nat) (s_j91 : St) (z0j91 : Int32) : Prop := Post s_j91 z0j91
def wj_Mo_fixed_88 (y : Ly) (Post : St → Int32 → Prop) (a0 : Nat) (s_j88 : St) (z0j88 : Int32) (z1j88 : Int32) : Prop := wu_Mo_shown y (fun (s_12 : St) (r_11 : Int32) => wj_Mo_fixed_91 y Post a0 s_12 r_11) s_j88 z0j88 z1j88
def wu_Mo_fixed (y : Ly) (Post : St → Int32 → Prop) (σ : St) (a0 : Nat) (v1 : Int32) (v2 : Int32) (v3 : Int32) : Prop := wu_Mo_isClass y (fun (s_2 : St) (r_1 : Int32) => ((r_1 = 0 → wj_Mo_fixed_28 y Post a0 s_2) ∧ (¬ (r_1 = 0) → ((v3 < 0 → wj_Mo_fixed_28 y Post a0 s_2) ∧ (¬ (v3 < 0) → xQ y a0 44 v1 (fun b_3 : Nat => xA y s_2 b_3 8 v2 (fun x_5 : Int32 => ((v3 < x_5 → xQ y a0 44 v1 (fun b_6 : Nat => xA y s_2 b_6 14 ((8 * v2) + v3) (fun x_8 : Int32 => ((¬ (x_8 &&& 1) = 0 → xA y s_2 b_6 17 ((8 * v2) + v3) (fun x_9 : Int32 => xA y s_2 b_6 13 ((8 * v2) + v3) (fun x_10 : Int32 => ((x_10 = 1 → wj_Mo_fixed_88 y Post a0 s_2 x_9 0) ∧ (¬ (x_10 = 1) → wj_Mo_fixed_88 y Post a0 s_2 x_9 1))))) ∧ ((x_8 &&& 1) = 0 → wj_Mo_fixed_91 y Post a0 s_2 (-1)))))) ∧ (¬ (v3 < x_5) → wj_Mo_fixed_28 y Post a0 s_2))))))))) σ a0 v1 v2
set_option maxHeartbeats 4000000 in
set_option maxRecDepth 100000 in
theorem cu_Mo_fixed (l : Launch) (D : va_G) (g : Nat → ClassId) (ad : Nat → Nat) (y : Ly) (Post : St → Int32 → Prop) (σ : St) (a0 : Nat) (v1 : Int32) (v2 : Int32) (v3 : Int32) (sz : Nat) (h_a0 : cl a0 = 14) (h : wu_Mo_fixed y Post σ a0 v1 v2 v3) : Met l y_Mo_fixed (mw y_Mo_fixed b_Mo_fixed 6 (some .int)) ru_Mo_fixed (PC g D [] [.ref (ad a0), .int v1, .int v2, .int v3] sz (ws g ad y σ)) (va_Qi (fun (r : Int32) (u : St) => Post u r) (QW D (va_A (ws g ad y σ) sz) (fun u => ws g ad y u)) (va_A (ws g ad y σ) sz)) 0 0 (va_A (ws g ad y σ) sz) := by
  refine ofI (by decide +kernel) (Nat.le_of_ble_eq_true rfl) ?_
  intro p e s m args below meth c A Q ls H locs G hsz hP hD hS hl hret
  subst hsz
  have hl : lv_has ls 6 [(0, .ref (ad a0)), (1, .int v1), (2, .int v2), (3, .int v3)] := hl
  unfold wu_Mo_fixed at h
  refine lv_aload_n G.1 G.2.1 d_Mo_fixed_0 rfl (lv_at hl 0 rfl) ?_
  refine lv_iload_n G.1 G.2.1 d_Mo_fixed_1 rfl (lv_at hl 1 rfl) ?_
  refine lv_iload_n G.1 G.2.1 d_Mo_fixed_2 rfl (lv_at hl 2 rfl) ?_
  refine ucVi (As := [.int v1, .int v2]) (rest := []) G hP hD hS (cu_Mo_isClass l D g ad y _ σ a0 v1 v2 H.size h_a0 h) w9_Mo_isClass q3661 ⟨Nat.le_of_ble_eq_true rfl, Nat.le_of_ble_eq_true rfl⟩ rfl rfl h_a0 (q := (RMo, TMo, 131)) rfl rfl hl.1 rfl (Nat.le_of_ble_eq_true rfl) rfl ⟨Nat.le_refl _, Nat.le_refl _⟩ d_Mo_fixed_3 (fun r_1 s_2 H locs h hP hD hS => ?_)
  have J_28 : ∀ (s_j28 : St) (H : Heap) (locs : List Loc), wj_Mo_fixed_28 y Post a0 s_j28 → va_P D CL (ws g ad y s_j28) H → va_D A (ws g ad y s_j28) → va_S A s.heap H locs → ∀ ls, lv_has ls 6 [] → W p l e ru_Mo_fixed s m args below meth c H locs 0 0 Q (F0 m 28 ls []) := by
    intro s_j28 H locs h hP hD hS ls hl
    unfold wj_Mo_fixed_28 at h
    refine lv_iconst (v := (-1)) G.1 G.2.1 d_Mo_fixed_28 (by decide) ?_
    exact hret _ _ _ _ _ _ _ ls h hP hD hS (Nat.le_refl _) (Nat.le_refl _) d_Mo_fixed_29
  refine lv_if_eq (tgt := 28) G.1 G.2.1 d_Mo_fixed_6 (by decide) (fun c6 => ?_) (fun c6 => ?_)
  · skip
    have h := h.1 c6
    exact J_28 s_2 H locs h hP hD hS ls (lv_sub hl [] rfl)
  · skip
    have h := h.2 c6
    refine lv_iload_n G.1 G.2.1 d_Mo_fixed_9 rfl (lv_at hl 3 rfl) ?_
    refine lv_if_lt (tgt := 28) G.1 G.2.1 d_Mo_fixed_10 (by decide) (fun c10 => ?_) (fun c10 => ?_)
    · skip
      have h := h.1 c10
      exact J_28 s_2 H locs h hP hD hS ls (lv_sub hl [] rfl)
    · skip
      have h := h.2 c10
      refine lv_iload_n G.1 G.2.1 d_Mo_fixed_13 rfl (lv_at hl 3 rfl) ?_
      refine lv_aload_n G.1 G.2.1 d_Mo_fixed_14 rfl (lv_at hl 0 rfl) ?_
      refine ugf (v := .ref (yP y a0 44)) G hP h_a0 iMo rfl 44 (by decide) rfl q3108 rfl rfl d_Mo_fixed_15 ?_
      refine lv_iload_n G.1 G.2.1 d_Mo_fixed_18 rfl (lv_at hl 1 rfl) ?_
      refine W.eq (g2 := F0 m 19 ls [.int v1, .ref (yP y a0 44), .int v3]) rfl ?_
      refine uqald G hP (kdp h_a0 rfl) (typ h_a0 rfl) rfl h d_Mo_fixed_19 (fun b_3 n_4 h => ?_)
      refine ugfN (v := .ref (yP y b_3 8)) G hP (oa_14 h_a0 n_4) iMw rfl 8 (by decide) rfl q2720 rfl rfl d_Mo_fixed_20 ?_
      refine lv_iload_n G.1 G.2.1 d_Mo_fixed_23 rfl (lv_at hl 2 rfl) ?_
      refine uiald G hP (kdp (oa_14 h_a0 n_4) rfl) (typ (oa_14 h_a0 n_4) rfl) h d_Mo_fixed_24 (fun x_5 h => ?_)
      refine lv_icmp_lt (tgt := 30) G.1 G.2.1 d_Mo_fixed_25 (by decide) (fun c25 => ?_) (fun c25 => ?_)
      · skip
        have h := h.1 c25
        refine lv_aload_n G.1 G.2.1 d_Mo_fixed_30 rfl (lv_at hl 0 rfl) ?_
        refine ugf (v := .ref (yP y a0 44)) G hP h_a0 iMo rfl 44 (by decide) rfl q3108 rfl rfl d_Mo_fixed_31 ?_
        refine lv_iload_n G.1 G.2.1 d_Mo_fixed_34 rfl (lv_at hl 1 rfl) ?_
        refine uqald G hP (kdp h_a0 rfl) (typ h_a0 rfl) rfl h d_Mo_fixed_35 (fun b_6 n_7 h => ?_)
        refine lv_astore (lv' := [(4, .ref (ad b_6)), (0, .ref (ad a0)), (1, .int v1), (2, .int v2), (3, .int v3)]) G.1 G.2.1 d_Mo_fixed_36 hl (by decide) rfl (fun ls hl => ?_)
        refine lv_bipush (v := 8) G.1 G.2.1 d_Mo_fixed_38 (by decide) ?_
        refine lv_iload_n G.1 G.2.1 d_Mo_fixed_40 rfl (lv_at hl 3 rfl) ?_
        refine W.eq (g2 := F0 m 41 ls [.int v2, .int 8]) rfl ?_
        refine lv_imul G.1 G.2.1 d_Mo_fixed_41 ?_
        refine lv_iload_n G.1 G.2.1 d_Mo_fixed_42 rfl (lv_at hl 4 rfl) ?_
        refine lv_iadd G.1 G.2.1 d_Mo_fixed_43 ?_
        refine lv_istore (lv' := [(5, .int ((8 * v2) + v3)), (4, .ref (ad b_6)), (0, .ref (ad a0)), (1, .int v1), (2, .int v2), (3, .int v3)]) G.1 G.2.1 d_Mo_fixed_44 hl (by decide) rfl (fun ls hl => ?_)
        refine lv_aload G.1 G.2.1 d_Mo_fixed_46 (lv_at hl 1 rfl) ?_
        refine ugfN (v := .ref (yP y b_6 14)) G hP (oa_14 h_a0 n_7) iMw rfl 14 (by decide) rfl q2732 rfl rfl d_Mo_fixed_48 ?_
        refine lv_iload G.1 G.2.1 d_Mo_fixed_51 (lv_at hl 0 rfl) ?_
        refine uiald G hP (kdp (oa_14 h_a0 n_7) rfl) (typ (oa_14 h_a0 n_7) rfl) h d_Mo_fixed_53 (fun x_8 h => ?_)
        refine lv_iconst (v := 1) G.1 G.2.1 d_Mo_fixed_54 (by decide) ?_
        refine lv_iand G.1 G.2.1 d_Mo_fixed_55 ?_
        have J_91 : ∀ (s_j91 : St) (z0j91 : Int32) (H : Heap) (locs : List Loc), wj_Mo_fixed_91 y Post a0 s_j91 z0j91 → va_P D CL (ws g ad y s_j91) H → va_D A (ws g ad y s_j91) → va_S A s.heap H locs → ∀ ls, lv_has ls 6 [] → W p l e ru_Mo_fixed s m args below meth c H locs 0 0 Q (F0 m 91 ls [.int z0j91]) := by
          intro s_j91 z0j91 H locs h hP hD hS ls hl
          unfold wj_Mo_fixed_91 at h
          exact hret _ _ _ _ _ _ _ ls h hP hD hS (Nat.le_refl _) (Nat.le_refl _) d_Mo_fixed_91
        refine lv_if_ne (tgt := 63) G.1 G.2.1 d_Mo_fixed_56 (by decide) (fun c56 => ?_) (fun c56 => ?_)
        · skip
          have h := h.1 c56
          refine lv_aload G.1 G.2.1 d_Mo_fixed_63 (lv_at hl 1 rfl) ?_
          refine W.eq (g2 := F0 m 65 ls [.ref (ad b_6)]) rfl ?_
          refine ugfN (v := .ref (yP y b_6 17)) G hP (oa_14 h_a0 n_7) iMw rfl 17 (by decide) rfl q2738 rfl rfl d_Mo_fixed_65 ?_
          refine lv_iload G.1 G.2.1 d_Mo_fixed_68 (lv_at hl 0 rfl) ?_
          refine uiald G hP (kdp (oa_14 h_a0 n_7) rfl) (typ (oa_14 h_a0 n_7) rfl) h d_Mo_fixed_70 (fun x_9 h => ?_)
          refine lv_aload G.1 G.2.1 d_Mo_fixed_71 (lv_at hl 1 rfl) ?_
          refine ugfN (v := .ref (yP y b_6 13)) G hP (oa_14 h_a0 n_7) iMw rfl 13 (by decide) rfl q2730 rfl rfl d_Mo_fixed_73 ?_
          refine lv_iload G.1 G.2.1 d_Mo_fixed_76 (lv_at hl 0 rfl) ?_
          refine uiald G hP (kdp (oa_14 h_a0 n_7) rfl) (typ (oa_14 h_a0 n_7) rfl) h d_Mo_fixed_78 (fun x_10 h => ?_)
          refine lv_iconst (v := 1) G.1 G.2.1 d_Mo_fixed_79 (by decide) ?_
          have J_88 : ∀ (s_j88 : St) (z0j88 : Int32) (z1j88 : Int32) (H : Heap) (locs : List Loc), wj_Mo_fixed_88 y Post a0 s_j88 z0j88 z1j88 → va_P D CL (ws g ad y s_j88) H → va_D A (ws g ad y s_j88) → va_S A s.heap H locs → ∀ ls, lv_has ls 6 [] → W p l e ru_Mo_fixed s m args below meth c H locs 0 0 Q (F0 m 88 ls [.int z1j88, .int z0j88]) := by
            intro s_j88 z0j88 z1j88 H locs h hP hD hS ls hl
            unfold wj_Mo_fixed_88 at h
            refine ucSi (As := [.int z0j88, .int z1j88]) (rest := []) G hP hD hS (cu_Mo_shown l D g ad y _ s_j88 z0j88 z1j88 H.size  h) w9_Mo_shown q4027 ⟨Nat.le_of_ble_eq_true rfl, Nat.le_of_ble_eq_true rfl⟩ rfl rfl hl.1 rfl (Nat.le_of_ble_eq_true rfl) rfl ⟨Nat.le_refl _, Nat.le_refl _⟩ d_Mo_fixed_88 (fun r_11 s_12 H locs h hP hD hS => ?_)
            exact J_91 s_12 r_11 H locs h hP hD hS ls (lv_sub hl [] rfl)
          refine lv_icmp_eq (tgt := 87) G.1 G.2.1 d_Mo_fixed_80 (by decide) (fun c80 => ?_) (fun c80 => ?_)
          · skip
            have h := h.1 c80
            refine lv_iconst (v := 0) G.1 G.2.1 d_Mo_fixed_87 (by decide) ?_
            exact J_88 s_2 x_9 0 H locs h hP hD hS ls (lv_sub hl [] rfl)
          · skip
            have h := h.2 c80
            refine lv_iconst (v := 1) G.1 G.2.1 d_Mo_fixed_83 (by decide) ?_
            refine lv_goto (tgt := 88) G.1 G.2.1 d_Mo_fixed_84 (by decide) ?_
            exact J_88 s_2 x_9 1 H locs h hP hD hS ls (lv_sub hl [] rfl)
        · skip
          have h := h.2 c56
          refine lv_iconst (v := (-1)) G.1 G.2.1 d_Mo_fixed_59 (by decide) ?_
          refine W.eq (g2 := F0 m 60 ls [.int (-1)]) rfl ?_
          refine lv_goto (tgt := 91) G.1 G.2.1 d_Mo_fixed_60 (by decide) ?_
          exact J_91 s_2 (-1) H locs h hP hD hS ls (lv_sub hl [] rfl)
      · skip
        have h := h.2 c25
        exact J_28 s_2 H locs h hP hD hS ls (lv_sub hl [] rfl)
def y_Mo_isRefField : MethodName := ⟨"ClassWorksModel", "isRefField", "(II)Z"⟩
abbrev b_Mo_isRefField : ByteArray := prog_14_method_154_code
theorem d_Mo_isRefField_0 : decode b_Mo_isRefField 0 = .ok (.iload_n 1, 1) := by decide +kernel
theorem d_Mo_isRefField_1 : decode b_Mo_isRefField 1 = .ok (.istore_n 3, 1) := by decide +kernel
theorem d_Mo_isRefField_2 : decode b_Mo_isRefField 2 = .ok (.aload_n 0, 1) := by decide +kernel
theorem d_Mo_isRefField_3 : decode b_Mo_isRefField 3 = .ok (.iload_n 3, 1) := by decide +kernel
theorem d_Mo_isRefField_4 : decode b_Mo_isRefField 4 = .ok (.invokevirtual 725, 3) := by decide +kernel
theorem d_Mo_isRefField_7 : decode b_Mo_isRefField 7 = .ok (.istore 4, 2) := by decide +kernel
theorem d_Mo_isRefField_9 : decode b_Mo_isRefField 9 = .ok (.iload 4, 2) := by decide +kernel
theorem d_Mo_isRefField_11 : decode b_Mo_isRefField 11 = .ok (.ifCond .lt 26, 3) := by decide +kernel
theorem d_Mo_isRefField_14 : decode b_Mo_isRefField 14 = .ok (.iload_n 2, 1) := by decide +kernel
theorem d_Mo_isRefField_15 : decode b_Mo_isRefField 15 = .ok (.aload_n 0, 1) := by decide +kernel
theorem d_Mo_isRefField_16 : decode b_Mo_isRefField 16 = .ok (.iload 4, 2) := by decide +kernel
theorem d_Mo_isRefField_18 : decode b_Mo_isRefField 18 = .ok (.invokevirtual 899, 3) := by decide +kernel
theorem d_Mo_isRefField_21 : decode b_Mo_isRefField 21 = .ok (.if_icmp .ge 16, 3) := by decide +kernel
theorem d_Mo_isRefField_24 : decode b_Mo_isRefField 24 = .ok (.iload 4, 2) := by decide +kernel
theorem d_Mo_isRefField_26 : decode b_Mo_isRefField 26 = .ok (.istore_n 3, 1) := by decide +kernel
theorem d_Mo_isRefField_27 : decode b_Mo_isRefField 27 = .ok (.aload_n 0, 1) := by decide +kernel
theorem d_Mo_isRefField_28 : decode b_Mo_isRefField 28 = .ok (.iload_n 3, 1) := by decide +kernel
theorem d_Mo_isRefField_29 : decode b_Mo_isRefField 29 = .ok (.invokevirtual 725, 3) := by decide +kernel
theorem d_Mo_isRefField_32 : decode b_Mo_isRefField 32 = .ok (.istore 4, 2) := by decide +kernel
theorem d_Mo_isRefField_34 : decode b_Mo_isRefField 34 = .ok (.goto (-25), 3) := by decide +kernel
theorem d_Mo_isRefField_37 : decode b_Mo_isRefField 37 = .ok (.iload_n 2, 1) := by decide +kernel
theorem d_Mo_isRefField_38 : decode b_Mo_isRefField 38 = .ok (.iload 4, 2) := by decide +kernel
theorem d_Mo_isRefField_40 : decode b_Mo_isRefField 40 = .ok (.ifCond .lt 12, 3) := by decide +kernel
theorem d_Mo_isRefField_43 : decode b_Mo_isRefField 43 = .ok (.aload_n 0, 1) := by decide +kernel
theorem d_Mo_isRefField_44 : decode b_Mo_isRefField 44 = .ok (.iload 4, 2) := by decide +kernel
theorem d_Mo_isRefField_46 : decode b_Mo_isRefField 46 = .ok (.invokevirtual 899, 3) := by decide +kernel
theorem d_Mo_isRefField_49 : decode b_Mo_isRefField 49 = .ok (.goto 4, 3) := by decide +kernel
theorem d_Mo_isRefField_52 : decode b_Mo_isRefField 52 = .ok (.iconst 0, 1) := by decide +kernel
theorem d_Mo_isRefField_53 : decode b_Mo_isRefField 53 = .ok (.isub, 1) := by decide +kernel
theorem d_Mo_isRefField_54 : decode b_Mo_isRefField 54 = .ok (.istore 5, 2) := by decide +kernel
theorem d_Mo_isRefField_56 : decode b_Mo_isRefField 56 = .ok (.bipush 8, 2) := by decide +kernel
theorem d_Mo_isRefField_58 : decode b_Mo_isRefField 58 = .ok (.iload_n 3, 1) := by decide +kernel
theorem d_Mo_isRefField_59 : decode b_Mo_isRefField 59 = .ok (.imul, 1) := by decide +kernel
theorem d_Mo_isRefField_60 : decode b_Mo_isRefField 60 = .ok (.istore 6, 2) := by decide +kernel
theorem d_Mo_isRefField_62 : decode b_Mo_isRefField 62 = .ok (.iload 6, 2) := by decide +kernel
theorem d_Mo_isRefField_64 : decode b_Mo_isRefField 64 = .ok (.bipush 8, 2) := by decide +kernel
theorem d_Mo_isRefField_66 : decode b_Mo_isRefField 66 = .ok (.iload_n 3, 1) := by decide +kernel
theorem d_Mo_isRefField_67 : decode b_Mo_isRefField 67 = .ok (.imul, 1) := by decide +kernel
theorem d_Mo_isRefField_68 : decode b_Mo_isRefField 68 = .ok (.aload_n 0, 1) := by decide +kernel
theorem d_Mo_isRefField_69 : decode b_Mo_isRefField 69 = .ok (.getfield 522, 3) := by decide +kernel
theorem d_Mo_isRefField_72 : decode b_Mo_isRefField 72 = .ok (.getfield 435, 3) := by decide +kernel
theorem d_Mo_isRefField_75 : decode b_Mo_isRefField 75 = .ok (.iload_n 3, 1) := by decide +kernel
theorem d_Mo_isRefField_76 : decode b_Mo_isRefField 76 = .ok (.iaload, 1) := by decide +kernel
theorem d_Mo_isRefField_77 : decode b_Mo_isRefField 77 = .ok (.iadd, 1) := by decide +kernel
theorem d_Mo_isRefField_78 : decode b_Mo_isRefField 78 = .ok (.if_icmp .ge 52, 3) := by decide +kernel
theorem d_Mo_isRefField_81 : decode b_Mo_isRefField 81 = .ok (.aload_n 0, 1) := by decide +kernel
theorem d_Mo_isRefField_82 : decode b_Mo_isRefField 82 = .ok (.getfield 522, 3) := by decide +kernel
theorem d_Mo_isRefField_85 : decode b_Mo_isRefField 85 = .ok (.getfield 627, 3) := by decide +kernel
theorem d_Mo_isRefField_88 : decode b_Mo_isRefField 88 = .ok (.iload 6, 2) := by decide +kernel
theorem d_Mo_isRefField_90 : decode b_Mo_isRefField 90 = .ok (.iaload, 1) := by decide +kernel
theorem d_Mo_isRefField_91 : decode b_Mo_isRefField 91 = .ok (.iconst 1, 1) := by decide +kernel
theorem d_Mo_isRefField_92 : decode b_Mo_isRefField 92 = .ok (.iand, 1) := by decide +kernel
theorem d_Mo_isRefField_93 : decode b_Mo_isRefField 93 = .ok (.ifCond .ne 31, 3) := by decide +kernel
theorem d_Mo_isRefField_96 : decode b_Mo_isRefField 96 = .ok (.iload 5, 2) := by decide +kernel
theorem d_Mo_isRefField_98 : decode b_Mo_isRefField 98 = .ok (.ifCond .ne 23, 3) := by decide +kernel
theorem d_Mo_isRefField_101 : decode b_Mo_isRefField 101 = .ok (.aload_n 0, 1) := by decide +kernel
theorem d_Mo_isRefField_102 : decode b_Mo_isRefField 102 = .ok (.getfield 522, 3) := by decide +kernel
theorem d_Mo_isRefField_105 : decode b_Mo_isRefField 105 = .ok (.getfield 624, 3) := by decide +kernel
theorem d_Mo_isRefField_108 : decode b_Mo_isRefField 108 = .ok (.iload 6, 2) := by decide +kernel
theorem d_Mo_isRefField_110 : decode b_Mo_isRefField 110 = .ok (.iaload, 1) := by decide +kernel
theorem d_Mo_isRefField_111 : decode b_Mo_isRefField 111 = .ok (.iconst 1, 1) := by decide +kernel
theorem d_Mo_isRefField_112 : decode b_Mo_isRefField 112 = .ok (.if_icmp .eq 7, 3) := by decide +kernel
theorem d_Mo_isRefField_115 : decode b_Mo_isRefField 115 = .ok (.iconst 1, 1) := by decide +kernel
theorem d_Mo_isRefField_116 : decode b_Mo_isRefField 116 = .ok (.goto 4, 3) := by decide +kernel
theorem d_Mo_isRefField_119 : decode b_Mo_isRefField 119 = .ok (.iconst 0, 1) := by decide +kernel
theorem d_Mo_isRefField_120 : decode b_Mo_isRefField 120 = .ok (.ireturn, 1) := by decide +kernel
theorem d_Mo_isRefField_121 : decode b_Mo_isRefField 121 = .ok (.iinc 5 (-1), 3) := by decide +kernel
theorem d_Mo_isRefField_124 : decode b_Mo_isRefField 124 = .ok (.iinc 6 1, 3) := by decide +kernel
theorem d_Mo_isRefField_127 : decode b_Mo_isRefField 127 = .ok (.goto (-65), 3) := by decide +kernel
theorem d_Mo_isRefField_130 : decode b_Mo_isRefField 130 = .ok (.iconst 0, 1) := by decide +kernel
theorem d_Mo_isRefField_131 : decode b_Mo_isRefField 131 = .ok (.ireturn, 1) := by decide +kernel
abbrev ru_Mo_isRefField : Room := { frames := 3, cells := 0, slots := 0, locals := 66 }
def wj_Mo_isRefField_124 (y : Ly) (Post : St → Int32 → Prop) (K_62 : St → Int32 → Int32 → Int32 → Prop) (a0 : Nat) (s_j124 : St) (x3j124 : Int32) (x5j124 : Int32) (x6j124 : Int32) : Prop := K_62 s_j124 x3j124 x5j124 (x6j124 + 1)
def wj_Mo_isRefField_120 (y : Ly) (Post : St → Int32 → Prop) (a0 : Nat) (s_j120 : St) (z0j120 : Int32) : Prop := (nb z0j120 ∧ Post s_j120 z0j120)
def wb_Mo_isRefField_62 (y : Ly) (Post : St → Int32 → Prop) (K_62 : St → Int32 → Int32 → Int32 → Prop) (a0 : Nat) (s_h62 : St) (x3h62 : Int32) (x5h62 : Int32) (x6h62 : Int32) : Prop := ∃ b_3 : Nat, sO s_h62 a0 45 = some b_3 ∧ cl b_3 = 13 ∧ xA y s_h62 b_3 8 x3h62 (fun x_6 : Int32 => ((((8 * x3h62) + x_6) ≤ x6h62 → (nb 0 ∧ Post s_h62 0)) ∧ (¬ (((8 * x3h62) + x_6) ≤ x6h62) → ∃ b_7 : Nat, sO s_h62 a0 45 = some b_7 ∧ cl b_7 = 13 ∧ xA y s_h62 b_7 14 x6h62 (fun x_10 : Int32 => ((¬ (x_10 &&& 1) = 0 → wj_Mo_isRefField_124 y Post K_62 a0 s_h62 x3h62 x5h62 x6h62) ∧ ((x_10 &&& 1) = 0 → ((¬ x5h62 = 0 → wj_Mo_isRefField_124 y Post K_62 a0 s_h62 x3h62 (x5h62 + (-1)) x6h62) ∧ (x5h62 = 0 → ∃ b_11 : Nat, sO s_h62 a0 45 = some b_11 ∧ cl b_11 = 13 ∧ xA y s_h62 b_11 13 x6h62 (fun x_14 : Int32 => ((x_14 = 1 → wj_Mo_isRefField_120 y Post a0 s_h62 0) ∧ (¬ (x_14 = 1) → wj_Mo_isRefField_120 y Post a0 s_h62 1)))))))))))
def wl_Mo_isRefField_62 (y : Ly) (Post : St → Int32 → Prop) (a0 : Nat) (s_h62 : St) (x3h62 : Int32) (x5h62 : Int32) (x6h62 : Int32) : Prop := ∃ (I : St → Int32 → Int32 → Int32 → Prop) (μ : St → Int32 → Int32 → Int32 → Nat), I s_h62 x3h62 x5h62 x6h62 ∧ ∀ (u : St) (t0 : Int32) (t1 : Int32) (t2 : Int32), I u t0 t1 t2 → wb_Mo_isRefField_62 y Post (fun z t0q t1q t2q => I z t0q t1q t2q ∧ μ z t0q t1q t2q < μ u t0 t1 t2) a0 u t0 t1 t2
def wj_Mo_isRefField_53 (y : Ly) (Post : St → Int32 → Prop) (a0 : Nat) (s_j53 : St) (x3j53 : Int32) (z0j53 : Int32) (z1j53 : Int32) : Prop := wl_Mo_isRefField_62 y Post a0 s_j53 x3j53 (z0j53 - z1j53) (8 * x3j53)
def wj_Mo_isRefField_37 (y : Ly) (Post : St → Int32 → Prop) (a0 : Nat) (s_j37 : St) (x2j37 : Int32) (x3j37 : Int32) (x4j37 : Int32) : Prop := ((x4j37 < 0 → wj_Mo_isRefField_53 y Post a0 s_j37 x3j37 x2j37 0) ∧ (¬ (x4j37 < 0) → wu_Mo_fieldsOf y (fun (s_16 : St) (r_15 : Int32) => wj_Mo_isRefField_53 y Post a0 s_16 x3j37 x2j37 r_15) s_j37 a0 x4j37))
def wb_Mo_isRefField_9 (y : Ly) (Post : St → Int32 → Prop) (K_9 : St → Int32 → Int32 → Int32 → Prop) (a0 : Nat) (s_h9 : St) (x2h9 : Int32) (x3h9 : Int32) (x4h9 : Int32) : Prop := ((x4h9 < 0 → wj_Mo_isRefField_37 y Post a0 s_h9 x2h9 x3h9 x4h9) ∧ (¬ (x4h9 < 0) → wu_Mo_fieldsOf y (fun (s_18 : St) (r_17 : Int32) => ((r_17 ≤ x2h9 → wj_Mo_isRefField_37 y Post a0 s_18 x2h9 x3h9 x4h9) ∧ (¬ (r_17 ≤ x2h9) → wu_Mo_parentOf y (fun (s_20 : St) (r_19 : Int32) => K_9 s_20 x2h9 x4h9 r_19) s_18 a0 x4h9))) s_h9 a0 x4h9))
def wl_Mo_isRefField_9 (y : Ly) (Post : St → Int32 → Prop) (a0 : Nat) (s_h9 : St) (x2h9 : Int32) (x3h9 : Int32) (x4h9 : Int32) : Prop := ∃ (I : St → Int32 → Int32 → Int32 → Prop) (μ : St → Int32 → Int32 → Int32 → Nat), I s_h9 x2h9 x3h9 x4h9 ∧ ∀ (u : St) (t0 : Int32) (t1 : Int32) (t2 : Int32), I u t0 t1 t2 → wb_Mo_isRefField_9 y Post (fun z t0q t1q t2q => I z t0q t1q t2q ∧ μ z t0q t1q t2q < μ u t0 t1 t2) a0 u t0 t1 t2
def wu_Mo_isRefField (y : Ly) (Post : St → Int32 → Prop) (σ : St) (a0 : Nat) (v1 : Int32) (v2 : Int32) : Prop := wu_Mo_parentOf y (fun (s_2 : St) (r_1 : Int32) => wl_Mo_isRefField_9 y Post a0 s_2 v2 v1 r_1) σ a0 v1
set_option maxHeartbeats 4000000 in
set_option maxRecDepth 100000 in
theorem cu_Mo_isRefField (l : Launch) (D : va_G) (g : Nat → ClassId) (ad : Nat → Nat) (y : Ly) (Post : St → Int32 → Prop) (σ : St) (a0 : Nat) (v1 : Int32) (v2 : Int32) (sz : Nat) (h_a0 : cl a0 = 14) (h : wu_Mo_isRefField y Post σ a0 v1 v2) : Met l y_Mo_isRefField (mw y_Mo_isRefField b_Mo_isRefField 7 (some (.boolean))) ru_Mo_isRefField (PC g D [] [.ref (ad a0), .int v1, .int v2] sz (ws g ad y σ)) (va_Qi (fun (r : Int32) (u : St) => Post u r) (QW D (va_A (ws g ad y σ) sz) (fun u => ws g ad y u)) (va_A (ws g ad y σ) sz)) 0 0 (va_A (ws g ad y σ) sz) := by
  refine ofZ (by decide +kernel) (Nat.le_of_ble_eq_true rfl) ?_
  intro p e s m args below meth c A Q ls H locs G hsz hP hD hS hl hret
  subst hsz
  have hl : lv_has ls 7 [(0, .ref (ad a0)), (1, .int v1), (2, .int v2)] := hl
  unfold wu_Mo_isRefField at h
  refine lv_iload_n G.1 G.2.1 d_Mo_isRefField_0 rfl (lv_at hl 1 rfl) ?_
  refine lv_istore_n (lv' := [(3, .int v1), (0, .ref (ad a0)), (1, .int v1), (2, .int v2)]) G.1 G.2.1 d_Mo_isRefField_1 rfl hl (by decide) rfl (fun ls hl => ?_)
  refine lv_aload_n G.1 G.2.1 d_Mo_isRefField_2 rfl (lv_at hl 1 rfl) ?_
  refine lv_iload_n G.1 G.2.1 d_Mo_isRefField_3 rfl (lv_at hl 0 rfl) ?_
  refine ucVi (As := [.int v1]) (rest := []) G hP hD hS (cu_Mo_parentOf l D g ad y _ σ a0 v1 H.size h_a0 h) w9_Mo_parentOf q3689 ⟨Nat.le_of_ble_eq_true rfl, Nat.le_of_ble_eq_true rfl⟩ rfl rfl h_a0 (q := (RMo, TMo, 131)) rfl rfl hl.1 rfl (Nat.le_of_ble_eq_true rfl) rfl ⟨Nat.le_refl _, Nat.le_refl _⟩ d_Mo_isRefField_4 (fun r_1 s_2 H locs h hP hD hS => ?_)
  refine lv_istore (lv' := [(4, .int r_1), (3, .int v1), (0, .ref (ad a0)), (1, .int v1), (2, .int v2)]) G.1 G.2.1 d_Mo_isRefField_7 hl (by decide) rfl (fun ls hl => ?_)
  unfold wl_Mo_isRefField_9 at h
  obtain ⟨I_9, μ_9, hI_9, hB_9⟩ := h
  have L_9 : ∀ (n_9 : Nat) (s_h9 : St) (x2h9 : Int32) (x3h9 : Int32) (x4h9 : Int32), μ_9 s_h9 x2h9 x3h9 x4h9 < n_9 → I_9 s_h9 x2h9 x3h9 x4h9 → ∀ (H : Heap) (locs : List Loc), va_P D CL (ws g ad y s_h9) H → va_D A (ws g ad y s_h9) → va_S A s.heap H locs → ∀ ls, lv_has ls 7 [(0, .ref (ad a0)), (2, .int x2h9), (3, .int x3h9), (4, .int x4h9)] → W p l e ru_Mo_isRefField s m args below meth c H locs 0 0 Q (F0 m 9 ls []) := by
    intro n_9
    induction n_9 with
    | zero => intro s_h9 x2h9 x3h9 x4h9 hμ; exact absurd hμ (Nat.not_lt_zero _)
    | succ n_9 ih_9 =>
      intro s_h9 x2h9 x3h9 x4h9 hμ_9 hJ H locs hP hD hS ls hl
      obtain ⟨K_9, hK_9, h⟩ : ∃ K : St → Int32 → Int32 → Int32 → Prop, (∀ z (t0 : Int32) (t1 : Int32) (t2 : Int32), K z t0 t1 t2 → I_9 z t0 t1 t2 ∧ μ_9 z t0 t1 t2 < μ_9 s_h9 x2h9 x3h9 x4h9) ∧ wb_Mo_isRefField_9 y Post K a0 s_h9 x2h9 x3h9 x4h9 := ⟨_, fun _ _ _ _ h => h, hB_9 s_h9 x2h9 x3h9 x4h9 hJ⟩
      unfold wb_Mo_isRefField_9 at h
      refine lv_iload G.1 G.2.1 d_Mo_isRefField_9 (lv_at hl 3 rfl) ?_
      have J_37 : ∀ (s_j37 : St) (x2j37 : Int32) (x3j37 : Int32) (x4j37 : Int32) (H : Heap) (locs : List Loc), wj_Mo_isRefField_37 y Post a0 s_j37 x2j37 x3j37 x4j37 → va_P D CL (ws g ad y s_j37) H → va_D A (ws g ad y s_j37) → va_S A s.heap H locs → ∀ ls, lv_has ls 7 [(0, .ref (ad a0)), (2, .int x2j37), (3, .int x3j37), (4, .int x4j37)] → W p l e ru_Mo_isRefField s m args below meth c H locs 0 0 Q (F0 m 37 ls []) := by
        intro s_j37 x2j37 x3j37 x4j37 H locs h hP hD hS ls hl
        unfold wj_Mo_isRefField_37 at h
        refine lv_iload_n G.1 G.2.1 d_Mo_isRefField_37 rfl (lv_at hl 1 rfl) ?_
        refine lv_iload G.1 G.2.1 d_Mo_isRefField_38 (lv_at hl 3 rfl) ?_
        have J_53 : ∀ (s_j53 : St) (x3j53 : Int32) (z0j53 : Int32) (z1j53 : Int32) (H : Heap) (locs : List Loc), wj_Mo_isRefField_53 y Post a0 s_j53 x3j53 z0j53 z1j53 → va_P D CL (ws g ad y s_j53) H → va_D A (ws g ad y s_j53) → va_S A s.heap H locs → ∀ ls, lv_has ls 7 [(0, .ref (ad a0)), (3, .int x3j53)] → W p l e ru_Mo_isRefField s m args below meth c H locs 0 0 Q (F0 m 53 ls [.int z1j53, .int z0j53]) := by
          intro s_j53 x3j53 z0j53 z1j53 H locs h hP hD hS ls hl
          unfold wj_Mo_isRefField_53 at h
          refine lv_isub G.1 G.2.1 d_Mo_isRefField_53 ?_
          refine lv_istore (lv' := [(5, .int (z0j53 - z1j53)), (0, .ref (ad a0)), (3, .int x3j53)]) G.1 G.2.1 d_Mo_isRefField_54 hl (by decide) rfl (fun ls hl => ?_)
          refine lv_bipush (v := 8) G.1 G.2.1 d_Mo_isRefField_56 (by decide) ?_
          refine lv_iload_n G.1 G.2.1 d_Mo_isRefField_58 rfl (lv_at hl 2 rfl) ?_
          refine lv_imul G.1 G.2.1 d_Mo_isRefField_59 ?_
          refine lv_istore (lv' := [(6, .int (8 * x3j53)), (5, .int (z0j53 - z1j53)), (0, .ref (ad a0)), (3, .int x3j53)]) G.1 G.2.1 d_Mo_isRefField_60 hl (by decide) rfl (fun ls hl => ?_)
          unfold wl_Mo_isRefField_62 at h
          obtain ⟨I_62, μ_62, hI_62, hB_62⟩ := h
          have L_62 : ∀ (n_62 : Nat) (s_h62 : St) (x3h62 : Int32) (x5h62 : Int32) (x6h62 : Int32), μ_62 s_h62 x3h62 x5h62 x6h62 < n_62 → I_62 s_h62 x3h62 x5h62 x6h62 → ∀ (H : Heap) (locs : List Loc), va_P D CL (ws g ad y s_h62) H → va_D A (ws g ad y s_h62) → va_S A s.heap H locs → ∀ ls, lv_has ls 7 [(0, .ref (ad a0)), (3, .int x3h62), (5, .int x5h62), (6, .int x6h62)] → W p l e ru_Mo_isRefField s m args below meth c H locs 0 0 Q (F0 m 62 ls []) := by
            intro n_62
            induction n_62 with
            | zero => intro s_h62 x3h62 x5h62 x6h62 hμ; exact absurd hμ (Nat.not_lt_zero _)
            | succ n_62 ih_62 =>
              intro s_h62 x3h62 x5h62 x6h62 hμ_62 hJ H locs hP hD hS ls hl
              obtain ⟨K_62, hK_62, h⟩ : ∃ K : St → Int32 → Int32 → Int32 → Prop, (∀ z (t0 : Int32) (t1 : Int32) (t2 : Int32), K z t0 t1 t2 → I_62 z t0 t1 t2 ∧ μ_62 z t0 t1 t2 < μ_62 s_h62 x3h62 x5h62 x6h62) ∧ wb_Mo_isRefField_62 y Post K a0 s_h62 x3h62 x5h62 x6h62 := ⟨_, fun _ _ _ _ h => h, hB_62 s_h62 x3h62 x5h62 x6h62 hJ⟩
              unfold wb_Mo_isRefField_62 at h
              refine lv_iload G.1 G.2.1 d_Mo_isRefField_62 (lv_at hl 3 rfl) ?_
              refine lv_bipush (v := 8) G.1 G.2.1 d_Mo_isRefField_64 (by decide) ?_
              refine lv_iload_n G.1 G.2.1 d_Mo_isRefField_66 rfl (lv_at hl 1 rfl) ?_
              refine lv_imul G.1 G.2.1 d_Mo_isRefField_67 ?_
              refine lv_aload_n G.1 G.2.1 d_Mo_isRefField_68 rfl (lv_at hl 0 rfl) ?_
              obtain ⟨b_3, e_4, c_5, h⟩ := h
              refine ugf (v := .ref (ad b_3)) G hP h_a0 iMo rfl 45 (by decide) rfl q3109 rfl (by show va_rf ((sO s_h62 a0 45).map ad) = _; rw [e_4]; rfl) d_Mo_isRefField_69 ?_
              refine ugfN (v := .ref (yP y b_3 8)) G hP c_5 iMw rfl 8 (by decide) rfl q2720 rfl rfl d_Mo_isRefField_72 ?_
              refine lv_iload_n G.1 G.2.1 d_Mo_isRefField_75 rfl (lv_at hl 1 rfl) ?_
              refine uiald G hP (kdp c_5 rfl) (typ c_5 rfl) h d_Mo_isRefField_76 (fun x_6 h => ?_)
              refine lv_iadd G.1 G.2.1 d_Mo_isRefField_77 ?_
              refine lv_icmp_ge (tgt := 130) G.1 G.2.1 d_Mo_isRefField_78 (by decide) (fun c78 => ?_) (fun c78 => ?_)
              · skip
                have h := h.1 c78
                refine W.eq (g2 := F0 m 130 ls []) rfl ?_
                refine lv_iconst (v := 0) G.1 G.2.1 d_Mo_isRefField_130 (by decide) ?_
                exact hret _ _ _ _ _ _ _ ls (nb_n h.1) h.2 hP hD hS (Nat.le_refl _) (Nat.le_refl _) d_Mo_isRefField_131
              · skip
                have h := h.2 c78
                refine W.eq (g2 := F0 m 81 ls []) rfl ?_
                refine lv_aload_n G.1 G.2.1 d_Mo_isRefField_81 rfl (lv_at hl 0 rfl) ?_
                obtain ⟨b_7, e_8, c_9, h⟩ := h
                refine ugf (v := .ref (ad b_7)) G hP h_a0 iMo rfl 45 (by decide) rfl q3109 rfl (by show va_rf ((sO s_h62 a0 45).map ad) = _; rw [e_8]; rfl) d_Mo_isRefField_82 ?_
                refine ugfN (v := .ref (yP y b_7 14)) G hP c_9 iMw rfl 14 (by decide) rfl q2732 rfl rfl d_Mo_isRefField_85 ?_
                refine lv_iload G.1 G.2.1 d_Mo_isRefField_88 (lv_at hl 3 rfl) ?_
                refine uiald G hP (kdp c_9 rfl) (typ c_9 rfl) h d_Mo_isRefField_90 (fun x_10 h => ?_)
                refine lv_iconst (v := 1) G.1 G.2.1 d_Mo_isRefField_91 (by decide) ?_
                refine lv_iand G.1 G.2.1 d_Mo_isRefField_92 ?_
                have J_124 : ∀ (s_j124 : St) (x3j124 : Int32) (x5j124 : Int32) (x6j124 : Int32) (H : Heap) (locs : List Loc), wj_Mo_isRefField_124 y Post K_62 a0 s_j124 x3j124 x5j124 x6j124 → va_P D CL (ws g ad y s_j124) H → va_D A (ws g ad y s_j124) → va_S A s.heap H locs → ∀ ls, lv_has ls 7 [(0, .ref (ad a0)), (3, .int x3j124), (5, .int x5j124), (6, .int x6j124)] → W p l e ru_Mo_isRefField s m args below meth c H locs 0 0 Q (F0 m 124 ls []) := by
                  intro s_j124 x3j124 x5j124 x6j124 H locs h hP hD hS ls hl
                  unfold wj_Mo_isRefField_124 at h
                  refine lv_iinc (v := x6j124 + 1) (lv' := [(6, .int (x6j124 + 1)), (0, .ref (ad a0)), (3, .int x3j124), (5, .int x5j124)]) G.1 G.2.1 d_Mo_isRefField_124 hl (k := 3) rfl rfl (by decide) rfl (fun ls hl => ?_)
                  refine lv_goto (tgt := 62) G.1 G.2.1 d_Mo_isRefField_127 (by decide) ?_
                  have h := hK_62 s_j124 x3j124 x5j124 (x6j124 + 1) h
                  exact ih_62 s_j124 x3j124 x5j124 (x6j124 + 1) (Nat.lt_of_lt_of_le h.2 (Nat.le_of_lt_succ hμ_62)) h.1 H locs hP hD hS ls (lv_sub hl [1, 2, 3, 0] rfl)
                refine lv_if_ne (tgt := 124) G.1 G.2.1 d_Mo_isRefField_93 (by decide) (fun c93 => ?_) (fun c93 => ?_)
                · skip
                  have h := h.1 c93
                  exact J_124 s_h62 x3h62 x5h62 x6h62 H locs h hP hD hS ls (lv_sub hl [0, 1, 2, 3] rfl)
                · skip
                  have h := h.2 c93
                  refine lv_iload G.1 G.2.1 d_Mo_isRefField_96 (lv_at hl 2 rfl) ?_
                  refine lv_if_ne (tgt := 121) G.1 G.2.1 d_Mo_isRefField_98 (by decide) (fun c98 => ?_) (fun c98 => ?_)
                  · skip
                    have h := h.1 c98
                    refine lv_iinc (v := x5h62 + (-1)) (lv' := [(5, .int (x5h62 + (-1))), (0, .ref (ad a0)), (3, .int x3h62), (6, .int x6h62)]) G.1 G.2.1 d_Mo_isRefField_121 hl (k := 2) rfl rfl (by decide) rfl (fun ls hl => ?_)
                    exact J_124 s_h62 x3h62 (x5h62 + (-1)) x6h62 H locs h hP hD hS ls (lv_sub hl [1, 2, 0, 3] rfl)
                  · skip
                    have h := h.2 c98
                    refine lv_aload_n G.1 G.2.1 d_Mo_isRefField_101 rfl (lv_at hl 0 rfl) ?_
                    obtain ⟨b_11, e_12, c_13, h⟩ := h
                    refine ugf (v := .ref (ad b_11)) G hP h_a0 iMo rfl 45 (by decide) rfl q3109 rfl (by show va_rf ((sO s_h62 a0 45).map ad) = _; rw [e_12]; rfl) d_Mo_isRefField_102 ?_
                    refine W.eq (g2 := F0 m 105 ls [.ref (ad b_11)]) rfl ?_
                    refine ugfN (v := .ref (yP y b_11 13)) G hP c_13 iMw rfl 13 (by decide) rfl q2730 rfl rfl d_Mo_isRefField_105 ?_
                    refine lv_iload G.1 G.2.1 d_Mo_isRefField_108 (lv_at hl 3 rfl) ?_
                    refine uiald G hP (kdp c_13 rfl) (typ c_13 rfl) h d_Mo_isRefField_110 (fun x_14 h => ?_)
                    refine lv_iconst (v := 1) G.1 G.2.1 d_Mo_isRefField_111 (by decide) ?_
                    have J_120 : ∀ (s_j120 : St) (z0j120 : Int32) (H : Heap) (locs : List Loc), wj_Mo_isRefField_120 y Post a0 s_j120 z0j120 → va_P D CL (ws g ad y s_j120) H → va_D A (ws g ad y s_j120) → va_S A s.heap H locs → ∀ ls, lv_has ls 7 [] → W p l e ru_Mo_isRefField s m args below meth c H locs 0 0 Q (F0 m 120 ls [.int z0j120]) := by
                      intro s_j120 z0j120 H locs h hP hD hS ls hl
                      unfold wj_Mo_isRefField_120 at h
                      exact hret _ _ _ _ _ _ _ ls (nb_n h.1) h.2 hP hD hS (Nat.le_refl _) (Nat.le_refl _) d_Mo_isRefField_120
                    refine lv_icmp_eq (tgt := 119) G.1 G.2.1 d_Mo_isRefField_112 (by decide) (fun c112 => ?_) (fun c112 => ?_)
                    · skip
                      have h := h.1 c112
                      refine lv_iconst (v := 0) G.1 G.2.1 d_Mo_isRefField_119 (by decide) ?_
                      exact J_120 s_h62 0 H locs h hP hD hS ls (lv_sub hl [] rfl)
                    · skip
                      have h := h.2 c112
                      refine lv_iconst (v := 1) G.1 G.2.1 d_Mo_isRefField_115 (by decide) ?_
                      refine lv_goto (tgt := 120) G.1 G.2.1 d_Mo_isRefField_116 (by decide) ?_
                      exact J_120 s_h62 1 H locs h hP hD hS ls (lv_sub hl [] rfl)
          exact L_62 _ s_j53 x3j53 (z0j53 - z1j53) (8 * x3j53) (Nat.lt_succ_self _) hI_62 H locs hP hD hS ls (lv_sub hl [2, 3, 1, 0] rfl)
        refine lv_if_lt (tgt := 52) G.1 G.2.1 d_Mo_isRefField_40 (by decide) (fun c40 => ?_) (fun c40 => ?_)
        · skip
          have h := h.1 c40
          refine lv_iconst (v := 0) G.1 G.2.1 d_Mo_isRefField_52 (by decide) ?_
          exact J_53 s_j37 x3j37 x2j37 0 H locs h hP hD hS ls (lv_sub hl [0, 2] rfl)
        · skip
          have h := h.2 c40
          refine lv_aload_n G.1 G.2.1 d_Mo_isRefField_43 rfl (lv_at hl 0 rfl) ?_
          refine lv_iload G.1 G.2.1 d_Mo_isRefField_44 (lv_at hl 3 rfl) ?_
          refine ucVi (As := [.int x4j37]) (rest := [.int x2j37]) G hP hD hS (cu_Mo_fieldsOf l D g ad y _ s_j37 a0 x4j37 H.size h_a0 h) w9_Mo_fieldsOf q3955 ⟨Nat.le_of_ble_eq_true rfl, Nat.le_of_ble_eq_true rfl⟩ rfl rfl h_a0 (q := (RMo, TMo, 131)) rfl rfl hl.1 rfl (Nat.le_of_ble_eq_true rfl) rfl ⟨Nat.le_refl _, Nat.le_refl _⟩ d_Mo_isRefField_46 (fun r_15 s_16 H locs h hP hD hS => ?_)
          refine lv_goto (tgt := 53) G.1 G.2.1 d_Mo_isRefField_49 (by decide) ?_
          exact J_53 s_16 x3j37 x2j37 r_15 H locs h hP hD hS ls (lv_sub hl [0, 2] rfl)
      refine lv_if_lt (tgt := 37) G.1 G.2.1 d_Mo_isRefField_11 (by decide) (fun c11 => ?_) (fun c11 => ?_)
      · skip
        have h := h.1 c11
        exact J_37 s_h9 x2h9 x3h9 x4h9 H locs h hP hD hS ls (lv_sub hl [0, 1, 2, 3] rfl)
      · skip
        have h := h.2 c11
        refine lv_iload_n G.1 G.2.1 d_Mo_isRefField_14 rfl (lv_at hl 1 rfl) ?_
        refine lv_aload_n G.1 G.2.1 d_Mo_isRefField_15 rfl (lv_at hl 0 rfl) ?_
        refine lv_iload G.1 G.2.1 d_Mo_isRefField_16 (lv_at hl 3 rfl) ?_
        refine ucVi (As := [.int x4h9]) (rest := [.int x2h9]) G hP hD hS (cu_Mo_fieldsOf l D g ad y _ s_h9 a0 x4h9 H.size h_a0 h) w9_Mo_fieldsOf q3955 ⟨Nat.le_of_ble_eq_true rfl, Nat.le_of_ble_eq_true rfl⟩ rfl rfl h_a0 (q := (RMo, TMo, 131)) rfl rfl hl.1 rfl (Nat.le_of_ble_eq_true rfl) rfl ⟨Nat.le_refl _, Nat.le_refl _⟩ d_Mo_isRefField_18 (fun r_17 s_18 H locs h hP hD hS => ?_)
        refine lv_icmp_ge (tgt := 37) G.1 G.2.1 d_Mo_isRefField_21 (by decide) (fun c21 => ?_) (fun c21 => ?_)
        · skip
          have h := h.1 c21
          exact J_37 s_18 x2h9 x3h9 x4h9 H locs h hP hD hS ls (lv_sub hl [0, 1, 2, 3] rfl)
        · skip
          have h := h.2 c21
          refine lv_iload G.1 G.2.1 d_Mo_isRefField_24 (lv_at hl 3 rfl) ?_
          refine lv_istore_n (lv' := [(3, .int x4h9), (0, .ref (ad a0)), (2, .int x2h9), (4, .int x4h9)]) G.1 G.2.1 d_Mo_isRefField_26 rfl hl (by decide) rfl (fun ls hl => ?_)
          refine lv_aload_n G.1 G.2.1 d_Mo_isRefField_27 rfl (lv_at hl 1 rfl) ?_
          refine lv_iload_n G.1 G.2.1 d_Mo_isRefField_28 rfl (lv_at hl 0 rfl) ?_
          refine W.eq (g2 := F0 m 29 ls [.int x4h9, .ref (ad a0)]) rfl ?_
          refine ucVi (As := [.int x4h9]) (rest := []) G hP hD hS (cu_Mo_parentOf l D g ad y _ s_18 a0 x4h9 H.size h_a0 h) w9_Mo_parentOf q3689 ⟨Nat.le_of_ble_eq_true rfl, Nat.le_of_ble_eq_true rfl⟩ rfl rfl h_a0 (q := (RMo, TMo, 131)) rfl rfl hl.1 rfl (Nat.le_of_ble_eq_true rfl) rfl ⟨Nat.le_refl _, Nat.le_refl _⟩ d_Mo_isRefField_29 (fun r_19 s_20 H locs h hP hD hS => ?_)
          refine lv_istore (lv' := [(4, .int r_19), (3, .int x4h9), (0, .ref (ad a0)), (2, .int x2h9)]) G.1 G.2.1 d_Mo_isRefField_32 hl (by decide) rfl (fun ls hl => ?_)
          refine lv_goto (tgt := 9) G.1 G.2.1 d_Mo_isRefField_34 (by decide) ?_
          have h := hK_9 s_20 x2h9 x4h9 r_19 h
          exact ih_9 s_20 x2h9 x4h9 r_19 (Nat.lt_of_lt_of_le h.2 (Nat.le_of_lt_succ hμ_9)) h.1 H locs hP hD hS ls (lv_sub hl [2, 3, 1, 0] rfl)
  exact L_9 _ s_2 v2 v1 r_1 (Nat.lt_succ_self _) hI_9 H locs hP hD hS ls (lv_sub hl [2, 4, 1, 0] rfl)
theorem q4038 : Cond.methodLink "ClassWorksModel" 1173 y_Mo_isRefField ∈ lw_ok := lw_okmem (List.mem_of_getElem? (i := 4038) (by decide +kernel)) rfl
theorem q4041 : Cond.code y_Mo_isRefField b_Mo_isRefField 7 (some (.boolean)) ∈ lw_ok := lw_okmem (List.mem_of_getElem? (i := 4041) (by decide +kernel)) rfl
theorem q4040 : Cond.instanceMethod y_Mo_isRefField ∈ lw_ok := lw_okmem (List.mem_of_getElem? (i := 4040) (by decide +kernel)) rfl
theorem q293 : Cond.selects y_Mo_isRefField.cls y_Mo_isRefField y_Mo_isRefField ∈ lw_ok := lw_okmem (List.mem_of_getElem? (i := 293) (by decide +kernel)) rfl
theorem w9_Mo_isRefField : CWv y_Mo_isRefField b_Mo_isRefField 7 (some (.boolean)) 2 ∧ Cond.instanceMethod y_Mo_isRefField ∈ lw_ok ∧ Cond.selects y_Mo_isRefField.cls y_Mo_isRefField y_Mo_isRefField ∈ lw_ok := ⟨⟨q4041, q348, by decide +kernel, by decide +kernel, by decide +kernel⟩, q4040, q293⟩
def y_Mo_object : MethodName := ⟨"ClassWorksModel", "object", "(III)I"⟩
abbrev b_Mo_object : ByteArray := prog_14_method_153_code
theorem d_Mo_object_0 : decode b_Mo_object 0 = .ok (.aload_n 0, 1) := by decide +kernel
theorem d_Mo_object_1 : decode b_Mo_object 1 = .ok (.iload_n 1, 1) := by decide +kernel
theorem d_Mo_object_2 : decode b_Mo_object 2 = .ok (.invokevirtual 1118, 3) := by decide +kernel
theorem d_Mo_object_5 : decode b_Mo_object 5 = .ok (.ifCond .eq 35, 3) := by decide +kernel
theorem d_Mo_object_8 : decode b_Mo_object 8 = .ok (.iload_n 2, 1) := by decide +kernel
theorem d_Mo_object_9 : decode b_Mo_object 9 = .ok (.iconst 1, 1) := by decide +kernel
theorem d_Mo_object_10 : decode b_Mo_object 10 = .ok (.if_icmp .lt 30, 3) := by decide +kernel
theorem d_Mo_object_13 : decode b_Mo_object 13 = .ok (.iload_n 2, 1) := by decide +kernel
theorem d_Mo_object_14 : decode b_Mo_object 14 = .ok (.sipush 800, 3) := by decide +kernel
theorem d_Mo_object_17 : decode b_Mo_object 17 = .ok (.if_icmp .gt 23, 3) := by decide +kernel
theorem d_Mo_object_20 : decode b_Mo_object 20 = .ok (.aload_n 0, 1) := by decide +kernel
theorem d_Mo_object_21 : decode b_Mo_object 21 = .ok (.getfield 263, 3) := by decide +kernel
theorem d_Mo_object_24 : decode b_Mo_object 24 = .ok (.iload_n 1, 1) := by decide +kernel
theorem d_Mo_object_25 : decode b_Mo_object 25 = .ok (.aaload, 1) := by decide +kernel
theorem d_Mo_object_26 : decode b_Mo_object 26 = .ok (.getfield 510, 3) := by decide +kernel
theorem d_Mo_object_29 : decode b_Mo_object 29 = .ok (.iload_n 2, 1) := by decide +kernel
theorem d_Mo_object_30 : decode b_Mo_object 30 = .ok (.baload, 1) := by decide +kernel
theorem d_Mo_object_31 : decode b_Mo_object 31 = .ok (.ifCond .eq 9, 3) := by decide +kernel
theorem d_Mo_object_34 : decode b_Mo_object 34 = .ok (.iload_n 3, 1) := by decide +kernel
theorem d_Mo_object_35 : decode b_Mo_object 35 = .ok (.bipush (-3), 2) := by decide +kernel
theorem d_Mo_object_37 : decode b_Mo_object 37 = .ok (.if_icmp .ge 5, 3) := by decide +kernel
theorem d_Mo_object_40 : decode b_Mo_object 40 = .ok (.iconst (-1), 1) := by decide +kernel
theorem d_Mo_object_41 : decode b_Mo_object 41 = .ok (.ireturn, 1) := by decide +kernel
theorem d_Mo_object_42 : decode b_Mo_object 42 = .ok (.aload_n 0, 1) := by decide +kernel
theorem d_Mo_object_43 : decode b_Mo_object 43 = .ok (.aload_n 0, 1) := by decide +kernel
theorem d_Mo_object_44 : decode b_Mo_object 44 = .ok (.getfield 263, 3) := by decide +kernel
theorem d_Mo_object_47 : decode b_Mo_object 47 = .ok (.iload_n 1, 1) := by decide +kernel
theorem d_Mo_object_48 : decode b_Mo_object 48 = .ok (.aaload, 1) := by decide +kernel
theorem d_Mo_object_49 : decode b_Mo_object 49 = .ok (.putfield 522, 3) := by decide +kernel
theorem d_Mo_object_52 : decode b_Mo_object 52 = .ok (.aload_n 0, 1) := by decide +kernel
theorem d_Mo_object_53 : decode b_Mo_object 53 = .ok (.getfield 522, 3) := by decide +kernel
theorem d_Mo_object_56 : decode b_Mo_object 56 = .ok (.getfield 872, 3) := by decide +kernel
theorem d_Mo_object_59 : decode b_Mo_object 59 = .ok (.iload_n 2, 1) := by decide +kernel
theorem d_Mo_object_60 : decode b_Mo_object 60 = .ok (.iaload, 1) := by decide +kernel
theorem d_Mo_object_61 : decode b_Mo_object 61 = .ok (.istore 4, 2) := by decide +kernel
theorem d_Mo_object_63 : decode b_Mo_object 63 = .ok (.iload_n 3, 1) := by decide +kernel
theorem d_Mo_object_64 : decode b_Mo_object 64 = .ok (.ifCond .ge 52, 3) := by decide +kernel
theorem d_Mo_object_67 : decode b_Mo_object 67 = .ok (.iload_n 3, 1) := by decide +kernel
theorem d_Mo_object_68 : decode b_Mo_object 68 = .ok (.iconst (-1), 1) := by decide +kernel
theorem d_Mo_object_69 : decode b_Mo_object 69 = .ok (.if_icmp .ne 19, 3) := by decide +kernel
theorem d_Mo_object_72 : decode b_Mo_object 72 = .ok (.iload 4, 2) := by decide +kernel
theorem d_Mo_object_74 : decode b_Mo_object 74 = .ok (.iconst (-1), 1) := by decide +kernel
theorem d_Mo_object_75 : decode b_Mo_object 75 = .ok (.if_icmp .ne 8, 3) := by decide +kernel
theorem d_Mo_object_78 : decode b_Mo_object 78 = .ok (.bipush (-2), 2) := by decide +kernel
theorem d_Mo_object_80 : decode b_Mo_object 80 = .ok (.goto 35, 3) := by decide +kernel
theorem d_Mo_object_83 : decode b_Mo_object 83 = .ok (.iload 4, 2) := by decide +kernel
theorem d_Mo_object_85 : decode b_Mo_object 85 = .ok (.goto 30, 3) := by decide +kernel
theorem d_Mo_object_88 : decode b_Mo_object 88 = .ok (.iload_n 3, 1) := by decide +kernel
theorem d_Mo_object_89 : decode b_Mo_object 89 = .ok (.bipush (-2), 2) := by decide +kernel
theorem d_Mo_object_91 : decode b_Mo_object 91 = .ok (.if_icmp .ne 15, 3) := by decide +kernel
theorem d_Mo_object_94 : decode b_Mo_object 94 = .ok (.aload_n 0, 1) := by decide +kernel
theorem d_Mo_object_95 : decode b_Mo_object 95 = .ok (.getfield 522, 3) := by decide +kernel
theorem d_Mo_object_98 : decode b_Mo_object 98 = .ok (.getfield 890, 3) := by decide +kernel
theorem d_Mo_object_101 : decode b_Mo_object 101 = .ok (.iload_n 2, 1) := by decide +kernel
theorem d_Mo_object_102 : decode b_Mo_object 102 = .ok (.iaload, 1) := by decide +kernel
theorem d_Mo_object_103 : decode b_Mo_object 103 = .ok (.goto 12, 3) := by decide +kernel
theorem d_Mo_object_106 : decode b_Mo_object 106 = .ok (.aload_n 0, 1) := by decide +kernel
theorem d_Mo_object_107 : decode b_Mo_object 107 = .ok (.getfield 522, 3) := by decide +kernel
theorem d_Mo_object_110 : decode b_Mo_object 110 = .ok (.getfield 887, 3) := by decide +kernel
theorem d_Mo_object_113 : decode b_Mo_object 113 = .ok (.iload_n 2, 1) := by decide +kernel
theorem d_Mo_object_114 : decode b_Mo_object 114 = .ok (.iaload, 1) := by decide +kernel
theorem d_Mo_object_115 : decode b_Mo_object 115 = .ok (.ireturn, 1) := by decide +kernel
theorem d_Mo_object_116 : decode b_Mo_object 116 = .ok (.iload_n 3, 1) := by decide +kernel
theorem d_Mo_object_117 : decode b_Mo_object 117 = .ok (.aload_n 0, 1) := by decide +kernel
theorem d_Mo_object_118 : decode b_Mo_object 118 = .ok (.getfield 522, 3) := by decide +kernel
theorem d_Mo_object_121 : decode b_Mo_object 121 = .ok (.getfield 887, 3) := by decide +kernel
theorem d_Mo_object_124 : decode b_Mo_object 124 = .ok (.iload_n 2, 1) := by decide +kernel
theorem d_Mo_object_125 : decode b_Mo_object 125 = .ok (.iaload, 1) := by decide +kernel
theorem d_Mo_object_126 : decode b_Mo_object 126 = .ok (.if_icmp .lt 5, 3) := by decide +kernel
theorem d_Mo_object_129 : decode b_Mo_object 129 = .ok (.iconst (-1), 1) := by decide +kernel
theorem d_Mo_object_130 : decode b_Mo_object 130 = .ok (.ireturn, 1) := by decide +kernel
theorem d_Mo_object_131 : decode b_Mo_object 131 = .ok (.aload_n 0, 1) := by decide +kernel
theorem d_Mo_object_132 : decode b_Mo_object 132 = .ok (.getfield 522, 3) := by decide +kernel
theorem d_Mo_object_135 : decode b_Mo_object 135 = .ok (.getfield 893, 3) := by decide +kernel
theorem d_Mo_object_138 : decode b_Mo_object 138 = .ok (.aload_n 0, 1) := by decide +kernel
theorem d_Mo_object_139 : decode b_Mo_object 139 = .ok (.getfield 522, 3) := by decide +kernel
theorem d_Mo_object_142 : decode b_Mo_object 142 = .ok (.getfield 884, 3) := by decide +kernel
theorem d_Mo_object_145 : decode b_Mo_object 145 = .ok (.iload_n 2, 1) := by decide +kernel
theorem d_Mo_object_146 : decode b_Mo_object 146 = .ok (.iaload, 1) := by decide +kernel
theorem d_Mo_object_147 : decode b_Mo_object 147 = .ok (.iload_n 3, 1) := by decide +kernel
theorem d_Mo_object_148 : decode b_Mo_object 148 = .ok (.iadd, 1) := by decide +kernel
theorem d_Mo_object_149 : decode b_Mo_object 149 = .ok (.iaload, 1) := by decide +kernel
theorem d_Mo_object_150 : decode b_Mo_object 150 = .ok (.iload 4, 2) := by decide +kernel
theorem d_Mo_object_152 : decode b_Mo_object 152 = .ok (.iconst (-1), 1) := by decide +kernel
theorem d_Mo_object_153 : decode b_Mo_object 153 = .ok (.if_icmp .eq 17, 3) := by decide +kernel
theorem d_Mo_object_156 : decode b_Mo_object 156 = .ok (.aload_n 0, 1) := by decide +kernel
theorem d_Mo_object_157 : decode b_Mo_object 157 = .ok (.iload 4, 2) := by decide +kernel
theorem d_Mo_object_159 : decode b_Mo_object 159 = .ok (.iload_n 3, 1) := by decide +kernel
theorem d_Mo_object_160 : decode b_Mo_object 160 = .ok (.invokevirtual 1173, 3) := by decide +kernel
theorem d_Mo_object_163 : decode b_Mo_object 163 = .ok (.ifCond .eq 7, 3) := by decide +kernel
theorem d_Mo_object_166 : decode b_Mo_object 166 = .ok (.iconst 1, 1) := by decide +kernel
theorem d_Mo_object_167 : decode b_Mo_object 167 = .ok (.goto 4, 3) := by decide +kernel
theorem d_Mo_object_170 : decode b_Mo_object 170 = .ok (.iconst 0, 1) := by decide +kernel
theorem d_Mo_object_171 : decode b_Mo_object 171 = .ok (.invokestatic 1170, 3) := by decide +kernel
theorem d_Mo_object_174 : decode b_Mo_object 174 = .ok (.ireturn, 1) := by decide +kernel
abbrev ru_Mo_object : Room := { frames := 4, cells := 0, slots := 0, locals := 92 }
def wj_Mo_object_40 (y : Ly) (Post : St → Int32 → Prop) (a0 : Nat) (s_j40 : St) : Prop := Post s_j40 (-1)
def wj_Mo_object_171 (y : Ly) (Post : St → Int32 → Prop) (a0 : Nat) (s_j171 : St) (z0j171 : Int32) (z1j171 : Int32) : Prop := wu_Mo_shown y (fun (s_26 : St) (r_25 : Int32) => Post s_26 r_25) s_j171 z0j171 z1j171
def wj_Mo_object_170 (y : Ly) (Post : St → Int32 → Prop) (a0 : Nat) (s_j170 : St) (z0j170 : Int32) : Prop := wj_Mo_object_171 y Post a0 s_j170 z0j170 0
def wj_Mo_object_115 (y : Ly) (Post : St → Int32 → Prop) (a0 : Nat) (s_j115 : St) (z0j115 : Int32) : Prop := Post s_j115 z0j115
def wu_Mo_object (y : Ly) (Post : St → Int32 → Prop) (σ : St) (a0 : Nat) (v1 : Int32) (v2 : Int32) (v3 : Int32) : Prop := wu_Mo_isWorld y (fun (s_2 : St) (r_1 : Int32) => ((r_1 = 0 → wj_Mo_object_40 y Post a0 s_2) ∧ (¬ (r_1 = 0) → ((v2 < 1 → wj_Mo_object_40 y Post a0 s_2) ∧ (¬ (v2 < 1) → ((800 < v2 → wj_Mo_object_40 y Post a0 s_2) ∧ (¬ (800 < v2) → xQ y a0 44 v1 (fun b_3 : Nat => xA y s_2 b_3 49 v2 (fun x_5 : Int32 => ((x_5 = 0 → wj_Mo_object_40 y Post a0 s_2) ∧ (¬ (x_5 = 0) → (((-3) ≤ v3 → xQ y a0 44 v1 (fun b_6 : Nat => xP (uO s_2 a0 45 (some b_6)) (fun s_8 : St => ∃ b_9 : Nat, sO s_8 a0 45 = some b_9 ∧ cl b_9 = 13 ∧ xA y s_8 b_9 45 v2 (fun x_12 : Int32 => ((0 ≤ v3 → ∃ b_13 : Nat, sO s_8 a0 45 = some b_13 ∧ cl b_13 = 13 ∧ xA y s_8 b_13 47 v2 (fun x_16 : Int32 => ((v3 < x_16 → ∃ b_17 : Nat, sO s_8 a0 45 = some b_17 ∧ cl b_17 = 13 ∧ ∃ b_20 : Nat, sO s_8 a0 45 = some b_20 ∧ cl b_20 = 13 ∧ xA y s_8 b_20 46 v2 (fun x_23 : Int32 => xA y s_8 b_17 51 (x_23 + v3) (fun x_24 : Int32 => ((x_12 = (-1) → wj_Mo_object_170 y Post a0 s_8 x_24) ∧ (¬ (x_12 = (-1)) → wu_Mo_isRefField y (fun (s_28 : St) (r_27 : Int32) => ((r_27 = 0 → wj_Mo_object_170 y Post a0 s_28 x_24) ∧ (¬ (r_27 = 0) → wj_Mo_object_171 y Post a0 s_28 x_24 1))) s_8 a0 x_12 v3))))) ∧ (¬ (v3 < x_16) → Post s_8 (-1))))) ∧ (¬ (0 ≤ v3) → ((¬ v3 = (-1) → ((¬ v3 = (-2) → ∃ b_29 : Nat, sO s_8 a0 45 = some b_29 ∧ cl b_29 = 13 ∧ xA y s_8 b_29 47 v2 (fun x_32 : Int32 => wj_Mo_object_115 y Post a0 s_8 x_32)) ∧ (v3 = (-2) → ∃ b_33 : Nat, sO s_8 a0 45 = some b_33 ∧ cl b_33 = 13 ∧ xA y s_8 b_33 48 v2 (fun x_36 : Int32 => wj_Mo_object_115 y Post a0 s_8 x_36)))) ∧ (v3 = (-1) → ((¬ x_12 = (-1) → wj_Mo_object_115 y Post a0 s_8 x_12) ∧ (x_12 = (-1) → wj_Mo_object_115 y Post a0 s_8 (-2))))))))))) ∧ (¬ ((-3) ≤ v3) → wj_Mo_object_40 y Post a0 s_2))))))))))))) σ a0 v1
set_option maxHeartbeats 4000000 in
set_option maxRecDepth 100000 in
theorem cu_Mo_object (l : Launch) (D : va_G) (g : Nat → ClassId) (ad : Nat → Nat) (y : Ly) (Post : St → Int32 → Prop) (σ : St) (a0 : Nat) (v1 : Int32) (v2 : Int32) (v3 : Int32) (sz : Nat) (h_a0 : cl a0 = 14) (h : wu_Mo_object y Post σ a0 v1 v2 v3) : Met l y_Mo_object (mw y_Mo_object b_Mo_object 5 (some .int)) ru_Mo_object (PC g D [] [.ref (ad a0), .int v1, .int v2, .int v3] sz (ws g ad y σ)) (va_Qi (fun (r : Int32) (u : St) => Post u r) (QW D (va_A (ws g ad y σ) sz) (fun u => ws g ad y u)) (va_A (ws g ad y σ) sz)) 0 0 (va_A (ws g ad y σ) sz) := by
  refine ofI (by decide +kernel) (Nat.le_of_ble_eq_true rfl) ?_
  intro p e s m args below meth c A Q ls H locs G hsz hP hD hS hl hret
  subst hsz
  have hl : lv_has ls 5 [(0, .ref (ad a0)), (1, .int v1), (2, .int v2), (3, .int v3)] := hl
  unfold wu_Mo_object at h
  refine lv_aload_n G.1 G.2.1 d_Mo_object_0 rfl (lv_at hl 0 rfl) ?_
  refine lv_iload_n G.1 G.2.1 d_Mo_object_1 rfl (lv_at hl 1 rfl) ?_
  refine ucVi (As := [.int v1]) (rest := []) G hP hD hS (cu_Mo_isWorld l D g ad y _ σ a0 v1 H.size h_a0 h) w9_Mo_isWorld q3482 ⟨Nat.le_of_ble_eq_true rfl, Nat.le_of_ble_eq_true rfl⟩ rfl rfl h_a0 (q := (RMo, TMo, 131)) rfl rfl hl.1 rfl (Nat.le_of_ble_eq_true rfl) rfl ⟨Nat.le_refl _, Nat.le_refl _⟩ d_Mo_object_2 (fun r_1 s_2 H locs h hP hD hS => ?_)
  have J_40 : ∀ (s_j40 : St) (H : Heap) (locs : List Loc), wj_Mo_object_40 y Post a0 s_j40 → va_P D CL (ws g ad y s_j40) H → va_D A (ws g ad y s_j40) → va_S A s.heap H locs → ∀ ls, lv_has ls 5 [] → W p l e ru_Mo_object s m args below meth c H locs 0 0 Q (F0 m 40 ls []) := by
    intro s_j40 H locs h hP hD hS ls hl
    unfold wj_Mo_object_40 at h
    refine lv_iconst (v := (-1)) G.1 G.2.1 d_Mo_object_40 (by decide) ?_
    exact hret _ _ _ _ _ _ _ ls h hP hD hS (Nat.le_refl _) (Nat.le_refl _) d_Mo_object_41
  refine lv_if_eq (tgt := 40) G.1 G.2.1 d_Mo_object_5 (by decide) (fun c5 => ?_) (fun c5 => ?_)
  · skip
    have h := h.1 c5
    exact J_40 s_2 H locs h hP hD hS ls (lv_sub hl [] rfl)
  · skip
    have h := h.2 c5
    refine lv_iload_n G.1 G.2.1 d_Mo_object_8 rfl (lv_at hl 2 rfl) ?_
    refine lv_iconst (v := 1) G.1 G.2.1 d_Mo_object_9 (by decide) ?_
    refine lv_icmp_lt (tgt := 40) G.1 G.2.1 d_Mo_object_10 (by decide) (fun c10 => ?_) (fun c10 => ?_)
    · skip
      have h := h.1 c10
      exact J_40 s_2 H locs h hP hD hS ls (lv_sub hl [] rfl)
    · skip
      have h := h.2 c10
      refine lv_iload_n G.1 G.2.1 d_Mo_object_13 rfl (lv_at hl 2 rfl) ?_
      refine lv_sipush (v := 800) G.1 G.2.1 d_Mo_object_14 (by decide) ?_
      refine lv_icmp_gt (tgt := 40) G.1 G.2.1 d_Mo_object_17 (by decide) (fun c17 => ?_) (fun c17 => ?_)
      · skip
        have h := h.1 c17
        exact J_40 s_2 H locs h hP hD hS ls (lv_sub hl [] rfl)
      · skip
        have h := h.2 c17
        refine lv_aload_n G.1 G.2.1 d_Mo_object_20 rfl (lv_at hl 0 rfl) ?_
        refine W.eq (g2 := F0 m 21 ls [.ref (ad a0)]) rfl ?_
        refine ugf (v := .ref (yP y a0 44)) G hP h_a0 iMo rfl 44 (by decide) rfl q3108 rfl rfl d_Mo_object_21 ?_
        refine lv_iload_n G.1 G.2.1 d_Mo_object_24 rfl (lv_at hl 1 rfl) ?_
        refine uqald G hP (kdp h_a0 rfl) (typ h_a0 rfl) rfl h d_Mo_object_25 (fun b_3 n_4 h => ?_)
        refine ugfN (v := .ref (yP y b_3 49)) G hP (oa_14 h_a0 n_4) iMw rfl 49 (by decide) rfl q2798 rfl rfl d_Mo_object_26 ?_
        refine lv_iload_n G.1 G.2.1 d_Mo_object_29 rfl (lv_at hl 2 rfl) ?_
        refine uzald G hP (kdp (oa_14 h_a0 n_4) rfl) (typ (oa_14 h_a0 n_4) rfl) h d_Mo_object_30 (fun x_5 h => ?_)
        refine lv_if_eq (tgt := 40) G.1 G.2.1 d_Mo_object_31 (by decide) (fun c31 => ?_) (fun c31 => ?_)
        · skip
          have h := h.1 c31
          exact J_40 s_2 H locs h hP hD hS ls (lv_sub hl [] rfl)
        · skip
          have h := h.2 c31
          refine lv_iload_n G.1 G.2.1 d_Mo_object_34 rfl (lv_at hl 3 rfl) ?_
          refine lv_bipush (v := (-3)) G.1 G.2.1 d_Mo_object_35 (by decide) ?_
          refine lv_icmp_ge (tgt := 42) G.1 G.2.1 d_Mo_object_37 (by decide) (fun c37 => ?_) (fun c37 => ?_)
          · skip
            have h := h.1 c37
            refine lv_aload_n G.1 G.2.1 d_Mo_object_42 rfl (lv_at hl 0 rfl) ?_
            refine lv_aload_n G.1 G.2.1 d_Mo_object_43 rfl (lv_at hl 0 rfl) ?_
            refine W.eq (g2 := F0 m 44 ls [.ref (ad a0), .ref (ad a0)]) rfl ?_
            refine ugf (v := .ref (yP y a0 44)) G hP h_a0 iMo rfl 44 (by decide) rfl q3108 rfl rfl d_Mo_object_44 ?_
            refine lv_iload_n G.1 G.2.1 d_Mo_object_47 rfl (lv_at hl 1 rfl) ?_
            refine uqald G hP (kdp h_a0 rfl) (typ h_a0 rfl) rfl h d_Mo_object_48 (fun b_6 n_7 h => ?_)
            refine upf G hP hD hS h 45 putO h_a0 iMo tMo tMo_ok nMo rfl (by decide) rfl q3109 rfl rfl fO rfl rfl d_Mo_object_49 (fun s_8 H locs h hP hD hS => ?_)
            refine lv_aload_n G.1 G.2.1 d_Mo_object_52 rfl (lv_at hl 0 rfl) ?_
            obtain ⟨b_9, e_10, c_11, h⟩ := h
            refine ugf (v := .ref (ad b_9)) G hP h_a0 iMo rfl 45 (by decide) rfl q3109 rfl (by show va_rf ((sO s_8 a0 45).map ad) = _; rw [e_10]; rfl) d_Mo_object_53 ?_
            refine ugfN (v := .ref (yP y b_9 45)) G hP c_11 iMw rfl 45 (by decide) rfl q2790 rfl rfl d_Mo_object_56 ?_
            refine lv_iload_n G.1 G.2.1 d_Mo_object_59 rfl (lv_at hl 2 rfl) ?_
            refine uiald G hP (kdp c_11 rfl) (typ c_11 rfl) h d_Mo_object_60 (fun x_12 h => ?_)
            refine lv_istore (lv' := [(4, .int x_12), (0, .ref (ad a0)), (1, .int v1), (2, .int v2), (3, .int v3)]) G.1 G.2.1 d_Mo_object_61 hl (by decide) rfl (fun ls hl => ?_)
            refine lv_iload_n G.1 G.2.1 d_Mo_object_63 rfl (lv_at hl 4 rfl) ?_
            refine lv_if_ge (tgt := 116) G.1 G.2.1 d_Mo_object_64 (by decide) (fun c64 => ?_) (fun c64 => ?_)
            · skip
              have h := h.1 c64
              refine W.eq (g2 := F0 m 116 ls []) rfl ?_
              refine lv_iload_n G.1 G.2.1 d_Mo_object_116 rfl (lv_at hl 4 rfl) ?_
              refine lv_aload_n G.1 G.2.1 d_Mo_object_117 rfl (lv_at hl 1 rfl) ?_
              obtain ⟨b_13, e_14, c_15, h⟩ := h
              refine ugf (v := .ref (ad b_13)) G hP h_a0 iMo rfl 45 (by decide) rfl q3109 rfl (by show va_rf ((sO s_8 a0 45).map ad) = _; rw [e_14]; rfl) d_Mo_object_118 ?_
              refine ugfN (v := .ref (yP y b_13 47)) G hP c_15 iMw rfl 47 (by decide) rfl q2794 rfl rfl d_Mo_object_121 ?_
              refine lv_iload_n G.1 G.2.1 d_Mo_object_124 rfl (lv_at hl 3 rfl) ?_
              refine uiald G hP (kdp c_15 rfl) (typ c_15 rfl) h d_Mo_object_125 (fun x_16 h => ?_)
              refine lv_icmp_lt (tgt := 131) G.1 G.2.1 d_Mo_object_126 (by decide) (fun c126 => ?_) (fun c126 => ?_)
              · skip
                have h := h.1 c126
                refine lv_aload_n G.1 G.2.1 d_Mo_object_131 rfl (lv_at hl 1 rfl) ?_
                obtain ⟨b_17, e_18, c_19, h⟩ := h
                refine ugf (v := .ref (ad b_17)) G hP h_a0 iMo rfl 45 (by decide) rfl q3109 rfl (by show va_rf ((sO s_8 a0 45).map ad) = _; rw [e_18]; rfl) d_Mo_object_132 ?_
                refine ugfN (v := .ref (yP y b_17 51)) G hP c_19 iMw rfl 51 (by decide) rfl q2801 rfl rfl d_Mo_object_135 ?_
                refine lv_aload_n G.1 G.2.1 d_Mo_object_138 rfl (lv_at hl 1 rfl) ?_
                obtain ⟨b_20, e_21, c_22, h⟩ := h
                refine ugf (v := .ref (ad b_20)) G hP h_a0 iMo rfl 45 (by decide) rfl q3109 rfl (by show va_rf ((sO s_8 a0 45).map ad) = _; rw [e_21]; rfl) d_Mo_object_139 ?_
                refine W.eq (g2 := F0 m 142 ls [.ref (ad b_20), .ref (yP y b_17 51)]) rfl ?_
                refine ugfN (v := .ref (yP y b_20 46)) G hP c_22 iMw rfl 46 (by decide) rfl q2792 rfl rfl d_Mo_object_142 ?_
                refine lv_iload_n G.1 G.2.1 d_Mo_object_145 rfl (lv_at hl 3 rfl) ?_
                refine uiald G hP (kdp c_22 rfl) (typ c_22 rfl) h d_Mo_object_146 (fun x_23 h => ?_)
                refine lv_iload_n G.1 G.2.1 d_Mo_object_147 rfl (lv_at hl 4 rfl) ?_
                refine lv_iadd G.1 G.2.1 d_Mo_object_148 ?_
                refine uiald G hP (kdp c_19 rfl) (typ c_19 rfl) h d_Mo_object_149 (fun x_24 h => ?_)
                refine lv_iload G.1 G.2.1 d_Mo_object_150 (lv_at hl 0 rfl) ?_
                refine lv_iconst (v := (-1)) G.1 G.2.1 d_Mo_object_152 (by decide) ?_
                have J_171 : ∀ (s_j171 : St) (z0j171 : Int32) (z1j171 : Int32) (H : Heap) (locs : List Loc), wj_Mo_object_171 y Post a0 s_j171 z0j171 z1j171 → va_P D CL (ws g ad y s_j171) H → va_D A (ws g ad y s_j171) → va_S A s.heap H locs → ∀ ls, lv_has ls 5 [] → W p l e ru_Mo_object s m args below meth c H locs 0 0 Q (F0 m 171 ls [.int z1j171, .int z0j171]) := by
                  intro s_j171 z0j171 z1j171 H locs h hP hD hS ls hl
                  unfold wj_Mo_object_171 at h
                  refine ucSi (As := [.int z0j171, .int z1j171]) (rest := []) G hP hD hS (cu_Mo_shown l D g ad y _ s_j171 z0j171 z1j171 H.size  h) w9_Mo_shown q4027 ⟨Nat.le_of_ble_eq_true rfl, Nat.le_of_ble_eq_true rfl⟩ rfl rfl hl.1 rfl (Nat.le_of_ble_eq_true rfl) rfl ⟨Nat.le_refl _, Nat.le_refl _⟩ d_Mo_object_171 (fun r_25 s_26 H locs h hP hD hS => ?_)
                  exact hret _ _ _ _ _ _ _ ls h hP hD hS (Nat.le_refl _) (Nat.le_refl _) d_Mo_object_174
                have J_170 : ∀ (s_j170 : St) (z0j170 : Int32) (H : Heap) (locs : List Loc), wj_Mo_object_170 y Post a0 s_j170 z0j170 → va_P D CL (ws g ad y s_j170) H → va_D A (ws g ad y s_j170) → va_S A s.heap H locs → ∀ ls, lv_has ls 5 [] → W p l e ru_Mo_object s m args below meth c H locs 0 0 Q (F0 m 170 ls [.int z0j170]) := by
                  intro s_j170 z0j170 H locs h hP hD hS ls hl
                  unfold wj_Mo_object_170 at h
                  refine lv_iconst (v := 0) G.1 G.2.1 d_Mo_object_170 (by decide) ?_
                  exact J_171 s_j170 z0j170 0 H locs h hP hD hS ls (lv_sub hl [] rfl)
                refine lv_icmp_eq (tgt := 170) G.1 G.2.1 d_Mo_object_153 (by decide) (fun c153 => ?_) (fun c153 => ?_)
                · skip
                  have h := h.1 c153
                  exact J_170 s_8 x_24 H locs h hP hD hS ls (lv_sub hl [] rfl)
                · skip
                  have h := h.2 c153
                  refine lv_aload_n G.1 G.2.1 d_Mo_object_156 rfl (lv_at hl 1 rfl) ?_
                  refine lv_iload G.1 G.2.1 d_Mo_object_157 (lv_at hl 0 rfl) ?_
                  refine lv_iload_n G.1 G.2.1 d_Mo_object_159 rfl (lv_at hl 4 rfl) ?_
                  refine W.eq (g2 := F0 m 160 ls [.int v3, .int x_12, .ref (ad a0), .int x_24]) rfl ?_
                  refine ucVi (As := [.int x_12, .int v3]) (rest := [.int x_24]) G hP hD hS (cu_Mo_isRefField l D g ad y _ s_8 a0 x_12 v3 H.size h_a0 h) w9_Mo_isRefField q4038 ⟨Nat.le_of_ble_eq_true rfl, Nat.le_of_ble_eq_true rfl⟩ rfl rfl h_a0 (q := (RMo, TMo, 131)) rfl rfl hl.1 rfl (Nat.le_of_ble_eq_true rfl) rfl ⟨Nat.le_refl _, Nat.le_refl _⟩ d_Mo_object_160 (fun r_27 s_28 H locs h hP hD hS => ?_)
                  refine lv_if_eq (tgt := 170) G.1 G.2.1 d_Mo_object_163 (by decide) (fun c163 => ?_) (fun c163 => ?_)
                  · skip
                    have h := h.1 c163
                    exact J_170 s_28 x_24 H locs h hP hD hS ls (lv_sub hl [] rfl)
                  · skip
                    have h := h.2 c163
                    refine lv_iconst (v := 1) G.1 G.2.1 d_Mo_object_166 (by decide) ?_
                    refine lv_goto (tgt := 171) G.1 G.2.1 d_Mo_object_167 (by decide) ?_
                    exact J_171 s_28 x_24 1 H locs h hP hD hS ls (lv_sub hl [] rfl)
              · skip
                have h := h.2 c126
                refine lv_iconst (v := (-1)) G.1 G.2.1 d_Mo_object_129 (by decide) ?_
                exact hret _ _ _ _ _ _ _ ls h hP hD hS (Nat.le_refl _) (Nat.le_refl _) d_Mo_object_130
            · skip
              have h := h.2 c64
              refine W.eq (g2 := F0 m 67 ls []) rfl ?_
              refine lv_iload_n G.1 G.2.1 d_Mo_object_67 rfl (lv_at hl 4 rfl) ?_
              refine lv_iconst (v := (-1)) G.1 G.2.1 d_Mo_object_68 (by decide) ?_
              have J_115 : ∀ (s_j115 : St) (z0j115 : Int32) (H : Heap) (locs : List Loc), wj_Mo_object_115 y Post a0 s_j115 z0j115 → va_P D CL (ws g ad y s_j115) H → va_D A (ws g ad y s_j115) → va_S A s.heap H locs → ∀ ls, lv_has ls 5 [] → W p l e ru_Mo_object s m args below meth c H locs 0 0 Q (F0 m 115 ls [.int z0j115]) := by
                intro s_j115 z0j115 H locs h hP hD hS ls hl
                unfold wj_Mo_object_115 at h
                exact hret _ _ _ _ _ _ _ ls h hP hD hS (Nat.le_refl _) (Nat.le_refl _) d_Mo_object_115
              refine lv_icmp_ne (tgt := 88) G.1 G.2.1 d_Mo_object_69 (by decide) (fun c69 => ?_) (fun c69 => ?_)
              · skip
                have h := h.1 c69
                refine lv_iload_n G.1 G.2.1 d_Mo_object_88 rfl (lv_at hl 4 rfl) ?_
                refine lv_bipush (v := (-2)) G.1 G.2.1 d_Mo_object_89 (by decide) ?_
                refine lv_icmp_ne (tgt := 106) G.1 G.2.1 d_Mo_object_91 (by decide) (fun c91 => ?_) (fun c91 => ?_)
                · skip
                  have h := h.1 c91
                  refine lv_aload_n G.1 G.2.1 d_Mo_object_106 rfl (lv_at hl 1 rfl) ?_
                  obtain ⟨b_29, e_30, c_31, h⟩ := h
                  refine ugf (v := .ref (ad b_29)) G hP h_a0 iMo rfl 45 (by decide) rfl q3109 rfl (by show va_rf ((sO s_8 a0 45).map ad) = _; rw [e_30]; rfl) d_Mo_object_107 ?_
                  refine ugfN (v := .ref (yP y b_29 47)) G hP c_31 iMw rfl 47 (by decide) rfl q2794 rfl rfl d_Mo_object_110 ?_
                  refine lv_iload_n G.1 G.2.1 d_Mo_object_113 rfl (lv_at hl 3 rfl) ?_
                  refine uiald G hP (kdp c_31 rfl) (typ c_31 rfl) h d_Mo_object_114 (fun x_32 h => ?_)
                  exact J_115 s_8 x_32 H locs h hP hD hS ls (lv_sub hl [] rfl)
                · skip
                  have h := h.2 c91
                  refine lv_aload_n G.1 G.2.1 d_Mo_object_94 rfl (lv_at hl 1 rfl) ?_
                  obtain ⟨b_33, e_34, c_35, h⟩ := h
                  refine ugf (v := .ref (ad b_33)) G hP h_a0 iMo rfl 45 (by decide) rfl q3109 rfl (by show va_rf ((sO s_8 a0 45).map ad) = _; rw [e_34]; rfl) d_Mo_object_95 ?_
                  refine ugfN (v := .ref (yP y b_33 48)) G hP c_35 iMw rfl 48 (by decide) rfl q2796 rfl rfl d_Mo_object_98 ?_
                  refine lv_iload_n G.1 G.2.1 d_Mo_object_101 rfl (lv_at hl 3 rfl) ?_
                  refine uiald G hP (kdp c_35 rfl) (typ c_35 rfl) h d_Mo_object_102 (fun x_36 h => ?_)
                  refine lv_goto (tgt := 115) G.1 G.2.1 d_Mo_object_103 (by decide) ?_
                  exact J_115 s_8 x_36 H locs h hP hD hS ls (lv_sub hl [] rfl)
              · skip
                have h := h.2 c69
                refine lv_iload G.1 G.2.1 d_Mo_object_72 (lv_at hl 0 rfl) ?_
                refine lv_iconst (v := (-1)) G.1 G.2.1 d_Mo_object_74 (by decide) ?_
                refine lv_icmp_ne (tgt := 83) G.1 G.2.1 d_Mo_object_75 (by decide) (fun c75 => ?_) (fun c75 => ?_)
                · skip
                  have h := h.1 c75
                  refine lv_iload G.1 G.2.1 d_Mo_object_83 (lv_at hl 0 rfl) ?_
                  refine lv_goto (tgt := 115) G.1 G.2.1 d_Mo_object_85 (by decide) ?_
                  exact J_115 s_8 x_12 H locs h hP hD hS ls (lv_sub hl [] rfl)
                · skip
                  have h := h.2 c75
                  refine lv_bipush (v := (-2)) G.1 G.2.1 d_Mo_object_78 (by decide) ?_
                  refine lv_goto (tgt := 115) G.1 G.2.1 d_Mo_object_80 (by decide) ?_
                  exact J_115 s_8 (-2) H locs h hP hD hS ls (lv_sub hl [] rfl)
          · skip
            have h := h.2 c37
            exact J_40 s_2 H locs h hP hD hS ls (lv_sub hl [] rfl)
def y_Mo_written : MethodName := ⟨"ClassWorksModel", "written", "(I)I"⟩
abbrev b_Mo_written : ByteArray := prog_14_method_168_code
theorem q3159 : Cond.fieldLink "ClassWorksModel" 1176 "ClassWorksModel" "paged" "I" ∈ lw_ok := lw_okmem (List.mem_of_getElem? (i := 3159) (by decide +kernel)) rfl
theorem q3158 : Cond.fieldLink "ClassWorksModel" 323 "ClassWorksModel" "page" "[B" ∈ lw_ok := lw_okmem (List.mem_of_getElem? (i := 3158) (by decide +kernel)) rfl
theorem d_Mo_written_0 : decode b_Mo_written 0 = .ok (.iload_n 1, 1) := by decide +kernel
theorem d_Mo_written_1 : decode b_Mo_written 1 = .ok (.ifCond .lt 11, 3) := by decide +kernel
theorem d_Mo_written_4 : decode b_Mo_written 4 = .ok (.iload_n 1, 1) := by decide +kernel
theorem d_Mo_written_5 : decode b_Mo_written 5 = .ok (.aload_n 0, 1) := by decide +kernel
theorem d_Mo_written_6 : decode b_Mo_written 6 = .ok (.getfield 1176, 3) := by decide +kernel
theorem d_Mo_written_9 : decode b_Mo_written 9 = .ok (.if_icmp .lt 7, 3) := by decide +kernel
theorem d_Mo_written_12 : decode b_Mo_written 12 = .ok (.iconst (-1), 1) := by decide +kernel
theorem d_Mo_written_13 : decode b_Mo_written 13 = .ok (.goto 9, 3) := by decide +kernel
theorem d_Mo_written_16 : decode b_Mo_written 16 = .ok (.aload_n 0, 1) := by decide +kernel
theorem d_Mo_written_17 : decode b_Mo_written 17 = .ok (.getfield 323, 3) := by decide +kernel
theorem d_Mo_written_20 : decode b_Mo_written 20 = .ok (.iload_n 1, 1) := by decide +kernel
theorem d_Mo_written_21 : decode b_Mo_written 21 = .ok (.baload, 1) := by decide +kernel
theorem d_Mo_written_22 : decode b_Mo_written 22 = .ok (.ireturn, 1) := by decide +kernel
abbrev ru_Mo_written : Room := { frames := 0, cells := 0, slots := 0, locals := 0 }
def wj_Mo_written_22 (y : Ly) (Post : St → Int32 → Prop) (a0 : Nat) (s_j22 : St) (z0j22 : Int32) : Prop := Post s_j22 z0j22
def wj_Mo_written_12 (y : Ly) (Post : St → Int32 → Prop) (a0 : Nat) (s_j12 : St) : Prop := wj_Mo_written_22 y Post a0 s_j12 (-1)
def wu_Mo_written (y : Ly) (Post : St → Int32 → Prop) (σ : St) (a0 : Nat) (v1 : Int32) : Prop := ((v1 < 0 → wj_Mo_written_12 y Post a0 σ) ∧ (¬ (v1 < 0) → ((v1 < (sV σ a0 95) → xA y σ a0 94 v1 (fun x_1 : Int32 => wj_Mo_written_22 y Post a0 σ x_1)) ∧ (¬ (v1 < (sV σ a0 95)) → wj_Mo_written_12 y Post a0 σ))))
set_option maxHeartbeats 4000000 in
set_option maxRecDepth 100000 in
theorem cu_Mo_written (l : Launch) (D : va_G) (g : Nat → ClassId) (ad : Nat → Nat) (y : Ly) (Post : St → Int32 → Prop) (σ : St) (a0 : Nat) (v1 : Int32) (sz : Nat) (h_a0 : cl a0 = 14) (h : wu_Mo_written y Post σ a0 v1) : Met l y_Mo_written (mw y_Mo_written b_Mo_written 2 (some .int)) ru_Mo_written (PC g D [] [.ref (ad a0), .int v1] sz (ws g ad y σ)) (va_Qi (fun (r : Int32) (u : St) => Post u r) (QW D (va_A (ws g ad y σ) sz) (fun u => ws g ad y u)) (va_A (ws g ad y σ) sz)) 0 0 (va_A (ws g ad y σ) sz) := by
  refine ofI (by decide +kernel) (Nat.le_of_ble_eq_true rfl) ?_
  intro p e s m args below meth c A Q ls H locs G hsz hP hD hS hl hret
  subst hsz
  have hl : lv_has ls 2 [(0, .ref (ad a0)), (1, .int v1)] := hl
  unfold wu_Mo_written at h
  refine lv_iload_n G.1 G.2.1 d_Mo_written_0 rfl (lv_at hl 1 rfl) ?_
  have J_22 : ∀ (s_j22 : St) (z0j22 : Int32) (H : Heap) (locs : List Loc), wj_Mo_written_22 y Post a0 s_j22 z0j22 → va_P D CL (ws g ad y s_j22) H → va_D A (ws g ad y s_j22) → va_S A s.heap H locs → ∀ ls, lv_has ls 2 [] → W p l e ru_Mo_written s m args below meth c H locs 0 0 Q (F0 m 22 ls [.int z0j22]) := by
    intro s_j22 z0j22 H locs h hP hD hS ls hl
    unfold wj_Mo_written_22 at h
    exact hret _ _ _ _ _ _ _ ls h hP hD hS (Nat.le_refl _) (Nat.le_refl _) d_Mo_written_22
  have J_12 : ∀ (s_j12 : St) (H : Heap) (locs : List Loc), wj_Mo_written_12 y Post a0 s_j12 → va_P D CL (ws g ad y s_j12) H → va_D A (ws g ad y s_j12) → va_S A s.heap H locs → ∀ ls, lv_has ls 2 [] → W p l e ru_Mo_written s m args below meth c H locs 0 0 Q (F0 m 12 ls []) := by
    intro s_j12 H locs h hP hD hS ls hl
    unfold wj_Mo_written_12 at h
    refine lv_iconst (v := (-1)) G.1 G.2.1 d_Mo_written_12 (by decide) ?_
    refine lv_goto (tgt := 22) G.1 G.2.1 d_Mo_written_13 (by decide) ?_
    exact J_22 s_j12 (-1) H locs h hP hD hS ls (lv_sub hl [] rfl)
  refine lv_if_lt (tgt := 12) G.1 G.2.1 d_Mo_written_1 (by decide) (fun c1 => ?_) (fun c1 => ?_)
  · skip
    have h := h.1 c1
    exact J_12 σ H locs h hP hD hS ls (lv_sub hl [] rfl)
  · skip
    have h := h.2 c1
    refine lv_iload_n G.1 G.2.1 d_Mo_written_4 rfl (lv_at hl 1 rfl) ?_
    refine lv_aload_n G.1 G.2.1 d_Mo_written_5 rfl (lv_at hl 0 rfl) ?_
    refine ugf (v := .int (sV σ a0 95)) G hP h_a0 iMo rfl 95 (by decide) rfl q3159 rfl rfl d_Mo_written_6 ?_
    refine lv_icmp_lt (tgt := 16) G.1 G.2.1 d_Mo_written_9 (by decide) (fun c9 => ?_) (fun c9 => ?_)
    · skip
      have h := h.1 c9
      refine lv_aload_n G.1 G.2.1 d_Mo_written_16 rfl (lv_at hl 0 rfl) ?_
      refine ugf (v := .ref (yP y a0 94)) G hP h_a0 iMo rfl 94 (by decide) rfl q3158 rfl rfl d_Mo_written_17 ?_
      refine lv_iload_n G.1 G.2.1 d_Mo_written_20 rfl (lv_at hl 1 rfl) ?_
      refine ubald G hP (kdp h_a0 rfl) (typ h_a0 rfl) h d_Mo_written_21 (fun x_1 h => ?_)
      exact J_22 σ x_1 H locs h hP hD hS ls (lv_sub hl [] rfl)
    · skip
      have h := h.2 c9
      exact J_12 σ H locs h hP hD hS ls (lv_sub hl [] rfl)
def y_Mo_isUp : MethodName := ⟨"ClassWorksModel", "isUp", "(II)Z"⟩
abbrev b_Mo_isUp : ByteArray := prog_14_method_178_code
theorem d_Mo_isUp_0 : decode b_Mo_isUp 0 = .ok (.iload_n 2, 1) := by decide +kernel
theorem d_Mo_isUp_1 : decode b_Mo_isUp 1 = .ok (.istore_n 3, 1) := by decide +kernel
theorem d_Mo_isUp_2 : decode b_Mo_isUp 2 = .ok (.iconst 0, 1) := by decide +kernel
theorem d_Mo_isUp_3 : decode b_Mo_isUp 3 = .ok (.istore 4, 2) := by decide +kernel
theorem d_Mo_isUp_5 : decode b_Mo_isUp 5 = .ok (.iload_n 3, 1) := by decide +kernel
theorem d_Mo_isUp_6 : decode b_Mo_isUp 6 = .ok (.ifCond .lt 29, 3) := by decide +kernel
theorem d_Mo_isUp_9 : decode b_Mo_isUp 9 = .ok (.iload 4, 2) := by decide +kernel
theorem d_Mo_isUp_11 : decode b_Mo_isUp 11 = .ok (.bipush 51, 2) := by decide +kernel
theorem d_Mo_isUp_13 : decode b_Mo_isUp 13 = .ok (.if_icmp .ge 22, 3) := by decide +kernel
theorem d_Mo_isUp_16 : decode b_Mo_isUp 16 = .ok (.iload_n 3, 1) := by decide +kernel
theorem d_Mo_isUp_17 : decode b_Mo_isUp 17 = .ok (.iload_n 1, 1) := by decide +kernel
theorem d_Mo_isUp_18 : decode b_Mo_isUp 18 = .ok (.if_icmp .ne 5, 3) := by decide +kernel
theorem d_Mo_isUp_21 : decode b_Mo_isUp 21 = .ok (.iconst 1, 1) := by decide +kernel
theorem d_Mo_isUp_22 : decode b_Mo_isUp 22 = .ok (.ireturn, 1) := by decide +kernel
theorem d_Mo_isUp_23 : decode b_Mo_isUp 23 = .ok (.aload_n 0, 1) := by decide +kernel
theorem d_Mo_isUp_24 : decode b_Mo_isUp 24 = .ok (.iload_n 3, 1) := by decide +kernel
theorem d_Mo_isUp_25 : decode b_Mo_isUp 25 = .ok (.invokevirtual 725, 3) := by decide +kernel
theorem d_Mo_isUp_28 : decode b_Mo_isUp 28 = .ok (.istore_n 3, 1) := by decide +kernel
theorem d_Mo_isUp_29 : decode b_Mo_isUp 29 = .ok (.iinc 4 1, 3) := by decide +kernel
theorem d_Mo_isUp_32 : decode b_Mo_isUp 32 = .ok (.goto (-27), 3) := by decide +kernel
theorem d_Mo_isUp_35 : decode b_Mo_isUp 35 = .ok (.iconst 0, 1) := by decide +kernel
theorem d_Mo_isUp_36 : decode b_Mo_isUp 36 = .ok (.ireturn, 1) := by decide +kernel
abbrev ru_Mo_isUp : Room := { frames := 2, cells := 0, slots := 0, locals := 43 }
def wj_Mo_isUp_35 (y : Ly) (Post : St → Int32 → Prop) (a0 : Nat) (s_j35 : St) : Prop := (nb 0 ∧ Post s_j35 0)
def wb_Mo_isUp_5 (y : Ly) (Post : St → Int32 → Prop) (K_5 : St → Int32 → Int32 → Int32 → Prop) (a0 : Nat) (s_h5 : St) (x1h5 : Int32) (x3h5 : Int32) (x4h5 : Int32) : Prop := ((x3h5 < 0 → wj_Mo_isUp_35 y Post a0 s_h5) ∧ (¬ (x3h5 < 0) → ((51 ≤ x4h5 → wj_Mo_isUp_35 y Post a0 s_h5) ∧ (¬ (51 ≤ x4h5) → ((¬ x3h5 = x1h5 → wu_Mo_parentOf y (fun (s_2 : St) (r_1 : Int32) => K_5 s_2 x1h5 r_1 (x4h5 + 1)) s_h5 a0 x3h5) ∧ (x3h5 = x1h5 → (nb 1 ∧ Post s_h5 1)))))))
def wl_Mo_isUp_5 (y : Ly) (Post : St → Int32 → Prop) (a0 : Nat) (s_h5 : St) (x1h5 : Int32) (x3h5 : Int32) (x4h5 : Int32) : Prop := ∃ (I : St → Int32 → Int32 → Int32 → Prop) (μ : St → Int32 → Int32 → Int32 → Nat), I s_h5 x1h5 x3h5 x4h5 ∧ ∀ (u : St) (t0 : Int32) (t1 : Int32) (t2 : Int32), I u t0 t1 t2 → wb_Mo_isUp_5 y Post (fun z t0q t1q t2q => I z t0q t1q t2q ∧ μ z t0q t1q t2q < μ u t0 t1 t2) a0 u t0 t1 t2
def wu_Mo_isUp (y : Ly) (Post : St → Int32 → Prop) (σ : St) (a0 : Nat) (v1 : Int32) (v2 : Int32) : Prop := wl_Mo_isUp_5 y Post a0 σ v1 v2 0
set_option maxHeartbeats 4000000 in
set_option maxRecDepth 100000 in
theorem cu_Mo_isUp (l : Launch) (D : va_G) (g : Nat → ClassId) (ad : Nat → Nat) (y : Ly) (Post : St → Int32 → Prop) (σ : St) (a0 : Nat) (v1 : Int32) (v2 : Int32) (sz : Nat) (h_a0 : cl a0 = 14) (h : wu_Mo_isUp y Post σ a0 v1 v2) : Met l y_Mo_isUp (mw y_Mo_isUp b_Mo_isUp 5 (some (.boolean))) ru_Mo_isUp (PC g D [] [.ref (ad a0), .int v1, .int v2] sz (ws g ad y σ)) (va_Qi (fun (r : Int32) (u : St) => Post u r) (QW D (va_A (ws g ad y σ) sz) (fun u => ws g ad y u)) (va_A (ws g ad y σ) sz)) 0 0 (va_A (ws g ad y σ) sz) := by
  refine ofZ (by decide +kernel) (Nat.le_of_ble_eq_true rfl) ?_
  intro p e s m args below meth c A Q ls H locs G hsz hP hD hS hl hret
  subst hsz
  have hl : lv_has ls 5 [(0, .ref (ad a0)), (1, .int v1), (2, .int v2)] := hl
  unfold wu_Mo_isUp at h
  refine lv_iload_n G.1 G.2.1 d_Mo_isUp_0 rfl (lv_at hl 2 rfl) ?_
  refine lv_istore_n (lv' := [(3, .int v2), (0, .ref (ad a0)), (1, .int v1), (2, .int v2)]) G.1 G.2.1 d_Mo_isUp_1 rfl hl (by decide) rfl (fun ls hl => ?_)
  refine lv_iconst (v := 0) G.1 G.2.1 d_Mo_isUp_2 (by decide) ?_
  refine lv_istore (lv' := [(4, .int 0), (3, .int v2), (0, .ref (ad a0)), (1, .int v1), (2, .int v2)]) G.1 G.2.1 d_Mo_isUp_3 hl (by decide) rfl (fun ls hl => ?_)
  unfold wl_Mo_isUp_5 at h
  obtain ⟨I_5, μ_5, hI_5, hB_5⟩ := h
  have L_5 : ∀ (n_5 : Nat) (s_h5 : St) (x1h5 : Int32) (x3h5 : Int32) (x4h5 : Int32), μ_5 s_h5 x1h5 x3h5 x4h5 < n_5 → I_5 s_h5 x1h5 x3h5 x4h5 → ∀ (H : Heap) (locs : List Loc), va_P D CL (ws g ad y s_h5) H → va_D A (ws g ad y s_h5) → va_S A s.heap H locs → ∀ ls, lv_has ls 5 [(0, .ref (ad a0)), (1, .int x1h5), (3, .int x3h5), (4, .int x4h5)] → W p l e ru_Mo_isUp s m args below meth c H locs 0 0 Q (F0 m 5 ls []) := by
    intro n_5
    induction n_5 with
    | zero => intro s_h5 x1h5 x3h5 x4h5 hμ; exact absurd hμ (Nat.not_lt_zero _)
    | succ n_5 ih_5 =>
      intro s_h5 x1h5 x3h5 x4h5 hμ_5 hJ H locs hP hD hS ls hl
      obtain ⟨K_5, hK_5, h⟩ : ∃ K : St → Int32 → Int32 → Int32 → Prop, (∀ z (t0 : Int32) (t1 : Int32) (t2 : Int32), K z t0 t1 t2 → I_5 z t0 t1 t2 ∧ μ_5 z t0 t1 t2 < μ_5 s_h5 x1h5 x3h5 x4h5) ∧ wb_Mo_isUp_5 y Post K a0 s_h5 x1h5 x3h5 x4h5 := ⟨_, fun _ _ _ _ h => h, hB_5 s_h5 x1h5 x3h5 x4h5 hJ⟩
      unfold wb_Mo_isUp_5 at h
      refine lv_iload_n G.1 G.2.1 d_Mo_isUp_5 rfl (lv_at hl 2 rfl) ?_
      have J_35 : ∀ (s_j35 : St) (H : Heap) (locs : List Loc), wj_Mo_isUp_35 y Post a0 s_j35 → va_P D CL (ws g ad y s_j35) H → va_D A (ws g ad y s_j35) → va_S A s.heap H locs → ∀ ls, lv_has ls 5 [] → W p l e ru_Mo_isUp s m args below meth c H locs 0 0 Q (F0 m 35 ls []) := by
        intro s_j35 H locs h hP hD hS ls hl
        unfold wj_Mo_isUp_35 at h
        refine lv_iconst (v := 0) G.1 G.2.1 d_Mo_isUp_35 (by decide) ?_
        exact hret _ _ _ _ _ _ _ ls (nb_n h.1) h.2 hP hD hS (Nat.le_refl _) (Nat.le_refl _) d_Mo_isUp_36
      refine lv_if_lt (tgt := 35) G.1 G.2.1 d_Mo_isUp_6 (by decide) (fun c6 => ?_) (fun c6 => ?_)
      · skip
        have h := h.1 c6
        exact J_35 s_h5 H locs h hP hD hS ls (lv_sub hl [] rfl)
      · skip
        have h := h.2 c6
        refine lv_iload G.1 G.2.1 d_Mo_isUp_9 (lv_at hl 3 rfl) ?_
        refine lv_bipush (v := 51) G.1 G.2.1 d_Mo_isUp_11 (by decide) ?_
        refine lv_icmp_ge (tgt := 35) G.1 G.2.1 d_Mo_isUp_13 (by decide) (fun c13 => ?_) (fun c13 => ?_)
        · skip
          have h := h.1 c13
          exact J_35 s_h5 H locs h hP hD hS ls (lv_sub hl [] rfl)
        · skip
          have h := h.2 c13
          refine lv_iload_n G.1 G.2.1 d_Mo_isUp_16 rfl (lv_at hl 2 rfl) ?_
          refine lv_iload_n G.1 G.2.1 d_Mo_isUp_17 rfl (lv_at hl 1 rfl) ?_
          refine lv_icmp_ne (tgt := 23) G.1 G.2.1 d_Mo_isUp_18 (by decide) (fun c18 => ?_) (fun c18 => ?_)
          · skip
            have h := h.1 c18
            refine lv_aload_n G.1 G.2.1 d_Mo_isUp_23 rfl (lv_at hl 0 rfl) ?_
            refine lv_iload_n G.1 G.2.1 d_Mo_isUp_24 rfl (lv_at hl 2 rfl) ?_
            refine ucVi (As := [.int x3h5]) (rest := []) G hP hD hS (cu_Mo_parentOf l D g ad y _ s_h5 a0 x3h5 H.size h_a0 h) w9_Mo_parentOf q3689 ⟨Nat.le_of_ble_eq_true rfl, Nat.le_of_ble_eq_true rfl⟩ rfl rfl h_a0 (q := (RMo, TMo, 131)) rfl rfl hl.1 rfl (Nat.le_of_ble_eq_true rfl) rfl ⟨Nat.le_refl _, Nat.le_refl _⟩ d_Mo_isUp_25 (fun r_1 s_2 H locs h hP hD hS => ?_)
            refine W.eq (g2 := F0 m 28 ls [.int r_1]) rfl ?_
            refine lv_istore_n (lv' := [(3, .int r_1), (0, .ref (ad a0)), (1, .int x1h5), (4, .int x4h5)]) G.1 G.2.1 d_Mo_isUp_28 rfl hl (by decide) rfl (fun ls hl => ?_)
            refine lv_iinc (v := x4h5 + 1) (lv' := [(4, .int (x4h5 + 1)), (3, .int r_1), (0, .ref (ad a0)), (1, .int x1h5)]) G.1 G.2.1 d_Mo_isUp_29 hl (k := 3) rfl rfl (by decide) rfl (fun ls hl => ?_)
            refine lv_goto (tgt := 5) G.1 G.2.1 d_Mo_isUp_32 (by decide) ?_
            have h := hK_5 s_2 x1h5 r_1 (x4h5 + 1) h
            exact ih_5 s_2 x1h5 r_1 (x4h5 + 1) (Nat.lt_of_lt_of_le h.2 (Nat.le_of_lt_succ hμ_5)) h.1 H locs hP hD hS ls (lv_sub hl [2, 3, 1, 0] rfl)
          · skip
            have h := h.2 c18
            refine lv_iconst (v := 1) G.1 G.2.1 d_Mo_isUp_21 (by decide) ?_
            exact hret _ _ _ _ _ _ _ ls (nb_n h.1) h.2 hP hD hS (Nat.le_refl _) (Nat.le_refl _) d_Mo_isUp_22
  exact L_5 _ σ v1 v2 0 (Nat.lt_succ_self _) hI_5 H locs hP hD hS ls (lv_sub hl [2, 3, 1, 0] rfl)
theorem q4141 : Cond.methodLink "ClassWorksModel" 1282 y_Mo_isUp ∈ lw_ok := lw_okmem (List.mem_of_getElem? (i := 4141) (by decide +kernel)) rfl
theorem q4144 : Cond.code y_Mo_isUp b_Mo_isUp 5 (some (.boolean)) ∈ lw_ok := lw_okmem (List.mem_of_getElem? (i := 4144) (by decide +kernel)) rfl
theorem q4143 : Cond.instanceMethod y_Mo_isUp ∈ lw_ok := lw_okmem (List.mem_of_getElem? (i := 4143) (by decide +kernel)) rfl
theorem q311 : Cond.selects y_Mo_isUp.cls y_Mo_isUp y_Mo_isUp ∈ lw_ok := lw_okmem (List.mem_of_getElem? (i := 311) (by decide +kernel)) rfl
theorem w9_Mo_isUp : CWv y_Mo_isUp b_Mo_isUp 5 (some (.boolean)) 2 ∧ Cond.instanceMethod y_Mo_isUp ∈ lw_ok ∧ Cond.selects y_Mo_isUp.cls y_Mo_isUp y_Mo_isUp ∈ lw_ok := ⟨⟨q4144, q348, by decide +kernel, by decide +kernel, by decide +kernel⟩, q4143, q311⟩
def y_Mo_joined : MethodName := ⟨"ClassWorksModel", "joined", "(II)I"⟩
abbrev b_Mo_joined : ByteArray := prog_14_method_177_code
theorem d_Mo_joined_0 : decode b_Mo_joined 0 = .ok (.iload_n 1, 1) := by decide +kernel
theorem d_Mo_joined_1 : decode b_Mo_joined 1 = .ok (.iload_n 2, 1) := by decide +kernel
theorem d_Mo_joined_2 : decode b_Mo_joined 2 = .ok (.if_icmp .ne 5, 3) := by decide +kernel
theorem d_Mo_joined_5 : decode b_Mo_joined 5 = .ok (.iload_n 1, 1) := by decide +kernel
theorem d_Mo_joined_6 : decode b_Mo_joined 6 = .ok (.ireturn, 1) := by decide +kernel
theorem d_Mo_joined_7 : decode b_Mo_joined 7 = .ok (.iload_n 1, 1) := by decide +kernel
theorem d_Mo_joined_8 : decode b_Mo_joined 8 = .ok (.invokestatic 832, 3) := by decide +kernel
theorem d_Mo_joined_11 : decode b_Mo_joined 11 = .ok (.ifCond .eq 10, 3) := by decide +kernel
theorem d_Mo_joined_14 : decode b_Mo_joined 14 = .ok (.iload_n 2, 1) := by decide +kernel
theorem d_Mo_joined_15 : decode b_Mo_joined 15 = .ok (.invokestatic 832, 3) := by decide +kernel
theorem d_Mo_joined_18 : decode b_Mo_joined 18 = .ok (.ifCond .ne 5, 3) := by decide +kernel
theorem d_Mo_joined_21 : decode b_Mo_joined 21 = .ok (.iconst 0, 1) := by decide +kernel
theorem d_Mo_joined_22 : decode b_Mo_joined 22 = .ok (.ireturn, 1) := by decide +kernel
theorem d_Mo_joined_23 : decode b_Mo_joined 23 = .ok (.iload_n 1, 1) := by decide +kernel
theorem d_Mo_joined_24 : decode b_Mo_joined 24 = .ok (.iconst 3, 1) := by decide +kernel
theorem d_Mo_joined_25 : decode b_Mo_joined 25 = .ok (.if_icmp .eq 8, 3) := by decide +kernel
theorem d_Mo_joined_28 : decode b_Mo_joined 28 = .ok (.iload_n 2, 1) := by decide +kernel
theorem d_Mo_joined_29 : decode b_Mo_joined 29 = .ok (.iconst 3, 1) := by decide +kernel
theorem d_Mo_joined_30 : decode b_Mo_joined 30 = .ok (.if_icmp .ne 14, 3) := by decide +kernel
theorem d_Mo_joined_33 : decode b_Mo_joined 33 = .ok (.iload_n 1, 1) := by decide +kernel
theorem d_Mo_joined_34 : decode b_Mo_joined 34 = .ok (.iconst 3, 1) := by decide +kernel
theorem d_Mo_joined_35 : decode b_Mo_joined 35 = .ok (.if_icmp .ne 7, 3) := by decide +kernel
theorem d_Mo_joined_38 : decode b_Mo_joined 38 = .ok (.iload_n 2, 1) := by decide +kernel
theorem d_Mo_joined_39 : decode b_Mo_joined 39 = .ok (.goto 4, 3) := by decide +kernel
theorem d_Mo_joined_42 : decode b_Mo_joined 42 = .ok (.iload_n 1, 1) := by decide +kernel
theorem d_Mo_joined_43 : decode b_Mo_joined 43 = .ok (.ireturn, 1) := by decide +kernel
theorem d_Mo_joined_44 : decode b_Mo_joined 44 = .ok (.iload_n 1, 1) := by decide +kernel
theorem d_Mo_joined_45 : decode b_Mo_joined 45 = .ok (.iconst 2, 1) := by decide +kernel
theorem d_Mo_joined_46 : decode b_Mo_joined 46 = .ok (.if_icmp .eq 8, 3) := by decide +kernel
theorem d_Mo_joined_49 : decode b_Mo_joined 49 = .ok (.iload_n 2, 1) := by decide +kernel
theorem d_Mo_joined_50 : decode b_Mo_joined 50 = .ok (.iconst 2, 1) := by decide +kernel
theorem d_Mo_joined_51 : decode b_Mo_joined 51 = .ok (.if_icmp .ne 11, 3) := by decide +kernel
theorem d_Mo_joined_54 : decode b_Mo_joined 54 = .ok (.bipush 16, 2) := by decide +kernel
theorem d_Mo_joined_56 : decode b_Mo_joined 56 = .ok (.aload_n 0, 1) := by decide +kernel
theorem d_Mo_joined_57 : decode b_Mo_joined 57 = .ok (.getfield 153, 3) := by decide +kernel
theorem d_Mo_joined_60 : decode b_Mo_joined 60 = .ok (.iadd, 1) := by decide +kernel
theorem d_Mo_joined_61 : decode b_Mo_joined 61 = .ok (.ireturn, 1) := by decide +kernel
theorem d_Mo_joined_62 : decode b_Mo_joined 62 = .ok (.aload_n 0, 1) := by decide +kernel
theorem d_Mo_joined_63 : decode b_Mo_joined 63 = .ok (.iload_n 1, 1) := by decide +kernel
theorem d_Mo_joined_64 : decode b_Mo_joined 64 = .ok (.bipush 16, 2) := by decide +kernel
theorem d_Mo_joined_66 : decode b_Mo_joined 66 = .ok (.isub, 1) := by decide +kernel
theorem d_Mo_joined_67 : decode b_Mo_joined 67 = .ok (.invokevirtual 601, 3) := by decide +kernel
theorem d_Mo_joined_70 : decode b_Mo_joined 70 = .ok (.istore_n 3, 1) := by decide +kernel
theorem d_Mo_joined_71 : decode b_Mo_joined 71 = .ok (.aload_n 0, 1) := by decide +kernel
theorem d_Mo_joined_72 : decode b_Mo_joined 72 = .ok (.iload_n 2, 1) := by decide +kernel
theorem d_Mo_joined_73 : decode b_Mo_joined 73 = .ok (.bipush 16, 2) := by decide +kernel
theorem d_Mo_joined_75 : decode b_Mo_joined 75 = .ok (.isub, 1) := by decide +kernel
theorem d_Mo_joined_76 : decode b_Mo_joined 76 = .ok (.invokevirtual 601, 3) := by decide +kernel
theorem d_Mo_joined_79 : decode b_Mo_joined 79 = .ok (.istore 4, 2) := by decide +kernel
theorem d_Mo_joined_81 : decode b_Mo_joined 81 = .ok (.iconst 0, 1) := by decide +kernel
theorem d_Mo_joined_82 : decode b_Mo_joined 82 = .ok (.istore 5, 2) := by decide +kernel
theorem d_Mo_joined_84 : decode b_Mo_joined 84 = .ok (.iload_n 3, 1) := by decide +kernel
theorem d_Mo_joined_85 : decode b_Mo_joined 85 = .ok (.ifCond .lt 50, 3) := by decide +kernel
theorem d_Mo_joined_88 : decode b_Mo_joined 88 = .ok (.iload 4, 2) := by decide +kernel
theorem d_Mo_joined_90 : decode b_Mo_joined 90 = .ok (.ifCond .lt 45, 3) := by decide +kernel
theorem d_Mo_joined_93 : decode b_Mo_joined 93 = .ok (.iload 5, 2) := by decide +kernel
theorem d_Mo_joined_95 : decode b_Mo_joined 95 = .ok (.bipush 51, 2) := by decide +kernel
theorem d_Mo_joined_97 : decode b_Mo_joined 97 = .ok (.if_icmp .ge 38, 3) := by decide +kernel
theorem d_Mo_joined_100 : decode b_Mo_joined 100 = .ok (.aload_n 0, 1) := by decide +kernel
theorem d_Mo_joined_101 : decode b_Mo_joined 101 = .ok (.iload_n 3, 1) := by decide +kernel
theorem d_Mo_joined_102 : decode b_Mo_joined 102 = .ok (.iload 4, 2) := by decide +kernel
theorem d_Mo_joined_104 : decode b_Mo_joined 104 = .ok (.invokevirtual 1282, 3) := by decide +kernel
theorem d_Mo_joined_107 : decode b_Mo_joined 107 = .ok (.ifCond .eq 16, 3) := by decide +kernel
theorem d_Mo_joined_110 : decode b_Mo_joined 110 = .ok (.bipush 16, 2) := by decide +kernel
theorem d_Mo_joined_112 : decode b_Mo_joined 112 = .ok (.aload_n 0, 1) := by decide +kernel
theorem d_Mo_joined_113 : decode b_Mo_joined 113 = .ok (.getfield 522, 3) := by decide +kernel
theorem d_Mo_joined_116 : decode b_Mo_joined 116 = .ok (.getfield 423, 3) := by decide +kernel
theorem d_Mo_joined_119 : decode b_Mo_joined 119 = .ok (.iload_n 3, 1) := by decide +kernel
theorem d_Mo_joined_120 : decode b_Mo_joined 120 = .ok (.iaload, 1) := by decide +kernel
theorem d_Mo_joined_121 : decode b_Mo_joined 121 = .ok (.iadd, 1) := by decide +kernel
theorem d_Mo_joined_122 : decode b_Mo_joined 122 = .ok (.ireturn, 1) := by decide +kernel
theorem d_Mo_joined_123 : decode b_Mo_joined 123 = .ok (.aload_n 0, 1) := by decide +kernel
theorem d_Mo_joined_124 : decode b_Mo_joined 124 = .ok (.iload_n 3, 1) := by decide +kernel
theorem d_Mo_joined_125 : decode b_Mo_joined 125 = .ok (.invokevirtual 725, 3) := by decide +kernel
theorem d_Mo_joined_128 : decode b_Mo_joined 128 = .ok (.istore_n 3, 1) := by decide +kernel
theorem d_Mo_joined_129 : decode b_Mo_joined 129 = .ok (.iinc 5 1, 3) := by decide +kernel
theorem d_Mo_joined_132 : decode b_Mo_joined 132 = .ok (.goto (-48), 3) := by decide +kernel
theorem d_Mo_joined_135 : decode b_Mo_joined 135 = .ok (.bipush 16, 2) := by decide +kernel
theorem d_Mo_joined_137 : decode b_Mo_joined 137 = .ok (.aload_n 0, 1) := by decide +kernel
theorem d_Mo_joined_138 : decode b_Mo_joined 138 = .ok (.getfield 153, 3) := by decide +kernel
theorem d_Mo_joined_141 : decode b_Mo_joined 141 = .ok (.iadd, 1) := by decide +kernel
theorem d_Mo_joined_142 : decode b_Mo_joined 142 = .ok (.ireturn, 1) := by decide +kernel
abbrev ru_Mo_joined : Room := { frames := 3, cells := 0, slots := 0, locals := 67 }
def wj_Mo_joined_21 (y : Ly) (Post : St → Int32 → Prop) (a0 : Nat) (s_j21 : St) : Prop := Post s_j21 0
def wj_Mo_joined_43 (y : Ly) (Post : St → Int32 → Prop) (a0 : Nat) (s_j43 : St) (z0j43 : Int32) : Prop := Post s_j43 z0j43
def wj_Mo_joined_33 (y : Ly) (Post : St → Int32 → Prop) (a0 : Nat) (s_j33 : St) (x1j33 : Int32) (x2j33 : Int32) : Prop := ((¬ x1j33 = 3 → wj_Mo_joined_43 y Post a0 s_j33 x1j33) ∧ (x1j33 = 3 → wj_Mo_joined_43 y Post a0 s_j33 x2j33))
def wj_Mo_joined_54 (y : Ly) (Post : St → Int32 → Prop) (a0 : Nat) (s_j54 : St) : Prop := Post s_j54 (16 + (sV s_j54 a0 8))
def wj_Mo_joined_135 (y : Ly) (Post : St → Int32 → Prop) (a0 : Nat) (s_j135 : St) : Prop := Post s_j135 (16 + (sV s_j135 a0 8))
def wb_Mo_joined_84 (y : Ly) (Post : St → Int32 → Prop) (K_84 : St → Int32 → Int32 → Int32 → Prop) (a0 : Nat) (s_h84 : St) (x3h84 : Int32) (x4h84 : Int32) (x5h84 : Int32) : Prop := ((x3h84 < 0 → wj_Mo_joined_135 y Post a0 s_h84) ∧ (¬ (x3h84 < 0) → ((x4h84 < 0 → wj_Mo_joined_135 y Post a0 s_h84) ∧ (¬ (x4h84 < 0) → ((51 ≤ x5h84 → wj_Mo_joined_135 y Post a0 s_h84) ∧ (¬ (51 ≤ x5h84) → wu_Mo_isUp y (fun (s_10 : St) (r_9 : Int32) => ((r_9 = 0 → wu_Mo_parentOf y (fun (s_12 : St) (r_11 : Int32) => K_84 s_12 r_11 x4h84 (x5h84 + 1)) s_10 a0 x3h84) ∧ (¬ (r_9 = 0) → ∃ b_13 : Nat, sO s_10 a0 45 = some b_13 ∧ cl b_13 = 13 ∧ xA y s_10 b_13 3 x3h84 (fun x_16 : Int32 => Post s_10 (16 + x_16))))) s_h84 a0 x3h84 x4h84))))))
def wl_Mo_joined_84 (y : Ly) (Post : St → Int32 → Prop) (a0 : Nat) (s_h84 : St) (x3h84 : Int32) (x4h84 : Int32) (x5h84 : Int32) : Prop := ∃ (I : St → Int32 → Int32 → Int32 → Prop) (μ : St → Int32 → Int32 → Int32 → Nat), I s_h84 x3h84 x4h84 x5h84 ∧ ∀ (u : St) (t0 : Int32) (t1 : Int32) (t2 : Int32), I u t0 t1 t2 → wb_Mo_joined_84 y Post (fun z t0q t1q t2q => I z t0q t1q t2q ∧ μ z t0q t1q t2q < μ u t0 t1 t2) a0 u t0 t1 t2
def wu_Mo_joined (y : Ly) (Post : St → Int32 → Prop) (σ : St) (a0 : Nat) (v1 : Int32) (v2 : Int32) : Prop := ((¬ v1 = v2 → wu_Mo_isRef y (fun (s_2 : St) (r_1 : Int32) => ((r_1 = 0 → wj_Mo_joined_21 y Post a0 s_2) ∧ (¬ (r_1 = 0) → wu_Mo_isRef y (fun (s_4 : St) (r_3 : Int32) => ((¬ r_3 = 0 → ((v1 = 3 → wj_Mo_joined_33 y Post a0 s_4 v1 v2) ∧ (¬ (v1 = 3) → ((¬ v2 = 3 → ((v1 = 2 → wj_Mo_joined_54 y Post a0 s_4) ∧ (¬ (v1 = 2) → ((¬ v2 = 2 → wu_Mo_classOf y (fun (s_6 : St) (r_5 : Int32) => wu_Mo_classOf y (fun (s_8 : St) (r_7 : Int32) => wl_Mo_joined_84 y Post a0 s_8 r_5 r_7 0) s_6 a0 (v2 - 16)) s_4 a0 (v1 - 16)) ∧ (v2 = 2 → wj_Mo_joined_54 y Post a0 s_4))))) ∧ (v2 = 3 → wj_Mo_joined_33 y Post a0 s_4 v1 v2))))) ∧ (r_3 = 0 → wj_Mo_joined_21 y Post a0 s_4))) s_2 v2))) σ v1) ∧ (v1 = v2 → Post σ v1))
set_option maxHeartbeats 4000000 in
set_option maxRecDepth 100000 in
theorem cu_Mo_joined (l : Launch) (D : va_G) (g : Nat → ClassId) (ad : Nat → Nat) (y : Ly) (Post : St → Int32 → Prop) (σ : St) (a0 : Nat) (v1 : Int32) (v2 : Int32) (sz : Nat) (h_a0 : cl a0 = 14) (h : wu_Mo_joined y Post σ a0 v1 v2) : Met l y_Mo_joined (mw y_Mo_joined b_Mo_joined 6 (some .int)) ru_Mo_joined (PC g D [] [.ref (ad a0), .int v1, .int v2] sz (ws g ad y σ)) (va_Qi (fun (r : Int32) (u : St) => Post u r) (QW D (va_A (ws g ad y σ) sz) (fun u => ws g ad y u)) (va_A (ws g ad y σ) sz)) 0 0 (va_A (ws g ad y σ) sz) := by
  refine ofI (by decide +kernel) (Nat.le_of_ble_eq_true rfl) ?_
  intro p e s m args below meth c A Q ls H locs G hsz hP hD hS hl hret
  subst hsz
  have hl : lv_has ls 6 [(0, .ref (ad a0)), (1, .int v1), (2, .int v2)] := hl
  unfold wu_Mo_joined at h
  refine lv_iload_n G.1 G.2.1 d_Mo_joined_0 rfl (lv_at hl 1 rfl) ?_
  refine lv_iload_n G.1 G.2.1 d_Mo_joined_1 rfl (lv_at hl 2 rfl) ?_
  refine lv_icmp_ne (tgt := 7) G.1 G.2.1 d_Mo_joined_2 (by decide) (fun c2 => ?_) (fun c2 => ?_)
  · skip
    have h := h.1 c2
    refine lv_iload_n G.1 G.2.1 d_Mo_joined_7 rfl (lv_at hl 1 rfl) ?_
    refine ucSi (As := [.int v1]) (rest := []) G hP hD hS (cu_Mo_isRef l D g ad y _ σ v1 H.size  h) w9_Mo_isRef q3761 ⟨Nat.le_of_ble_eq_true rfl, Nat.le_of_ble_eq_true rfl⟩ rfl rfl hl.1 rfl (Nat.le_of_ble_eq_true rfl) rfl ⟨Nat.le_refl _, Nat.le_refl _⟩ d_Mo_joined_8 (fun r_1 s_2 H locs h hP hD hS => ?_)
    have J_21 : ∀ (s_j21 : St) (H : Heap) (locs : List Loc), wj_Mo_joined_21 y Post a0 s_j21 → va_P D CL (ws g ad y s_j21) H → va_D A (ws g ad y s_j21) → va_S A s.heap H locs → ∀ ls, lv_has ls 6 [] → W p l e ru_Mo_joined s m args below meth c H locs 0 0 Q (F0 m 21 ls []) := by
      intro s_j21 H locs h hP hD hS ls hl
      unfold wj_Mo_joined_21 at h
      refine lv_iconst (v := 0) G.1 G.2.1 d_Mo_joined_21 (by decide) ?_
      exact hret _ _ _ _ _ _ _ ls h hP hD hS (Nat.le_refl _) (Nat.le_refl _) d_Mo_joined_22
    refine lv_if_eq (tgt := 21) G.1 G.2.1 d_Mo_joined_11 (by decide) (fun c11 => ?_) (fun c11 => ?_)
    · skip
      have h := h.1 c11
      exact J_21 s_2 H locs h hP hD hS ls (lv_sub hl [] rfl)
    · skip
      have h := h.2 c11
      refine lv_iload_n G.1 G.2.1 d_Mo_joined_14 rfl (lv_at hl 2 rfl) ?_
      refine ucSi (As := [.int v2]) (rest := []) G hP hD hS (cu_Mo_isRef l D g ad y _ s_2 v2 H.size  h) w9_Mo_isRef q3761 ⟨Nat.le_of_ble_eq_true rfl, Nat.le_of_ble_eq_true rfl⟩ rfl rfl hl.1 rfl (Nat.le_of_ble_eq_true rfl) rfl ⟨Nat.le_refl _, Nat.le_refl _⟩ d_Mo_joined_15 (fun r_3 s_4 H locs h hP hD hS => ?_)
      refine lv_if_ne (tgt := 23) G.1 G.2.1 d_Mo_joined_18 (by decide) (fun c18 => ?_) (fun c18 => ?_)
      · skip
        have h := h.1 c18
        refine lv_iload_n G.1 G.2.1 d_Mo_joined_23 rfl (lv_at hl 1 rfl) ?_
        refine lv_iconst (v := 3) G.1 G.2.1 d_Mo_joined_24 (by decide) ?_
        have J_33 : ∀ (s_j33 : St) (x1j33 : Int32) (x2j33 : Int32) (H : Heap) (locs : List Loc), wj_Mo_joined_33 y Post a0 s_j33 x1j33 x2j33 → va_P D CL (ws g ad y s_j33) H → va_D A (ws g ad y s_j33) → va_S A s.heap H locs → ∀ ls, lv_has ls 6 [(1, .int x1j33), (2, .int x2j33)] → W p l e ru_Mo_joined s m args below meth c H locs 0 0 Q (F0 m 33 ls []) := by
          intro s_j33 x1j33 x2j33 H locs h hP hD hS ls hl
          unfold wj_Mo_joined_33 at h
          refine lv_iload_n G.1 G.2.1 d_Mo_joined_33 rfl (lv_at hl 0 rfl) ?_
          refine lv_iconst (v := 3) G.1 G.2.1 d_Mo_joined_34 (by decide) ?_
          have J_43 : ∀ (s_j43 : St) (z0j43 : Int32) (H : Heap) (locs : List Loc), wj_Mo_joined_43 y Post a0 s_j43 z0j43 → va_P D CL (ws g ad y s_j43) H → va_D A (ws g ad y s_j43) → va_S A s.heap H locs → ∀ ls, lv_has ls 6 [] → W p l e ru_Mo_joined s m args below meth c H locs 0 0 Q (F0 m 43 ls [.int z0j43]) := by
            intro s_j43 z0j43 H locs h hP hD hS ls hl
            unfold wj_Mo_joined_43 at h
            exact hret _ _ _ _ _ _ _ ls h hP hD hS (Nat.le_refl _) (Nat.le_refl _) d_Mo_joined_43
          refine lv_icmp_ne (tgt := 42) G.1 G.2.1 d_Mo_joined_35 (by decide) (fun c35 => ?_) (fun c35 => ?_)
          · skip
            have h := h.1 c35
            refine lv_iload_n G.1 G.2.1 d_Mo_joined_42 rfl (lv_at hl 0 rfl) ?_
            exact J_43 s_j33 x1j33 H locs h hP hD hS ls (lv_sub hl [] rfl)
          · skip
            have h := h.2 c35
            refine lv_iload_n G.1 G.2.1 d_Mo_joined_38 rfl (lv_at hl 1 rfl) ?_
            refine lv_goto (tgt := 43) G.1 G.2.1 d_Mo_joined_39 (by decide) ?_
            exact J_43 s_j33 x2j33 H locs h hP hD hS ls (lv_sub hl [] rfl)
        refine W.eq (g2 := F0 m 25 ls [.int 3, .int v1]) rfl ?_
        refine lv_icmp_eq (tgt := 33) G.1 G.2.1 d_Mo_joined_25 (by decide) (fun c25 => ?_) (fun c25 => ?_)
        · skip
          have h := h.1 c25
          exact J_33 s_4 v1 v2 H locs h hP hD hS ls (lv_sub hl [1, 2] rfl)
        · skip
          have h := h.2 c25
          refine lv_iload_n G.1 G.2.1 d_Mo_joined_28 rfl (lv_at hl 2 rfl) ?_
          refine lv_iconst (v := 3) G.1 G.2.1 d_Mo_joined_29 (by decide) ?_
          refine lv_icmp_ne (tgt := 44) G.1 G.2.1 d_Mo_joined_30 (by decide) (fun c30 => ?_) (fun c30 => ?_)
          · skip
            have h := h.1 c30
            refine lv_iload_n G.1 G.2.1 d_Mo_joined_44 rfl (lv_at hl 1 rfl) ?_
            refine lv_iconst (v := 2) G.1 G.2.1 d_Mo_joined_45 (by decide) ?_
            have J_54 : ∀ (s_j54 : St) (H : Heap) (locs : List Loc), wj_Mo_joined_54 y Post a0 s_j54 → va_P D CL (ws g ad y s_j54) H → va_D A (ws g ad y s_j54) → va_S A s.heap H locs → ∀ ls, lv_has ls 6 [(0, .ref (ad a0))] → W p l e ru_Mo_joined s m args below meth c H locs 0 0 Q (F0 m 54 ls []) := by
              intro s_j54 H locs h hP hD hS ls hl
              unfold wj_Mo_joined_54 at h
              refine lv_bipush (v := 16) G.1 G.2.1 d_Mo_joined_54 (by decide) ?_
              refine lv_aload_n G.1 G.2.1 d_Mo_joined_56 rfl (lv_at hl 0 rfl) ?_
              refine ugf (v := .int (sV s_j54 a0 8)) G hP h_a0 iMo rfl 8 (by decide) rfl q3072 rfl rfl d_Mo_joined_57 ?_
              refine lv_iadd G.1 G.2.1 d_Mo_joined_60 ?_
              exact hret _ _ _ _ _ _ _ ls h hP hD hS (Nat.le_refl _) (Nat.le_refl _) d_Mo_joined_61
            refine lv_icmp_eq (tgt := 54) G.1 G.2.1 d_Mo_joined_46 (by decide) (fun c46 => ?_) (fun c46 => ?_)
            · skip
              have h := h.1 c46
              exact J_54 s_4 H locs h hP hD hS ls (lv_sub hl [0] rfl)
            · skip
              have h := h.2 c46
              refine lv_iload_n G.1 G.2.1 d_Mo_joined_49 rfl (lv_at hl 2 rfl) ?_
              refine lv_iconst (v := 2) G.1 G.2.1 d_Mo_joined_50 (by decide) ?_
              refine lv_icmp_ne (tgt := 62) G.1 G.2.1 d_Mo_joined_51 (by decide) (fun c51 => ?_) (fun c51 => ?_)
              · skip
                have h := h.1 c51
                refine lv_aload_n G.1 G.2.1 d_Mo_joined_62 rfl (lv_at hl 0 rfl) ?_
                refine lv_iload_n G.1 G.2.1 d_Mo_joined_63 rfl (lv_at hl 1 rfl) ?_
                refine W.eq (g2 := F0 m 64 ls [.int v1, .ref (ad a0)]) rfl ?_
                refine lv_bipush (v := 16) G.1 G.2.1 d_Mo_joined_64 (by decide) ?_
                refine lv_isub G.1 G.2.1 d_Mo_joined_66 ?_
                refine ucVi (As := [.int (v1 - 16)]) (rest := []) G hP hD hS (cu_Mo_classOf l D g ad y _ s_4 a0 (v1 - 16) H.size h_a0 h) w9_Mo_classOf q3571 ⟨Nat.le_of_ble_eq_true rfl, Nat.le_of_ble_eq_true rfl⟩ rfl rfl h_a0 (q := (RMo, TMo, 131)) rfl rfl hl.1 rfl (Nat.le_of_ble_eq_true rfl) rfl ⟨Nat.le_refl _, Nat.le_refl _⟩ d_Mo_joined_67 (fun r_5 s_6 H locs h hP hD hS => ?_)
                refine lv_istore_n (lv' := [(3, .int r_5), (0, .ref (ad a0)), (1, .int v1), (2, .int v2)]) G.1 G.2.1 d_Mo_joined_70 rfl hl (by decide) rfl (fun ls hl => ?_)
                refine lv_aload_n G.1 G.2.1 d_Mo_joined_71 rfl (lv_at hl 1 rfl) ?_
                refine lv_iload_n G.1 G.2.1 d_Mo_joined_72 rfl (lv_at hl 3 rfl) ?_
                refine lv_bipush (v := 16) G.1 G.2.1 d_Mo_joined_73 (by decide) ?_
                refine lv_isub G.1 G.2.1 d_Mo_joined_75 ?_
                refine ucVi (As := [.int (v2 - 16)]) (rest := []) G hP hD hS (cu_Mo_classOf l D g ad y _ s_6 a0 (v2 - 16) H.size h_a0 h) w9_Mo_classOf q3571 ⟨Nat.le_of_ble_eq_true rfl, Nat.le_of_ble_eq_true rfl⟩ rfl rfl h_a0 (q := (RMo, TMo, 131)) rfl rfl hl.1 rfl (Nat.le_of_ble_eq_true rfl) rfl ⟨Nat.le_refl _, Nat.le_refl _⟩ d_Mo_joined_76 (fun r_7 s_8 H locs h hP hD hS => ?_)
                refine lv_istore (lv' := [(4, .int r_7), (3, .int r_5), (0, .ref (ad a0)), (1, .int v1), (2, .int v2)]) G.1 G.2.1 d_Mo_joined_79 hl (by decide) rfl (fun ls hl => ?_)
                refine lv_iconst (v := 0) G.1 G.2.1 d_Mo_joined_81 (by decide) ?_
                refine lv_istore (lv' := [(5, .int 0), (4, .int r_7), (3, .int r_5), (0, .ref (ad a0)), (1, .int v1), (2, .int v2)]) G.1 G.2.1 d_Mo_joined_82 hl (by decide) rfl (fun ls hl => ?_)
                unfold wl_Mo_joined_84 at h
                obtain ⟨I_84, μ_84, hI_84, hB_84⟩ := h
                have L_84 : ∀ (n_84 : Nat) (s_h84 : St) (x3h84 : Int32) (x4h84 : Int32) (x5h84 : Int32), μ_84 s_h84 x3h84 x4h84 x5h84 < n_84 → I_84 s_h84 x3h84 x4h84 x5h84 → ∀ (H : Heap) (locs : List Loc), va_P D CL (ws g ad y s_h84) H → va_D A (ws g ad y s_h84) → va_S A s.heap H locs → ∀ ls, lv_has ls 6 [(0, .ref (ad a0)), (3, .int x3h84), (4, .int x4h84), (5, .int x5h84)] → W p l e ru_Mo_joined s m args below meth c H locs 0 0 Q (F0 m 84 ls []) := by
                  intro n_84
                  induction n_84 with
                  | zero => intro s_h84 x3h84 x4h84 x5h84 hμ; exact absurd hμ (Nat.not_lt_zero _)
                  | succ n_84 ih_84 =>
                    intro s_h84 x3h84 x4h84 x5h84 hμ_84 hJ H locs hP hD hS ls hl
                    obtain ⟨K_84, hK_84, h⟩ : ∃ K : St → Int32 → Int32 → Int32 → Prop, (∀ z (t0 : Int32) (t1 : Int32) (t2 : Int32), K z t0 t1 t2 → I_84 z t0 t1 t2 ∧ μ_84 z t0 t1 t2 < μ_84 s_h84 x3h84 x4h84 x5h84) ∧ wb_Mo_joined_84 y Post K a0 s_h84 x3h84 x4h84 x5h84 := ⟨_, fun _ _ _ _ h => h, hB_84 s_h84 x3h84 x4h84 x5h84 hJ⟩
                    unfold wb_Mo_joined_84 at h
                    refine lv_iload_n G.1 G.2.1 d_Mo_joined_84 rfl (lv_at hl 1 rfl) ?_
                    have J_135 : ∀ (s_j135 : St) (H : Heap) (locs : List Loc), wj_Mo_joined_135 y Post a0 s_j135 → va_P D CL (ws g ad y s_j135) H → va_D A (ws g ad y s_j135) → va_S A s.heap H locs → ∀ ls, lv_has ls 6 [(0, .ref (ad a0))] → W p l e ru_Mo_joined s m args below meth c H locs 0 0 Q (F0 m 135 ls []) := by
                      intro s_j135 H locs h hP hD hS ls hl
                      unfold wj_Mo_joined_135 at h
                      refine lv_bipush (v := 16) G.1 G.2.1 d_Mo_joined_135 (by decide) ?_
                      refine lv_aload_n G.1 G.2.1 d_Mo_joined_137 rfl (lv_at hl 0 rfl) ?_
                      refine ugf (v := .int (sV s_j135 a0 8)) G hP h_a0 iMo rfl 8 (by decide) rfl q3072 rfl rfl d_Mo_joined_138 ?_
                      refine lv_iadd G.1 G.2.1 d_Mo_joined_141 ?_
                      exact hret _ _ _ _ _ _ _ ls h hP hD hS (Nat.le_refl _) (Nat.le_refl _) d_Mo_joined_142
                    refine lv_if_lt (tgt := 135) G.1 G.2.1 d_Mo_joined_85 (by decide) (fun c85 => ?_) (fun c85 => ?_)
                    · skip
                      have h := h.1 c85
                      exact J_135 s_h84 H locs h hP hD hS ls (lv_sub hl [0] rfl)
                    · skip
                      have h := h.2 c85
                      refine lv_iload G.1 G.2.1 d_Mo_joined_88 (lv_at hl 2 rfl) ?_
                      refine lv_if_lt (tgt := 135) G.1 G.2.1 d_Mo_joined_90 (by decide) (fun c90 => ?_) (fun c90 => ?_)
                      · skip
                        have h := h.1 c90
                        exact J_135 s_h84 H locs h hP hD hS ls (lv_sub hl [0] rfl)
                      · skip
                        have h := h.2 c90
                        refine lv_iload G.1 G.2.1 d_Mo_joined_93 (lv_at hl 3 rfl) ?_
                        refine lv_bipush (v := 51) G.1 G.2.1 d_Mo_joined_95 (by decide) ?_
                        refine lv_icmp_ge (tgt := 135) G.1 G.2.1 d_Mo_joined_97 (by decide) (fun c97 => ?_) (fun c97 => ?_)
                        · skip
                          have h := h.1 c97
                          exact J_135 s_h84 H locs h hP hD hS ls (lv_sub hl [0] rfl)
                        · skip
                          have h := h.2 c97
                          refine lv_aload_n G.1 G.2.1 d_Mo_joined_100 rfl (lv_at hl 0 rfl) ?_
                          refine lv_iload_n G.1 G.2.1 d_Mo_joined_101 rfl (lv_at hl 1 rfl) ?_
                          refine lv_iload G.1 G.2.1 d_Mo_joined_102 (lv_at hl 2 rfl) ?_
                          refine ucVi (As := [.int x3h84, .int x4h84]) (rest := []) G hP hD hS (cu_Mo_isUp l D g ad y _ s_h84 a0 x3h84 x4h84 H.size h_a0 h) w9_Mo_isUp q4141 ⟨Nat.le_of_ble_eq_true rfl, Nat.le_of_ble_eq_true rfl⟩ rfl rfl h_a0 (q := (RMo, TMo, 131)) rfl rfl hl.1 rfl (Nat.le_of_ble_eq_true rfl) rfl ⟨Nat.le_refl _, Nat.le_refl _⟩ d_Mo_joined_104 (fun r_9 s_10 H locs h hP hD hS => ?_)
                          refine W.eq (g2 := F0 m 107 ls [.int r_9]) rfl ?_
                          refine lv_if_eq (tgt := 123) G.1 G.2.1 d_Mo_joined_107 (by decide) (fun c107 => ?_) (fun c107 => ?_)
                          · skip
                            have h := h.1 c107
                            refine lv_aload_n G.1 G.2.1 d_Mo_joined_123 rfl (lv_at hl 0 rfl) ?_
                            refine lv_iload_n G.1 G.2.1 d_Mo_joined_124 rfl (lv_at hl 1 rfl) ?_
                            refine ucVi (As := [.int x3h84]) (rest := []) G hP hD hS (cu_Mo_parentOf l D g ad y _ s_10 a0 x3h84 H.size h_a0 h) w9_Mo_parentOf q3689 ⟨Nat.le_of_ble_eq_true rfl, Nat.le_of_ble_eq_true rfl⟩ rfl rfl h_a0 (q := (RMo, TMo, 131)) rfl rfl hl.1 rfl (Nat.le_of_ble_eq_true rfl) rfl ⟨Nat.le_refl _, Nat.le_refl _⟩ d_Mo_joined_125 (fun r_11 s_12 H locs h hP hD hS => ?_)
                            refine lv_istore_n (lv' := [(3, .int r_11), (0, .ref (ad a0)), (4, .int x4h84), (5, .int x5h84)]) G.1 G.2.1 d_Mo_joined_128 rfl hl (by decide) rfl (fun ls hl => ?_)
                            refine lv_iinc (v := x5h84 + 1) (lv' := [(5, .int (x5h84 + 1)), (3, .int r_11), (0, .ref (ad a0)), (4, .int x4h84)]) G.1 G.2.1 d_Mo_joined_129 hl (k := 3) rfl rfl (by decide) rfl (fun ls hl => ?_)
                            refine lv_goto (tgt := 84) G.1 G.2.1 d_Mo_joined_132 (by decide) ?_
                            have h := hK_84 s_12 r_11 x4h84 (x5h84 + 1) h
                            exact ih_84 s_12 r_11 x4h84 (x5h84 + 1) (Nat.lt_of_lt_of_le h.2 (Nat.le_of_lt_succ hμ_84)) h.1 H locs hP hD hS ls (lv_sub hl [2, 1, 3, 0] rfl)
                          · skip
                            have h := h.2 c107
                            refine lv_bipush (v := 16) G.1 G.2.1 d_Mo_joined_110 (by decide) ?_
                            refine lv_aload_n G.1 G.2.1 d_Mo_joined_112 rfl (lv_at hl 0 rfl) ?_
                            obtain ⟨b_13, e_14, c_15, h⟩ := h
                            refine ugf (v := .ref (ad b_13)) G hP h_a0 iMo rfl 45 (by decide) rfl q3109 rfl (by show va_rf ((sO s_10 a0 45).map ad) = _; rw [e_14]; rfl) d_Mo_joined_113 ?_
                            refine ugfN (v := .ref (yP y b_13 3)) G hP c_15 iMw rfl 3 (by decide) rfl q2710 rfl rfl d_Mo_joined_116 ?_
                            refine lv_iload_n G.1 G.2.1 d_Mo_joined_119 rfl (lv_at hl 1 rfl) ?_
                            refine uiald G hP (kdp c_15 rfl) (typ c_15 rfl) h d_Mo_joined_120 (fun x_16 h => ?_)
                            refine lv_iadd G.1 G.2.1 d_Mo_joined_121 ?_
                            exact hret _ _ _ _ _ _ _ ls h hP hD hS (Nat.le_refl _) (Nat.le_refl _) d_Mo_joined_122
                exact L_84 _ s_8 r_5 r_7 0 (Nat.lt_succ_self _) hI_84 H locs hP hD hS ls (lv_sub hl [3, 2, 1, 0] rfl)
              · skip
                have h := h.2 c51
                exact J_54 s_4 H locs h hP hD hS ls (lv_sub hl [0] rfl)
          · skip
            have h := h.2 c30
            exact J_33 s_4 v1 v2 H locs h hP hD hS ls (lv_sub hl [1, 2] rfl)
      · skip
        have h := h.2 c18
        exact J_21 s_4 H locs h hP hD hS ls (lv_sub hl [] rfl)
  · skip
    have h := h.2 c2
    refine lv_iload_n G.1 G.2.1 d_Mo_joined_5 rfl (lv_at hl 1 rfl) ?_
    exact hret _ _ _ _ _ _ _ ls h hP hD hS (Nat.le_refl _) (Nat.le_refl _) d_Mo_joined_6
theorem q3167 : Cond.fieldLink "ClassWorksModel" 1266 "ClassWorksModel" "changes" "Z" ∈ lw_ok := lw_okmem (List.mem_of_getElem? (i := 3167) (by decide +kernel)) rfl
theorem q3170 : Cond.fieldLink "ClassWorksModel" 347 "ClassWorksModel" "joinedPile" "[I" ∈ lw_ok := lw_okmem (List.mem_of_getElem? (i := 3170) (by decide +kernel)) rfl
theorem q3169 : Cond.fieldLink "ClassWorksModel" 344 "ClassWorksModel" "joinedLocals" "[I" ∈ lw_ok := lw_okmem (List.mem_of_getElem? (i := 3169) (by decide +kernel)) rfl
theorem q4137 : Cond.methodLink "ClassWorksModel" 1279 y_Mo_joined ∈ lw_ok := lw_okmem (List.mem_of_getElem? (i := 4137) (by decide +kernel)) rfl
theorem q4140 : Cond.code y_Mo_joined b_Mo_joined 6 (some .int) ∈ lw_ok := lw_okmem (List.mem_of_getElem? (i := 4140) (by decide +kernel)) rfl
theorem q4139 : Cond.instanceMethod y_Mo_joined ∈ lw_ok := lw_okmem (List.mem_of_getElem? (i := 4139) (by decide +kernel)) rfl
theorem q310 : Cond.selects y_Mo_joined.cls y_Mo_joined y_Mo_joined ∈ lw_ok := lw_okmem (List.mem_of_getElem? (i := 310) (by decide +kernel)) rfl
theorem w9_Mo_joined : CWv y_Mo_joined b_Mo_joined 6 (some .int) 2 ∧ Cond.instanceMethod y_Mo_joined ∈ lw_ok ∧ Cond.selects y_Mo_joined.cls y_Mo_joined y_Mo_joined ∈ lw_ok := ⟨⟨q4140, q348, by decide +kernel, by decide +kernel, by decide +kernel⟩, q4139, q310⟩
def y_Mo_join : MethodName := ⟨"ClassWorksModel", "join", "(I[II)I"⟩
abbrev b_Mo_join : ByteArray := prog_14_method_176_code
theorem d_Mo_join_0 : decode b_Mo_join 0 = .ok (.aload_n 0, 1) := by decide +kernel
theorem d_Mo_join_1 : decode b_Mo_join 1 = .ok (.getfield 329, 3) := by decide +kernel
theorem d_Mo_join_4 : decode b_Mo_join 4 = .ok (.iload_n 1, 1) := by decide +kernel
theorem d_Mo_join_5 : decode b_Mo_join 5 = .ok (.baload, 1) := by decide +kernel
theorem d_Mo_join_6 : decode b_Mo_join 6 = .ok (.ifCond .ne 58, 3) := by decide +kernel
theorem d_Mo_join_9 : decode b_Mo_join 9 = .ok (.aload_n 0, 1) := by decide +kernel
theorem d_Mo_join_10 : decode b_Mo_join 10 = .ok (.getfield 329, 3) := by decide +kernel
theorem d_Mo_join_13 : decode b_Mo_join 13 = .ok (.iload_n 1, 1) := by decide +kernel
theorem d_Mo_join_14 : decode b_Mo_join 14 = .ok (.iconst 1, 1) := by decide +kernel
theorem d_Mo_join_15 : decode b_Mo_join 15 = .ok (.bastore, 1) := by decide +kernel
theorem d_Mo_join_16 : decode b_Mo_join 16 = .ok (.aload_n 0, 1) := by decide +kernel
theorem d_Mo_join_17 : decode b_Mo_join 17 = .ok (.getfield 332, 3) := by decide +kernel
theorem d_Mo_join_20 : decode b_Mo_join 20 = .ok (.iload_n 1, 1) := by decide +kernel
theorem d_Mo_join_21 : decode b_Mo_join 21 = .ok (.iload_n 3, 1) := by decide +kernel
theorem d_Mo_join_22 : decode b_Mo_join 22 = .ok (.iastore, 1) := by decide +kernel
theorem d_Mo_join_23 : decode b_Mo_join 23 = .ok (.aload_n 0, 1) := by decide +kernel
theorem d_Mo_join_24 : decode b_Mo_join 24 = .ok (.getfield 305, 3) := by decide +kernel
theorem d_Mo_join_27 : decode b_Mo_join 27 = .ok (.iconst 0, 1) := by decide +kernel
theorem d_Mo_join_28 : decode b_Mo_join 28 = .ok (.aload_n 0, 1) := by decide +kernel
theorem d_Mo_join_29 : decode b_Mo_join 29 = .ok (.getfield 335, 3) := by decide +kernel
theorem d_Mo_join_32 : decode b_Mo_join 32 = .ok (.bipush 20, 2) := by decide +kernel
theorem d_Mo_join_34 : decode b_Mo_join 34 = .ok (.iload_n 1, 1) := by decide +kernel
theorem d_Mo_join_35 : decode b_Mo_join 35 = .ok (.imul, 1) := by decide +kernel
theorem d_Mo_join_36 : decode b_Mo_join 36 = .ok (.aload_n 0, 1) := by decide +kernel
theorem d_Mo_join_37 : decode b_Mo_join 37 = .ok (.getfield 1254, 3) := by decide +kernel
theorem d_Mo_join_40 : decode b_Mo_join 40 = .ok (.invokestatic 11, 3) := by decide +kernel
theorem d_Mo_join_43 : decode b_Mo_join 43 = .ok (.aload_n 2, 1) := by decide +kernel
theorem d_Mo_join_44 : decode b_Mo_join 44 = .ok (.iconst 0, 1) := by decide +kernel
theorem d_Mo_join_45 : decode b_Mo_join 45 = .ok (.aload_n 0, 1) := by decide +kernel
theorem d_Mo_join_46 : decode b_Mo_join 46 = .ok (.getfield 338, 3) := by decide +kernel
theorem d_Mo_join_49 : decode b_Mo_join 49 = .ok (.bipush 28, 2) := by decide +kernel
theorem d_Mo_join_51 : decode b_Mo_join 51 = .ok (.iload_n 1, 1) := by decide +kernel
theorem d_Mo_join_52 : decode b_Mo_join 52 = .ok (.imul, 1) := by decide +kernel
theorem d_Mo_join_53 : decode b_Mo_join 53 = .ok (.iload_n 3, 1) := by decide +kernel
theorem d_Mo_join_54 : decode b_Mo_join 54 = .ok (.invokestatic 11, 3) := by decide +kernel
theorem d_Mo_join_57 : decode b_Mo_join 57 = .ok (.aload_n 0, 1) := by decide +kernel
theorem d_Mo_join_58 : decode b_Mo_join 58 = .ok (.iconst 1, 1) := by decide +kernel
theorem d_Mo_join_59 : decode b_Mo_join 59 = .ok (.putfield 1266, 3) := by decide +kernel
theorem d_Mo_join_62 : decode b_Mo_join 62 = .ok (.iconst 0, 1) := by decide +kernel
theorem d_Mo_join_63 : decode b_Mo_join 63 = .ok (.ireturn, 1) := by decide +kernel
theorem d_Mo_join_64 : decode b_Mo_join 64 = .ok (.aload_n 0, 1) := by decide +kernel
theorem d_Mo_join_65 : decode b_Mo_join 65 = .ok (.getfield 332, 3) := by decide +kernel
theorem d_Mo_join_68 : decode b_Mo_join 68 = .ok (.iload_n 1, 1) := by decide +kernel
theorem d_Mo_join_69 : decode b_Mo_join 69 = .ok (.iaload, 1) := by decide +kernel
theorem d_Mo_join_70 : decode b_Mo_join 70 = .ok (.iload_n 3, 1) := by decide +kernel
theorem d_Mo_join_71 : decode b_Mo_join 71 = .ok (.if_icmp .eq 6, 3) := by decide +kernel
theorem d_Mo_join_74 : decode b_Mo_join 74 = .ok (.bipush 37, 2) := by decide +kernel
theorem d_Mo_join_76 : decode b_Mo_join 76 = .ok (.ireturn, 1) := by decide +kernel
theorem d_Mo_join_77 : decode b_Mo_join 77 = .ok (.iconst 0, 1) := by decide +kernel
theorem d_Mo_join_78 : decode b_Mo_join 78 = .ok (.istore 4, 2) := by decide +kernel
theorem d_Mo_join_80 : decode b_Mo_join 80 = .ok (.iload 4, 2) := by decide +kernel
theorem d_Mo_join_82 : decode b_Mo_join 82 = .ok (.aload_n 0, 1) := by decide +kernel
theorem d_Mo_join_83 : decode b_Mo_join 83 = .ok (.getfield 1254, 3) := by decide +kernel
theorem d_Mo_join_86 : decode b_Mo_join 86 = .ok (.if_icmp .ge 52, 3) := by decide +kernel
theorem d_Mo_join_89 : decode b_Mo_join 89 = .ok (.aload_n 0, 1) := by decide +kernel
theorem d_Mo_join_90 : decode b_Mo_join 90 = .ok (.aload_n 0, 1) := by decide +kernel
theorem d_Mo_join_91 : decode b_Mo_join 91 = .ok (.getfield 335, 3) := by decide +kernel
theorem d_Mo_join_94 : decode b_Mo_join 94 = .ok (.bipush 20, 2) := by decide +kernel
theorem d_Mo_join_96 : decode b_Mo_join 96 = .ok (.iload_n 1, 1) := by decide +kernel
theorem d_Mo_join_97 : decode b_Mo_join 97 = .ok (.imul, 1) := by decide +kernel
theorem d_Mo_join_98 : decode b_Mo_join 98 = .ok (.iload 4, 2) := by decide +kernel
theorem d_Mo_join_100 : decode b_Mo_join 100 = .ok (.iadd, 1) := by decide +kernel
theorem d_Mo_join_101 : decode b_Mo_join 101 = .ok (.iaload, 1) := by decide +kernel
theorem d_Mo_join_102 : decode b_Mo_join 102 = .ok (.aload_n 0, 1) := by decide +kernel
theorem d_Mo_join_103 : decode b_Mo_join 103 = .ok (.getfield 305, 3) := by decide +kernel
theorem d_Mo_join_106 : decode b_Mo_join 106 = .ok (.iload 4, 2) := by decide +kernel
theorem d_Mo_join_108 : decode b_Mo_join 108 = .ok (.iaload, 1) := by decide +kernel
theorem d_Mo_join_109 : decode b_Mo_join 109 = .ok (.invokevirtual 1279, 3) := by decide +kernel
theorem d_Mo_join_112 : decode b_Mo_join 112 = .ok (.istore 5, 2) := by decide +kernel
theorem d_Mo_join_114 : decode b_Mo_join 114 = .ok (.aload_n 0, 1) := by decide +kernel
theorem d_Mo_join_115 : decode b_Mo_join 115 = .ok (.getfield 344, 3) := by decide +kernel
theorem d_Mo_join_118 : decode b_Mo_join 118 = .ok (.iload 4, 2) := by decide +kernel
theorem d_Mo_join_120 : decode b_Mo_join 120 = .ok (.iload 5, 2) := by decide +kernel
theorem d_Mo_join_122 : decode b_Mo_join 122 = .ok (.ifCond .ne 7, 3) := by decide +kernel
theorem d_Mo_join_125 : decode b_Mo_join 125 = .ok (.iconst 4, 1) := by decide +kernel
theorem d_Mo_join_126 : decode b_Mo_join 126 = .ok (.goto 5, 3) := by decide +kernel
theorem d_Mo_join_129 : decode b_Mo_join 129 = .ok (.iload 5, 2) := by decide +kernel
theorem d_Mo_join_131 : decode b_Mo_join 131 = .ok (.iastore, 1) := by decide +kernel
theorem d_Mo_join_132 : decode b_Mo_join 132 = .ok (.iinc 4 1, 3) := by decide +kernel
theorem d_Mo_join_135 : decode b_Mo_join 135 = .ok (.goto (-55), 3) := by decide +kernel
theorem d_Mo_join_138 : decode b_Mo_join 138 = .ok (.iconst 0, 1) := by decide +kernel
theorem d_Mo_join_139 : decode b_Mo_join 139 = .ok (.istore 4, 2) := by decide +kernel
theorem d_Mo_join_141 : decode b_Mo_join 141 = .ok (.iload 4, 2) := by decide +kernel
theorem d_Mo_join_143 : decode b_Mo_join 143 = .ok (.iload_n 3, 1) := by decide +kernel
theorem d_Mo_join_144 : decode b_Mo_join 144 = .ok (.if_icmp .ge 49, 3) := by decide +kernel
theorem d_Mo_join_147 : decode b_Mo_join 147 = .ok (.aload_n 0, 1) := by decide +kernel
theorem d_Mo_join_148 : decode b_Mo_join 148 = .ok (.getfield 347, 3) := by decide +kernel
theorem d_Mo_join_151 : decode b_Mo_join 151 = .ok (.iload 4, 2) := by decide +kernel
theorem d_Mo_join_153 : decode b_Mo_join 153 = .ok (.aload_n 0, 1) := by decide +kernel
theorem d_Mo_join_154 : decode b_Mo_join 154 = .ok (.aload_n 0, 1) := by decide +kernel
theorem d_Mo_join_155 : decode b_Mo_join 155 = .ok (.getfield 338, 3) := by decide +kernel
theorem d_Mo_join_158 : decode b_Mo_join 158 = .ok (.bipush 28, 2) := by decide +kernel
theorem d_Mo_join_160 : decode b_Mo_join 160 = .ok (.iload_n 1, 1) := by decide +kernel
theorem d_Mo_join_161 : decode b_Mo_join 161 = .ok (.imul, 1) := by decide +kernel
theorem d_Mo_join_162 : decode b_Mo_join 162 = .ok (.iload 4, 2) := by decide +kernel
theorem d_Mo_join_164 : decode b_Mo_join 164 = .ok (.iadd, 1) := by decide +kernel
theorem d_Mo_join_165 : decode b_Mo_join 165 = .ok (.iaload, 1) := by decide +kernel
theorem d_Mo_join_166 : decode b_Mo_join 166 = .ok (.aload_n 2, 1) := by decide +kernel
theorem d_Mo_join_167 : decode b_Mo_join 167 = .ok (.iload 4, 2) := by decide +kernel
theorem d_Mo_join_169 : decode b_Mo_join 169 = .ok (.iaload, 1) := by decide +kernel
theorem d_Mo_join_170 : decode b_Mo_join 170 = .ok (.invokevirtual 1279, 3) := by decide +kernel
theorem d_Mo_join_173 : decode b_Mo_join 173 = .ok (.iastore, 1) := by decide +kernel
theorem d_Mo_join_174 : decode b_Mo_join 174 = .ok (.aload_n 0, 1) := by decide +kernel
theorem d_Mo_join_175 : decode b_Mo_join 175 = .ok (.getfield 347, 3) := by decide +kernel
theorem d_Mo_join_178 : decode b_Mo_join 178 = .ok (.iload 4, 2) := by decide +kernel
theorem d_Mo_join_180 : decode b_Mo_join 180 = .ok (.iaload, 1) := by decide +kernel
theorem d_Mo_join_181 : decode b_Mo_join 181 = .ok (.ifCond .ne 6, 3) := by decide +kernel
theorem d_Mo_join_184 : decode b_Mo_join 184 = .ok (.bipush 37, 2) := by decide +kernel
theorem d_Mo_join_186 : decode b_Mo_join 186 = .ok (.ireturn, 1) := by decide +kernel
theorem d_Mo_join_187 : decode b_Mo_join 187 = .ok (.iinc 4 1, 3) := by decide +kernel
theorem d_Mo_join_190 : decode b_Mo_join 190 = .ok (.goto (-49), 3) := by decide +kernel
theorem d_Mo_join_193 : decode b_Mo_join 193 = .ok (.iconst 0, 1) := by decide +kernel
theorem d_Mo_join_194 : decode b_Mo_join 194 = .ok (.istore 4, 2) := by decide +kernel
theorem d_Mo_join_196 : decode b_Mo_join 196 = .ok (.iload 4, 2) := by decide +kernel
theorem d_Mo_join_198 : decode b_Mo_join 198 = .ok (.aload_n 0, 1) := by decide +kernel
theorem d_Mo_join_199 : decode b_Mo_join 199 = .ok (.getfield 1254, 3) := by decide +kernel
theorem d_Mo_join_202 : decode b_Mo_join 202 = .ok (.if_icmp .ge 64, 3) := by decide +kernel
theorem d_Mo_join_205 : decode b_Mo_join 205 = .ok (.aload_n 0, 1) := by decide +kernel
theorem d_Mo_join_206 : decode b_Mo_join 206 = .ok (.dup, 1) := by decide +kernel
theorem d_Mo_join_207 : decode b_Mo_join 207 = .ok (.getfield 1266, 3) := by decide +kernel
theorem d_Mo_join_210 : decode b_Mo_join 210 = .ok (.aload_n 0, 1) := by decide +kernel
theorem d_Mo_join_211 : decode b_Mo_join 211 = .ok (.getfield 335, 3) := by decide +kernel
theorem d_Mo_join_214 : decode b_Mo_join 214 = .ok (.bipush 20, 2) := by decide +kernel
theorem d_Mo_join_216 : decode b_Mo_join 216 = .ok (.iload_n 1, 1) := by decide +kernel
theorem d_Mo_join_217 : decode b_Mo_join 217 = .ok (.imul, 1) := by decide +kernel
theorem d_Mo_join_218 : decode b_Mo_join 218 = .ok (.iload 4, 2) := by decide +kernel
theorem d_Mo_join_220 : decode b_Mo_join 220 = .ok (.iadd, 1) := by decide +kernel
theorem d_Mo_join_221 : decode b_Mo_join 221 = .ok (.iaload, 1) := by decide +kernel
theorem d_Mo_join_222 : decode b_Mo_join 222 = .ok (.aload_n 0, 1) := by decide +kernel
theorem d_Mo_join_223 : decode b_Mo_join 223 = .ok (.getfield 344, 3) := by decide +kernel
theorem d_Mo_join_226 : decode b_Mo_join 226 = .ok (.iload 4, 2) := by decide +kernel
theorem d_Mo_join_228 : decode b_Mo_join 228 = .ok (.iaload, 1) := by decide +kernel
theorem d_Mo_join_229 : decode b_Mo_join 229 = .ok (.if_icmp .eq 7, 3) := by decide +kernel
theorem d_Mo_join_232 : decode b_Mo_join 232 = .ok (.iconst 1, 1) := by decide +kernel
theorem d_Mo_join_233 : decode b_Mo_join 233 = .ok (.goto 4, 3) := by decide +kernel
theorem d_Mo_join_236 : decode b_Mo_join 236 = .ok (.iconst 0, 1) := by decide +kernel
theorem d_Mo_join_237 : decode b_Mo_join 237 = .ok (.ior, 1) := by decide +kernel
theorem d_Mo_join_238 : decode b_Mo_join 238 = .ok (.putfield 1266, 3) := by decide +kernel
theorem d_Mo_join_241 : decode b_Mo_join 241 = .ok (.aload_n 0, 1) := by decide +kernel
theorem d_Mo_join_242 : decode b_Mo_join 242 = .ok (.getfield 335, 3) := by decide +kernel
theorem d_Mo_join_245 : decode b_Mo_join 245 = .ok (.bipush 20, 2) := by decide +kernel
theorem d_Mo_join_247 : decode b_Mo_join 247 = .ok (.iload_n 1, 1) := by decide +kernel
theorem d_Mo_join_248 : decode b_Mo_join 248 = .ok (.imul, 1) := by decide +kernel
theorem d_Mo_join_249 : decode b_Mo_join 249 = .ok (.iload 4, 2) := by decide +kernel
theorem d_Mo_join_251 : decode b_Mo_join 251 = .ok (.iadd, 1) := by decide +kernel
theorem d_Mo_join_252 : decode b_Mo_join 252 = .ok (.aload_n 0, 1) := by decide +kernel
theorem d_Mo_join_253 : decode b_Mo_join 253 = .ok (.getfield 344, 3) := by decide +kernel
theorem d_Mo_join_256 : decode b_Mo_join 256 = .ok (.iload 4, 2) := by decide +kernel
theorem d_Mo_join_258 : decode b_Mo_join 258 = .ok (.iaload, 1) := by decide +kernel
theorem d_Mo_join_259 : decode b_Mo_join 259 = .ok (.iastore, 1) := by decide +kernel
theorem d_Mo_join_260 : decode b_Mo_join 260 = .ok (.iinc 4 1, 3) := by decide +kernel
theorem d_Mo_join_263 : decode b_Mo_join 263 = .ok (.goto (-67), 3) := by decide +kernel
theorem d_Mo_join_266 : decode b_Mo_join 266 = .ok (.iconst 0, 1) := by decide +kernel
theorem d_Mo_join_267 : decode b_Mo_join 267 = .ok (.istore 4, 2) := by decide +kernel
theorem d_Mo_join_269 : decode b_Mo_join 269 = .ok (.iload 4, 2) := by decide +kernel
theorem d_Mo_join_271 : decode b_Mo_join 271 = .ok (.iload_n 3, 1) := by decide +kernel
theorem d_Mo_join_272 : decode b_Mo_join 272 = .ok (.if_icmp .ge 64, 3) := by decide +kernel
theorem d_Mo_join_275 : decode b_Mo_join 275 = .ok (.aload_n 0, 1) := by decide +kernel
theorem d_Mo_join_276 : decode b_Mo_join 276 = .ok (.dup, 1) := by decide +kernel
theorem d_Mo_join_277 : decode b_Mo_join 277 = .ok (.getfield 1266, 3) := by decide +kernel
theorem d_Mo_join_280 : decode b_Mo_join 280 = .ok (.aload_n 0, 1) := by decide +kernel
theorem d_Mo_join_281 : decode b_Mo_join 281 = .ok (.getfield 338, 3) := by decide +kernel
theorem d_Mo_join_284 : decode b_Mo_join 284 = .ok (.bipush 28, 2) := by decide +kernel
theorem d_Mo_join_286 : decode b_Mo_join 286 = .ok (.iload_n 1, 1) := by decide +kernel
theorem d_Mo_join_287 : decode b_Mo_join 287 = .ok (.imul, 1) := by decide +kernel
theorem d_Mo_join_288 : decode b_Mo_join 288 = .ok (.iload 4, 2) := by decide +kernel
theorem d_Mo_join_290 : decode b_Mo_join 290 = .ok (.iadd, 1) := by decide +kernel
theorem d_Mo_join_291 : decode b_Mo_join 291 = .ok (.iaload, 1) := by decide +kernel
theorem d_Mo_join_292 : decode b_Mo_join 292 = .ok (.aload_n 0, 1) := by decide +kernel
theorem d_Mo_join_293 : decode b_Mo_join 293 = .ok (.getfield 347, 3) := by decide +kernel
theorem d_Mo_join_296 : decode b_Mo_join 296 = .ok (.iload 4, 2) := by decide +kernel
theorem d_Mo_join_298 : decode b_Mo_join 298 = .ok (.iaload, 1) := by decide +kernel
theorem d_Mo_join_299 : decode b_Mo_join 299 = .ok (.if_icmp .eq 7, 3) := by decide +kernel
theorem d_Mo_join_302 : decode b_Mo_join 302 = .ok (.iconst 1, 1) := by decide +kernel
theorem d_Mo_join_303 : decode b_Mo_join 303 = .ok (.goto 4, 3) := by decide +kernel
theorem d_Mo_join_306 : decode b_Mo_join 306 = .ok (.iconst 0, 1) := by decide +kernel
theorem d_Mo_join_307 : decode b_Mo_join 307 = .ok (.ior, 1) := by decide +kernel
theorem d_Mo_join_308 : decode b_Mo_join 308 = .ok (.putfield 1266, 3) := by decide +kernel
theorem d_Mo_join_311 : decode b_Mo_join 311 = .ok (.aload_n 0, 1) := by decide +kernel
theorem d_Mo_join_312 : decode b_Mo_join 312 = .ok (.getfield 338, 3) := by decide +kernel
theorem d_Mo_join_315 : decode b_Mo_join 315 = .ok (.bipush 28, 2) := by decide +kernel
theorem d_Mo_join_317 : decode b_Mo_join 317 = .ok (.iload_n 1, 1) := by decide +kernel
theorem d_Mo_join_318 : decode b_Mo_join 318 = .ok (.imul, 1) := by decide +kernel
theorem d_Mo_join_319 : decode b_Mo_join 319 = .ok (.iload 4, 2) := by decide +kernel
theorem d_Mo_join_321 : decode b_Mo_join 321 = .ok (.iadd, 1) := by decide +kernel
theorem d_Mo_join_322 : decode b_Mo_join 322 = .ok (.aload_n 0, 1) := by decide +kernel
theorem d_Mo_join_323 : decode b_Mo_join 323 = .ok (.getfield 347, 3) := by decide +kernel
theorem d_Mo_join_326 : decode b_Mo_join 326 = .ok (.iload 4, 2) := by decide +kernel
theorem d_Mo_join_328 : decode b_Mo_join 328 = .ok (.iaload, 1) := by decide +kernel
theorem d_Mo_join_329 : decode b_Mo_join 329 = .ok (.iastore, 1) := by decide +kernel
theorem d_Mo_join_330 : decode b_Mo_join 330 = .ok (.iinc 4 1, 3) := by decide +kernel
theorem d_Mo_join_333 : decode b_Mo_join 333 = .ok (.goto (-64), 3) := by decide +kernel
theorem d_Mo_join_336 : decode b_Mo_join 336 = .ok (.iconst 0, 1) := by decide +kernel
theorem d_Mo_join_337 : decode b_Mo_join 337 = .ok (.ireturn, 1) := by decide +kernel
abbrev ru_Mo_join : Room := { frames := 4, cells := 0, slots := 0, locals := 120 }
def wj_Mo_join_307 (y : Ly) (Post : St → Int32 → Prop) (K_269 : St → Int32 → Int32 → Int32 → Prop) (a0 : Nat) (a2 : Nat) (k2 : Nat) (s_j307 : St) (x1j307 : Int32) (x3j307 : Int32) (x4j307 : Int32) (z1j307 : Int32) (z2j307 : Int32) : Prop := nb (z1j307 ||| z2j307) ∧ xP (uV s_j307 a0 103 (z1j307 ||| z2j307)) (fun s_6 : St => xA y s_6 a0 106 x4j307 (fun x_7 : Int32 => xS y s_6 a0 100 ((28 * x1j307) + x4j307) x_7 (fun s_8 : St => K_269 s_8 x1j307 x3j307 (x4j307 + 1))))
def wb_Mo_join_269 (y : Ly) (Post : St → Int32 → Prop) (K_269 : St → Int32 → Int32 → Int32 → Prop) (a0 : Nat) (a2 : Nat) (k2 : Nat) (s_h269 : St) (x1h269 : Int32) (x3h269 : Int32) (x4h269 : Int32) : Prop := ((x3h269 ≤ x4h269 → Post s_h269 0) ∧ (¬ (x3h269 ≤ x4h269) → xA y s_h269 a0 100 ((28 * x1h269) + x4h269) (fun x_3 : Int32 => xA y s_h269 a0 106 x4h269 (fun x_4 : Int32 => ((x_3 = x_4 → wj_Mo_join_307 y Post K_269 a0 a2 k2 s_h269 x1h269 x3h269 x4h269 (sV s_h269 a0 103) 0) ∧ (¬ (x_3 = x_4) → wj_Mo_join_307 y Post K_269 a0 a2 k2 s_h269 x1h269 x3h269 x4h269 (sV s_h269 a0 103) 1))))))
def wl_Mo_join_269 (y : Ly) (Post : St → Int32 → Prop) (a0 : Nat) (a2 : Nat) (k2 : Nat) (s_h269 : St) (x1h269 : Int32) (x3h269 : Int32) (x4h269 : Int32) : Prop := ∃ (I : St → Int32 → Int32 → Int32 → Prop) (μ : St → Int32 → Int32 → Int32 → Nat), I s_h269 x1h269 x3h269 x4h269 ∧ ∀ (u : St) (t0 : Int32) (t1 : Int32) (t2 : Int32), I u t0 t1 t2 → wb_Mo_join_269 y Post (fun z t0q t1q t2q => I z t0q t1q t2q ∧ μ z t0q t1q t2q < μ u t0 t1 t2) a0 a2 k2 u t0 t1 t2
def wj_Mo_join_237 (y : Ly) (Post : St → Int32 → Prop) (K_196 : St → Int32 → Int32 → Int32 → Prop) (a0 : Nat) (a2 : Nat) (k2 : Nat) (s_j237 : St) (x1j237 : Int32) (x3j237 : Int32) (x4j237 : Int32) (z1j237 : Int32) (z2j237 : Int32) : Prop := nb (z1j237 ||| z2j237) ∧ xP (uV s_j237 a0 103 (z1j237 ||| z2j237)) (fun s_12 : St => xA y s_12 a0 105 x4j237 (fun x_13 : Int32 => xS y s_12 a0 99 ((20 * x1j237) + x4j237) x_13 (fun s_14 : St => K_196 s_14 x1j237 x3j237 (x4j237 + 1))))
def wb_Mo_join_196 (y : Ly) (Post : St → Int32 → Prop) (K_196 : St → Int32 → Int32 → Int32 → Prop) (a0 : Nat) (a2 : Nat) (k2 : Nat) (s_h196 : St) (x1h196 : Int32) (x3h196 : Int32) (x4h196 : Int32) : Prop := (((sV s_h196 a0 102) ≤ x4h196 → wl_Mo_join_269 y Post a0 a2 k2 s_h196 x1h196 x3h196 0) ∧ (¬ ((sV s_h196 a0 102) ≤ x4h196) → xA y s_h196 a0 99 ((20 * x1h196) + x4h196) (fun x_9 : Int32 => xA y s_h196 a0 105 x4h196 (fun x_10 : Int32 => ((x_9 = x_10 → wj_Mo_join_237 y Post K_196 a0 a2 k2 s_h196 x1h196 x3h196 x4h196 (sV s_h196 a0 103) 0) ∧ (¬ (x_9 = x_10) → wj_Mo_join_237 y Post K_196 a0 a2 k2 s_h196 x1h196 x3h196 x4h196 (sV s_h196 a0 103) 1))))))
def wl_Mo_join_196 (y : Ly) (Post : St → Int32 → Prop) (a0 : Nat) (a2 : Nat) (k2 : Nat) (s_h196 : St) (x1h196 : Int32) (x3h196 : Int32) (x4h196 : Int32) : Prop := ∃ (I : St → Int32 → Int32 → Int32 → Prop) (μ : St → Int32 → Int32 → Int32 → Nat), I s_h196 x1h196 x3h196 x4h196 ∧ ∀ (u : St) (t0 : Int32) (t1 : Int32) (t2 : Int32), I u t0 t1 t2 → wb_Mo_join_196 y Post (fun z t0q t1q t2q => I z t0q t1q t2q ∧ μ z t0q t1q t2q < μ u t0 t1 t2) a0 a2 k2 u t0 t1 t2
def wb_Mo_join_141 (y : Ly) (Post : St → Int32 → Prop) (K_141 : St → Int32 → Int32 → Int32 → Prop) (a0 : Nat) (a2 : Nat) (k2 : Nat) (s_h141 : St) (x1h141 : Int32) (x3h141 : Int32) (x4h141 : Int32) : Prop := ((x3h141 ≤ x4h141 → wl_Mo_join_196 y Post a0 a2 k2 s_h141 x1h141 x3h141 0) ∧ (¬ (x3h141 ≤ x4h141) → xA y s_h141 a0 100 ((28 * x1h141) + x4h141) (fun x_15 : Int32 => xA y s_h141 a2 k2 x4h141 (fun x_16 : Int32 => wu_Mo_joined y (fun (s_18 : St) (r_17 : Int32) => xS y s_18 a0 106 x4h141 r_17 (fun s_19 : St => xA y s_19 a0 106 x4h141 (fun x_20 : Int32 => ((¬ x_20 = 0 → K_141 s_19 x1h141 x3h141 (x4h141 + 1)) ∧ (x_20 = 0 → Post s_19 37))))) s_h141 a0 x_15 x_16))))
def wl_Mo_join_141 (y : Ly) (Post : St → Int32 → Prop) (a0 : Nat) (a2 : Nat) (k2 : Nat) (s_h141 : St) (x1h141 : Int32) (x3h141 : Int32) (x4h141 : Int32) : Prop := ∃ (I : St → Int32 → Int32 → Int32 → Prop) (μ : St → Int32 → Int32 → Int32 → Nat), I s_h141 x1h141 x3h141 x4h141 ∧ ∀ (u : St) (t0 : Int32) (t1 : Int32) (t2 : Int32), I u t0 t1 t2 → wb_Mo_join_141 y Post (fun z t0q t1q t2q => I z t0q t1q t2q ∧ μ z t0q t1q t2q < μ u t0 t1 t2) a0 a2 k2 u t0 t1 t2
def wj_Mo_join_131 (y : Ly) (Post : St → Int32 → Prop) (K_80 : St → Int32 → Int32 → Int32 → Prop) (a0 : Nat) (a2 : Nat) (k2 : Nat) (s_j131 : St) (x1j131 : Int32) (x3j131 : Int32) (x4j131 : Int32) (z1j131 : Int32) (z2j131 : Int32) : Prop := xS y s_j131 a0 105 z1j131 z2j131 (fun s_25 : St => K_80 s_25 x1j131 x3j131 (x4j131 + 1))
def wb_Mo_join_80 (y : Ly) (Post : St → Int32 → Prop) (K_80 : St → Int32 → Int32 → Int32 → Prop) (a0 : Nat) (a2 : Nat) (k2 : Nat) (s_h80 : St) (x1h80 : Int32) (x3h80 : Int32) (x4h80 : Int32) : Prop := (((sV s_h80 a0 102) ≤ x4h80 → wl_Mo_join_141 y Post a0 a2 k2 s_h80 x1h80 x3h80 0) ∧ (¬ ((sV s_h80 a0 102) ≤ x4h80) → xA y s_h80 a0 99 ((20 * x1h80) + x4h80) (fun x_21 : Int32 => xA y s_h80 a0 70 x4h80 (fun x_22 : Int32 => wu_Mo_joined y (fun (s_24 : St) (r_23 : Int32) => ((¬ r_23 = 0 → wj_Mo_join_131 y Post K_80 a0 a2 k2 s_24 x1h80 x3h80 x4h80 x4h80 r_23) ∧ (r_23 = 0 → wj_Mo_join_131 y Post K_80 a0 a2 k2 s_24 x1h80 x3h80 x4h80 x4h80 4))) s_h80 a0 x_21 x_22))))
def wl_Mo_join_80 (y : Ly) (Post : St → Int32 → Prop) (a0 : Nat) (a2 : Nat) (k2 : Nat) (s_h80 : St) (x1h80 : Int32) (x3h80 : Int32) (x4h80 : Int32) : Prop := ∃ (I : St → Int32 → Int32 → Int32 → Prop) (μ : St → Int32 → Int32 → Int32 → Nat), I s_h80 x1h80 x3h80 x4h80 ∧ ∀ (u : St) (t0 : Int32) (t1 : Int32) (t2 : Int32), I u t0 t1 t2 → wb_Mo_join_80 y Post (fun z t0q t1q t2q => I z t0q t1q t2q ∧ μ z t0q t1q t2q < μ u t0 t1 t2) a0 a2 k2 u t0 t1 t2
def wu_Mo_join (y : Ly) (Post : St → Int32 → Prop) (σ : St) (a0 : Nat) (v1 : Int32) (a2 : Nat) (k2 : Nat) (v3 : Int32) : Prop := xA y σ a0 97 v1 (fun x_1 : Int32 => ((¬ x_1 = 0 → xA y σ a0 98 v1 (fun x_2 : Int32 => ((x_2 = v3 → wl_Mo_join_80 y Post a0 a2 k2 σ v1 v3 0) ∧ (¬ (x_2 = v3) → Post σ 37)))) ∧ (x_1 = 0 → xS y σ a0 97 v1 (vp_nar .boolean 1) (fun s_26 : St => xS y s_26 a0 98 v1 v3 (fun s_27 : St => xC y s_27 a0 70 a0 99 .int 0 (20 * v1) (sV s_27 a0 102) (fun s_28 : St => xC y s_28 a2 k2 a0 100 .int 0 (28 * v1) v3 (fun s_29 : St => nb 1 ∧ xP (uV s_29 a0 103 1) (fun s_31 : St => Post s_31 0))))))))
set_option maxHeartbeats 4000000 in
set_option maxRecDepth 100000 in
theorem cu_Mo_join (l : Launch) (D : va_G) (g : Nat → ClassId) (ad : Nat → Nat) (y : Ly) (Post : St → Int32 → Prop) (σ : St) (a0 : Nat) (v1 : Int32) (a2 : Nat) (k2 : Nat) (v3 : Int32) (sz : Nat) (h_a0 : cl a0 = 14) (h_a2 : kd (cl a2) k2 = 2 ∧ tyx (cl a2) k2 = 0) (h : wu_Mo_join y Post σ a0 v1 a2 k2 v3) : Met l y_Mo_join (mw y_Mo_join b_Mo_join 6 (some .int)) ru_Mo_join (PC g D [] [.ref (ad a0), .int v1, .ref (yP y a2 k2), .int v3] sz (ws g ad y σ)) (va_Qi (fun (r : Int32) (u : St) => Post u r) (QW D (va_A (ws g ad y σ) sz) (fun u => ws g ad y u)) (va_A (ws g ad y σ) sz)) 0 0 (va_A (ws g ad y σ) sz) := by
  refine ofI (by decide +kernel) (Nat.le_of_ble_eq_true rfl) ?_
  intro p e s m args below meth c A Q ls H locs G hsz hP hD hS hl hret
  subst hsz
  have hl : lv_has ls 6 [(0, .ref (ad a0)), (1, .int v1), (2, .ref (yP y a2 k2)), (3, .int v3)] := hl
  unfold wu_Mo_join at h
  refine lv_aload_n G.1 G.2.1 d_Mo_join_0 rfl (lv_at hl 0 rfl) ?_
  refine ugf (v := .ref (yP y a0 97)) G hP h_a0 iMo rfl 97 (by decide) rfl q3161 rfl rfl d_Mo_join_1 ?_
  refine lv_iload_n G.1 G.2.1 d_Mo_join_4 rfl (lv_at hl 1 rfl) ?_
  refine uzald G hP (kdp h_a0 rfl) (typ h_a0 rfl) h d_Mo_join_5 (fun x_1 h => ?_)
  refine lv_if_ne (tgt := 64) G.1 G.2.1 d_Mo_join_6 (by decide) (fun c6 => ?_) (fun c6 => ?_)
  · skip
    have h := h.1 c6
    refine lv_aload_n G.1 G.2.1 d_Mo_join_64 rfl (lv_at hl 0 rfl) ?_
    refine ugf (v := .ref (yP y a0 98)) G hP h_a0 iMo rfl 98 (by decide) rfl q3162 rfl rfl d_Mo_join_65 ?_
    refine lv_iload_n G.1 G.2.1 d_Mo_join_68 rfl (lv_at hl 1 rfl) ?_
    refine uiald G hP (kdp h_a0 rfl) (typ h_a0 rfl) h d_Mo_join_69 (fun x_2 h => ?_)
    refine lv_iload_n G.1 G.2.1 d_Mo_join_70 rfl (lv_at hl 3 rfl) ?_
    refine lv_icmp_eq (tgt := 77) G.1 G.2.1 d_Mo_join_71 (by decide) (fun c71 => ?_) (fun c71 => ?_)
    · skip
      have h := h.1 c71
      refine W.eq (g2 := F0 m 77 ls []) rfl ?_
      refine lv_iconst (v := 0) G.1 G.2.1 d_Mo_join_77 (by decide) ?_
      refine lv_istore (lv' := [(4, .int 0), (0, .ref (ad a0)), (1, .int v1), (2, .ref (yP y a2 k2)), (3, .int v3)]) G.1 G.2.1 d_Mo_join_78 hl (by decide) rfl (fun ls hl => ?_)
      unfold wl_Mo_join_80 at h
      obtain ⟨I_80, μ_80, hI_80, hB_80⟩ := h
      have L_80 : ∀ (n_80 : Nat) (s_h80 : St) (x1h80 : Int32) (x3h80 : Int32) (x4h80 : Int32), μ_80 s_h80 x1h80 x3h80 x4h80 < n_80 → I_80 s_h80 x1h80 x3h80 x4h80 → ∀ (H : Heap) (locs : List Loc), va_P D CL (ws g ad y s_h80) H → va_D A (ws g ad y s_h80) → va_S A s.heap H locs → ∀ ls, lv_has ls 6 [(0, .ref (ad a0)), (1, .int x1h80), (2, .ref (yP y a2 k2)), (3, .int x3h80), (4, .int x4h80)] → W p l e ru_Mo_join s m args below meth c H locs 0 0 Q (F0 m 80 ls []) := by
        intro n_80
        induction n_80 with
        | zero => intro s_h80 x1h80 x3h80 x4h80 hμ; exact absurd hμ (Nat.not_lt_zero _)
        | succ n_80 ih_80 =>
          intro s_h80 x1h80 x3h80 x4h80 hμ_80 hJ H locs hP hD hS ls hl
          obtain ⟨K_80, hK_80, h⟩ : ∃ K : St → Int32 → Int32 → Int32 → Prop, (∀ z (t0 : Int32) (t1 : Int32) (t2 : Int32), K z t0 t1 t2 → I_80 z t0 t1 t2 ∧ μ_80 z t0 t1 t2 < μ_80 s_h80 x1h80 x3h80 x4h80) ∧ wb_Mo_join_80 y Post K a0 a2 k2 s_h80 x1h80 x3h80 x4h80 := ⟨_, fun _ _ _ _ h => h, hB_80 s_h80 x1h80 x3h80 x4h80 hJ⟩
          unfold wb_Mo_join_80 at h
          refine lv_iload G.1 G.2.1 d_Mo_join_80 (lv_at hl 4 rfl) ?_
          refine lv_aload_n G.1 G.2.1 d_Mo_join_82 rfl (lv_at hl 0 rfl) ?_
          refine ugf (v := .int (sV s_h80 a0 102)) G hP h_a0 iMo rfl 102 (by decide) rfl q3166 rfl rfl d_Mo_join_83 ?_
          refine lv_icmp_ge (tgt := 138) G.1 G.2.1 d_Mo_join_86 (by decide) (fun c86 => ?_) (fun c86 => ?_)
          · skip
            have h := h.1 c86
            refine lv_iconst (v := 0) G.1 G.2.1 d_Mo_join_138 (by decide) ?_
            refine lv_istore (lv' := [(4, .int 0), (0, .ref (ad a0)), (1, .int x1h80), (2, .ref (yP y a2 k2)), (3, .int x3h80)]) G.1 G.2.1 d_Mo_join_139 hl (by decide) rfl (fun ls hl => ?_)
            unfold wl_Mo_join_141 at h
            obtain ⟨I_141, μ_141, hI_141, hB_141⟩ := h
            have L_141 : ∀ (n_141 : Nat) (s_h141 : St) (x1h141 : Int32) (x3h141 : Int32) (x4h141 : Int32), μ_141 s_h141 x1h141 x3h141 x4h141 < n_141 → I_141 s_h141 x1h141 x3h141 x4h141 → ∀ (H : Heap) (locs : List Loc), va_P D CL (ws g ad y s_h141) H → va_D A (ws g ad y s_h141) → va_S A s.heap H locs → ∀ ls, lv_has ls 6 [(0, .ref (ad a0)), (1, .int x1h141), (2, .ref (yP y a2 k2)), (3, .int x3h141), (4, .int x4h141)] → W p l e ru_Mo_join s m args below meth c H locs 0 0 Q (F0 m 141 ls []) := by
              intro n_141
              induction n_141 with
              | zero => intro s_h141 x1h141 x3h141 x4h141 hμ; exact absurd hμ (Nat.not_lt_zero _)
              | succ n_141 ih_141 =>
                intro s_h141 x1h141 x3h141 x4h141 hμ_141 hJ H locs hP hD hS ls hl
                obtain ⟨K_141, hK_141, h⟩ : ∃ K : St → Int32 → Int32 → Int32 → Prop, (∀ z (t0 : Int32) (t1 : Int32) (t2 : Int32), K z t0 t1 t2 → I_141 z t0 t1 t2 ∧ μ_141 z t0 t1 t2 < μ_141 s_h141 x1h141 x3h141 x4h141) ∧ wb_Mo_join_141 y Post K a0 a2 k2 s_h141 x1h141 x3h141 x4h141 := ⟨_, fun _ _ _ _ h => h, hB_141 s_h141 x1h141 x3h141 x4h141 hJ⟩
                unfold wb_Mo_join_141 at h
                refine lv_iload G.1 G.2.1 d_Mo_join_141 (lv_at hl 4 rfl) ?_
                refine lv_iload_n G.1 G.2.1 d_Mo_join_143 rfl (lv_at hl 3 rfl) ?_
                refine lv_icmp_ge (tgt := 193) G.1 G.2.1 d_Mo_join_144 (by decide) (fun c144 => ?_) (fun c144 => ?_)
                · skip
                  have h := h.1 c144
                  refine lv_iconst (v := 0) G.1 G.2.1 d_Mo_join_193 (by decide) ?_
                  refine lv_istore (lv' := [(4, .int 0), (0, .ref (ad a0)), (1, .int x1h141), (2, .ref (yP y a2 k2)), (3, .int x3h141)]) G.1 G.2.1 d_Mo_join_194 hl (by decide) rfl (fun ls hl => ?_)
                  unfold wl_Mo_join_196 at h
                  obtain ⟨I_196, μ_196, hI_196, hB_196⟩ := h
                  have L_196 : ∀ (n_196 : Nat) (s_h196 : St) (x1h196 : Int32) (x3h196 : Int32) (x4h196 : Int32), μ_196 s_h196 x1h196 x3h196 x4h196 < n_196 → I_196 s_h196 x1h196 x3h196 x4h196 → ∀ (H : Heap) (locs : List Loc), va_P D CL (ws g ad y s_h196) H → va_D A (ws g ad y s_h196) → va_S A s.heap H locs → ∀ ls, lv_has ls 6 [(0, .ref (ad a0)), (1, .int x1h196), (3, .int x3h196), (4, .int x4h196)] → W p l e ru_Mo_join s m args below meth c H locs 0 0 Q (F0 m 196 ls []) := by
                    intro n_196
                    induction n_196 with
                    | zero => intro s_h196 x1h196 x3h196 x4h196 hμ; exact absurd hμ (Nat.not_lt_zero _)
                    | succ n_196 ih_196 =>
                      intro s_h196 x1h196 x3h196 x4h196 hμ_196 hJ H locs hP hD hS ls hl
                      obtain ⟨K_196, hK_196, h⟩ : ∃ K : St → Int32 → Int32 → Int32 → Prop, (∀ z (t0 : Int32) (t1 : Int32) (t2 : Int32), K z t0 t1 t2 → I_196 z t0 t1 t2 ∧ μ_196 z t0 t1 t2 < μ_196 s_h196 x1h196 x3h196 x4h196) ∧ wb_Mo_join_196 y Post K a0 a2 k2 s_h196 x1h196 x3h196 x4h196 := ⟨_, fun _ _ _ _ h => h, hB_196 s_h196 x1h196 x3h196 x4h196 hJ⟩
                      unfold wb_Mo_join_196 at h
                      refine lv_iload G.1 G.2.1 d_Mo_join_196 (lv_at hl 3 rfl) ?_
                      refine lv_aload_n G.1 G.2.1 d_Mo_join_198 rfl (lv_at hl 0 rfl) ?_
                      refine ugf (v := .int (sV s_h196 a0 102)) G hP h_a0 iMo rfl 102 (by decide) rfl q3166 rfl rfl d_Mo_join_199 ?_
                      refine lv_icmp_ge (tgt := 266) G.1 G.2.1 d_Mo_join_202 (by decide) (fun c202 => ?_) (fun c202 => ?_)
                      · skip
                        have h := h.1 c202
                        refine lv_iconst (v := 0) G.1 G.2.1 d_Mo_join_266 (by decide) ?_
                        refine lv_istore (lv' := [(4, .int 0), (0, .ref (ad a0)), (1, .int x1h196), (3, .int x3h196)]) G.1 G.2.1 d_Mo_join_267 hl (by decide) rfl (fun ls hl => ?_)
                        unfold wl_Mo_join_269 at h
                        obtain ⟨I_269, μ_269, hI_269, hB_269⟩ := h
                        have L_269 : ∀ (n_269 : Nat) (s_h269 : St) (x1h269 : Int32) (x3h269 : Int32) (x4h269 : Int32), μ_269 s_h269 x1h269 x3h269 x4h269 < n_269 → I_269 s_h269 x1h269 x3h269 x4h269 → ∀ (H : Heap) (locs : List Loc), va_P D CL (ws g ad y s_h269) H → va_D A (ws g ad y s_h269) → va_S A s.heap H locs → ∀ ls, lv_has ls 6 [(0, .ref (ad a0)), (1, .int x1h269), (3, .int x3h269), (4, .int x4h269)] → W p l e ru_Mo_join s m args below meth c H locs 0 0 Q (F0 m 269 ls []) := by
                          intro n_269
                          induction n_269 with
                          | zero => intro s_h269 x1h269 x3h269 x4h269 hμ; exact absurd hμ (Nat.not_lt_zero _)
                          | succ n_269 ih_269 =>
                            intro s_h269 x1h269 x3h269 x4h269 hμ_269 hJ H locs hP hD hS ls hl
                            obtain ⟨K_269, hK_269, h⟩ : ∃ K : St → Int32 → Int32 → Int32 → Prop, (∀ z (t0 : Int32) (t1 : Int32) (t2 : Int32), K z t0 t1 t2 → I_269 z t0 t1 t2 ∧ μ_269 z t0 t1 t2 < μ_269 s_h269 x1h269 x3h269 x4h269) ∧ wb_Mo_join_269 y Post K a0 a2 k2 s_h269 x1h269 x3h269 x4h269 := ⟨_, fun _ _ _ _ h => h, hB_269 s_h269 x1h269 x3h269 x4h269 hJ⟩
                            unfold wb_Mo_join_269 at h
                            refine lv_iload G.1 G.2.1 d_Mo_join_269 (lv_at hl 3 rfl) ?_
                            refine lv_iload_n G.1 G.2.1 d_Mo_join_271 rfl (lv_at hl 2 rfl) ?_
                            refine lv_icmp_ge (tgt := 336) G.1 G.2.1 d_Mo_join_272 (by decide) (fun c272 => ?_) (fun c272 => ?_)
                            · skip
                              have h := h.1 c272
                              refine lv_iconst (v := 0) G.1 G.2.1 d_Mo_join_336 (by decide) ?_
                              exact hret _ _ _ _ _ _ _ ls h hP hD hS (Nat.le_refl _) (Nat.le_refl _) d_Mo_join_337
                            · skip
                              have h := h.2 c272
                              refine lv_aload_n G.1 G.2.1 d_Mo_join_275 rfl (lv_at hl 0 rfl) ?_
                              refine lv_dup G.1 G.2.1 d_Mo_join_276 rfl ?_
                              refine ugf (v := .int (sV s_h269 a0 103)) G hP h_a0 iMo rfl 103 (by decide) rfl q3167 rfl rfl d_Mo_join_277 ?_
                              refine lv_aload_n G.1 G.2.1 d_Mo_join_280 rfl (lv_at hl 0 rfl) ?_
                              refine ugf (v := .ref (yP y a0 100)) G hP h_a0 iMo rfl 100 (by decide) rfl q3164 rfl rfl d_Mo_join_281 ?_
                              refine lv_bipush (v := 28) G.1 G.2.1 d_Mo_join_284 (by decide) ?_
                              refine lv_iload_n G.1 G.2.1 d_Mo_join_286 rfl (lv_at hl 1 rfl) ?_
                              refine lv_imul G.1 G.2.1 d_Mo_join_287 ?_
                              refine W.eq (g2 := F0 m 288 ls [.int (28 * x1h269), .ref (yP y a0 100), .int (sV s_h269 a0 103), .ref (ad a0)]) rfl ?_
                              refine lv_iload G.1 G.2.1 d_Mo_join_288 (lv_at hl 3 rfl) ?_
                              refine lv_iadd G.1 G.2.1 d_Mo_join_290 ?_
                              refine uiald G hP (kdp h_a0 rfl) (typ h_a0 rfl) h d_Mo_join_291 (fun x_3 h => ?_)
                              refine lv_aload_n G.1 G.2.1 d_Mo_join_292 rfl (lv_at hl 0 rfl) ?_
                              refine ugf (v := .ref (yP y a0 106)) G hP h_a0 iMo rfl 106 (by decide) rfl q3170 rfl rfl d_Mo_join_293 ?_
                              refine lv_iload G.1 G.2.1 d_Mo_join_296 (lv_at hl 3 rfl) ?_
                              refine uiald G hP (kdp h_a0 rfl) (typ h_a0 rfl) h d_Mo_join_298 (fun x_4 h => ?_)
                              have J_307 : ∀ (s_j307 : St) (x1j307 : Int32) (x3j307 : Int32) (x4j307 : Int32) (z1j307 : Int32) (z2j307 : Int32) (H : Heap) (locs : List Loc), wj_Mo_join_307 y Post K_269 a0 a2 k2 s_j307 x1j307 x3j307 x4j307 z1j307 z2j307 → va_P D CL (ws g ad y s_j307) H → va_D A (ws g ad y s_j307) → va_S A s.heap H locs → ∀ ls, lv_has ls 6 [(0, .ref (ad a0)), (1, .int x1j307), (3, .int x3j307), (4, .int x4j307)] → W p l e ru_Mo_join s m args below meth c H locs 0 0 Q (F0 m 307 ls [.int z2j307, .int z1j307, .ref (ad a0)]) := by
                                intro s_j307 x1j307 x3j307 x4j307 z1j307 z2j307 H locs h hP hD hS ls hl
                                unfold wj_Mo_join_307 at h
                                refine lv_ior G.1 G.2.1 d_Mo_join_307 ?_
                                obtain ⟨n_5, h⟩ := h
                                refine upf G hP hD hS h 103 putV h_a0 iMo tMo tMo_ok nMo rfl (by decide) rfl q3167 rfl rfl fV (nb_n n_5) (nb_f n_5) d_Mo_join_308 (fun s_6 H locs h hP hD hS => ?_)
                                refine lv_aload_n G.1 G.2.1 d_Mo_join_311 rfl (lv_at hl 0 rfl) ?_
                                refine ugf (v := .ref (yP y a0 100)) G hP h_a0 iMo rfl 100 (by decide) rfl q3164 rfl rfl d_Mo_join_312 ?_
                                refine lv_bipush (v := 28) G.1 G.2.1 d_Mo_join_315 (by decide) ?_
                                refine lv_iload_n G.1 G.2.1 d_Mo_join_317 rfl (lv_at hl 1 rfl) ?_
                                refine lv_imul G.1 G.2.1 d_Mo_join_318 ?_
                                refine lv_iload G.1 G.2.1 d_Mo_join_319 (lv_at hl 3 rfl) ?_
                                refine lv_iadd G.1 G.2.1 d_Mo_join_321 ?_
                                refine lv_aload_n G.1 G.2.1 d_Mo_join_322 rfl (lv_at hl 0 rfl) ?_
                                refine ugf (v := .ref (yP y a0 106)) G hP h_a0 iMo rfl 106 (by decide) rfl q3170 rfl rfl d_Mo_join_323 ?_
                                refine W.eq (g2 := F0 m 326 ls [.ref (yP y a0 106), .int ((28 * x1j307) + x4j307), .ref (yP y a0 100)]) rfl ?_
                                refine lv_iload G.1 G.2.1 d_Mo_join_326 (lv_at hl 3 rfl) ?_
                                refine uiald G hP (kdp h_a0 rfl) (typ h_a0 rfl) h d_Mo_join_328 (fun x_7 h => ?_)
                                refine uiast G hP hD hS (kdp h_a0 rfl) (typ h_a0 rfl) h d_Mo_join_329 (fun s_8 H locs h hP hD hS => ?_)
                                refine lv_iinc (v := x4j307 + 1) (lv' := [(4, .int (x4j307 + 1)), (0, .ref (ad a0)), (1, .int x1j307), (3, .int x3j307)]) G.1 G.2.1 d_Mo_join_330 hl (k := 3) rfl rfl (by decide) rfl (fun ls hl => ?_)
                                refine lv_goto (tgt := 269) G.1 G.2.1 d_Mo_join_333 (by decide) ?_
                                have h := hK_269 s_8 x1j307 x3j307 (x4j307 + 1) h
                                exact ih_269 s_8 x1j307 x3j307 (x4j307 + 1) (Nat.lt_of_lt_of_le h.2 (Nat.le_of_lt_succ hμ_269)) h.1 H locs hP hD hS ls (lv_sub hl [1, 2, 3, 0] rfl)
                              refine lv_icmp_eq (tgt := 306) G.1 G.2.1 d_Mo_join_299 (by decide) (fun c299 => ?_) (fun c299 => ?_)
                              · skip
                                have h := h.1 c299
                                refine lv_iconst (v := 0) G.1 G.2.1 d_Mo_join_306 (by decide) ?_
                                exact J_307 s_h269 x1h269 x3h269 x4h269 (sV s_h269 a0 103) 0 H locs h hP hD hS ls (lv_sub hl [0, 1, 2, 3] rfl)
                              · skip
                                have h := h.2 c299
                                refine lv_iconst (v := 1) G.1 G.2.1 d_Mo_join_302 (by decide) ?_
                                refine lv_goto (tgt := 307) G.1 G.2.1 d_Mo_join_303 (by decide) ?_
                                exact J_307 s_h269 x1h269 x3h269 x4h269 (sV s_h269 a0 103) 1 H locs h hP hD hS ls (lv_sub hl [0, 1, 2, 3] rfl)
                        exact L_269 _ s_h196 x1h196 x3h196 0 (Nat.lt_succ_self _) hI_269 H locs hP hD hS ls (lv_sub hl [1, 2, 3, 0] rfl)
                      · skip
                        have h := h.2 c202
                        refine lv_aload_n G.1 G.2.1 d_Mo_join_205 rfl (lv_at hl 0 rfl) ?_
                        refine lv_dup G.1 G.2.1 d_Mo_join_206 rfl ?_
                        refine ugf (v := .int (sV s_h196 a0 103)) G hP h_a0 iMo rfl 103 (by decide) rfl q3167 rfl rfl d_Mo_join_207 ?_
                        refine lv_aload_n G.1 G.2.1 d_Mo_join_210 rfl (lv_at hl 0 rfl) ?_
                        refine ugf (v := .ref (yP y a0 99)) G hP h_a0 iMo rfl 99 (by decide) rfl q3163 rfl rfl d_Mo_join_211 ?_
                        refine lv_bipush (v := 20) G.1 G.2.1 d_Mo_join_214 (by decide) ?_
                        refine lv_iload_n G.1 G.2.1 d_Mo_join_216 rfl (lv_at hl 1 rfl) ?_
                        refine W.eq (g2 := F0 m 217 ls [.int x1h196, .int 20, .ref (yP y a0 99), .int (sV s_h196 a0 103), .ref (ad a0)]) rfl ?_
                        refine lv_imul G.1 G.2.1 d_Mo_join_217 ?_
                        refine lv_iload G.1 G.2.1 d_Mo_join_218 (lv_at hl 3 rfl) ?_
                        refine lv_iadd G.1 G.2.1 d_Mo_join_220 ?_
                        refine uiald G hP (kdp h_a0 rfl) (typ h_a0 rfl) h d_Mo_join_221 (fun x_9 h => ?_)
                        refine lv_aload_n G.1 G.2.1 d_Mo_join_222 rfl (lv_at hl 0 rfl) ?_
                        refine ugf (v := .ref (yP y a0 105)) G hP h_a0 iMo rfl 105 (by decide) rfl q3169 rfl rfl d_Mo_join_223 ?_
                        refine lv_iload G.1 G.2.1 d_Mo_join_226 (lv_at hl 3 rfl) ?_
                        refine uiald G hP (kdp h_a0 rfl) (typ h_a0 rfl) h d_Mo_join_228 (fun x_10 h => ?_)
                        have J_237 : ∀ (s_j237 : St) (x1j237 : Int32) (x3j237 : Int32) (x4j237 : Int32) (z1j237 : Int32) (z2j237 : Int32) (H : Heap) (locs : List Loc), wj_Mo_join_237 y Post K_196 a0 a2 k2 s_j237 x1j237 x3j237 x4j237 z1j237 z2j237 → va_P D CL (ws g ad y s_j237) H → va_D A (ws g ad y s_j237) → va_S A s.heap H locs → ∀ ls, lv_has ls 6 [(0, .ref (ad a0)), (1, .int x1j237), (3, .int x3j237), (4, .int x4j237)] → W p l e ru_Mo_join s m args below meth c H locs 0 0 Q (F0 m 237 ls [.int z2j237, .int z1j237, .ref (ad a0)]) := by
                          intro s_j237 x1j237 x3j237 x4j237 z1j237 z2j237 H locs h hP hD hS ls hl
                          unfold wj_Mo_join_237 at h
                          refine lv_ior G.1 G.2.1 d_Mo_join_237 ?_
                          obtain ⟨n_11, h⟩ := h
                          refine upf G hP hD hS h 103 putV h_a0 iMo tMo tMo_ok nMo rfl (by decide) rfl q3167 rfl rfl fV (nb_n n_11) (nb_f n_11) d_Mo_join_238 (fun s_12 H locs h hP hD hS => ?_)
                          refine lv_aload_n G.1 G.2.1 d_Mo_join_241 rfl (lv_at hl 0 rfl) ?_
                          refine ugf (v := .ref (yP y a0 99)) G hP h_a0 iMo rfl 99 (by decide) rfl q3163 rfl rfl d_Mo_join_242 ?_
                          refine lv_bipush (v := 20) G.1 G.2.1 d_Mo_join_245 (by decide) ?_
                          refine lv_iload_n G.1 G.2.1 d_Mo_join_247 rfl (lv_at hl 1 rfl) ?_
                          refine lv_imul G.1 G.2.1 d_Mo_join_248 ?_
                          refine lv_iload G.1 G.2.1 d_Mo_join_249 (lv_at hl 3 rfl) ?_
                          refine lv_iadd G.1 G.2.1 d_Mo_join_251 ?_
                          refine lv_aload_n G.1 G.2.1 d_Mo_join_252 rfl (lv_at hl 0 rfl) ?_
                          refine ugf (v := .ref (yP y a0 105)) G hP h_a0 iMo rfl 105 (by decide) rfl q3169 rfl rfl d_Mo_join_253 ?_
                          refine W.eq (g2 := F0 m 256 ls [.ref (yP y a0 105), .int ((20 * x1j237) + x4j237), .ref (yP y a0 99)]) rfl ?_
                          refine lv_iload G.1 G.2.1 d_Mo_join_256 (lv_at hl 3 rfl) ?_
                          refine uiald G hP (kdp h_a0 rfl) (typ h_a0 rfl) h d_Mo_join_258 (fun x_13 h => ?_)
                          refine uiast G hP hD hS (kdp h_a0 rfl) (typ h_a0 rfl) h d_Mo_join_259 (fun s_14 H locs h hP hD hS => ?_)
                          refine lv_iinc (v := x4j237 + 1) (lv' := [(4, .int (x4j237 + 1)), (0, .ref (ad a0)), (1, .int x1j237), (3, .int x3j237)]) G.1 G.2.1 d_Mo_join_260 hl (k := 3) rfl rfl (by decide) rfl (fun ls hl => ?_)
                          refine lv_goto (tgt := 196) G.1 G.2.1 d_Mo_join_263 (by decide) ?_
                          have h := hK_196 s_14 x1j237 x3j237 (x4j237 + 1) h
                          exact ih_196 s_14 x1j237 x3j237 (x4j237 + 1) (Nat.lt_of_lt_of_le h.2 (Nat.le_of_lt_succ hμ_196)) h.1 H locs hP hD hS ls (lv_sub hl [1, 2, 3, 0] rfl)
                        refine lv_icmp_eq (tgt := 236) G.1 G.2.1 d_Mo_join_229 (by decide) (fun c229 => ?_) (fun c229 => ?_)
                        · skip
                          have h := h.1 c229
                          refine lv_iconst (v := 0) G.1 G.2.1 d_Mo_join_236 (by decide) ?_
                          exact J_237 s_h196 x1h196 x3h196 x4h196 (sV s_h196 a0 103) 0 H locs h hP hD hS ls (lv_sub hl [0, 1, 2, 3] rfl)
                        · skip
                          have h := h.2 c229
                          refine lv_iconst (v := 1) G.1 G.2.1 d_Mo_join_232 (by decide) ?_
                          refine lv_goto (tgt := 237) G.1 G.2.1 d_Mo_join_233 (by decide) ?_
                          exact J_237 s_h196 x1h196 x3h196 x4h196 (sV s_h196 a0 103) 1 H locs h hP hD hS ls (lv_sub hl [0, 1, 2, 3] rfl)
                  exact L_196 _ s_h141 x1h141 x3h141 0 (Nat.lt_succ_self _) hI_196 H locs hP hD hS ls (lv_sub hl [1, 2, 4, 0] rfl)
                · skip
                  have h := h.2 c144
                  refine lv_aload_n G.1 G.2.1 d_Mo_join_147 rfl (lv_at hl 0 rfl) ?_
                  refine ugf (v := .ref (yP y a0 106)) G hP h_a0 iMo rfl 106 (by decide) rfl q3170 rfl rfl d_Mo_join_148 ?_
                  refine lv_iload G.1 G.2.1 d_Mo_join_151 (lv_at hl 4 rfl) ?_
                  refine lv_aload_n G.1 G.2.1 d_Mo_join_153 rfl (lv_at hl 0 rfl) ?_
                  refine lv_aload_n G.1 G.2.1 d_Mo_join_154 rfl (lv_at hl 0 rfl) ?_
                  refine ugf (v := .ref (yP y a0 100)) G hP h_a0 iMo rfl 100 (by decide) rfl q3164 rfl rfl d_Mo_join_155 ?_
                  refine lv_bipush (v := 28) G.1 G.2.1 d_Mo_join_158 (by decide) ?_
                  refine lv_iload_n G.1 G.2.1 d_Mo_join_160 rfl (lv_at hl 1 rfl) ?_
                  refine W.eq (g2 := F0 m 161 ls [.int x1h141, .int 28, .ref (yP y a0 100), .ref (ad a0), .int x4h141, .ref (yP y a0 106)]) rfl ?_
                  refine lv_imul G.1 G.2.1 d_Mo_join_161 ?_
                  refine lv_iload G.1 G.2.1 d_Mo_join_162 (lv_at hl 4 rfl) ?_
                  refine lv_iadd G.1 G.2.1 d_Mo_join_164 ?_
                  refine uiald G hP (kdp h_a0 rfl) (typ h_a0 rfl) h d_Mo_join_165 (fun x_15 h => ?_)
                  refine lv_aload_n G.1 G.2.1 d_Mo_join_166 rfl (lv_at hl 2 rfl) ?_
                  refine lv_iload G.1 G.2.1 d_Mo_join_167 (lv_at hl 4 rfl) ?_
                  refine uiald G hP h_a2.1 h_a2.2 h d_Mo_join_169 (fun x_16 h => ?_)
                  refine ucVi (As := [.int x_15, .int x_16]) (rest := [.int x4h141, .ref (yP y a0 106)]) G hP hD hS (cu_Mo_joined l D g ad y _ s_h141 a0 x_15 x_16 H.size h_a0 h) w9_Mo_joined q4137 ⟨Nat.le_of_ble_eq_true rfl, Nat.le_of_ble_eq_true rfl⟩ rfl rfl h_a0 (q := (RMo, TMo, 131)) rfl rfl hl.1 rfl (Nat.le_of_ble_eq_true rfl) rfl ⟨Nat.le_refl _, Nat.le_refl _⟩ d_Mo_join_170 (fun r_17 s_18 H locs h hP hD hS => ?_)
                  refine uiast G hP hD hS (kdp h_a0 rfl) (typ h_a0 rfl) h d_Mo_join_173 (fun s_19 H locs h hP hD hS => ?_)
                  refine lv_aload_n G.1 G.2.1 d_Mo_join_174 rfl (lv_at hl 0 rfl) ?_
                  refine ugf (v := .ref (yP y a0 106)) G hP h_a0 iMo rfl 106 (by decide) rfl q3170 rfl rfl d_Mo_join_175 ?_
                  refine lv_iload G.1 G.2.1 d_Mo_join_178 (lv_at hl 4 rfl) ?_
                  refine W.eq (g2 := F0 m 180 ls [.int x4h141, .ref (yP y a0 106)]) rfl ?_
                  refine uiald G hP (kdp h_a0 rfl) (typ h_a0 rfl) h d_Mo_join_180 (fun x_20 h => ?_)
                  refine lv_if_ne (tgt := 187) G.1 G.2.1 d_Mo_join_181 (by decide) (fun c181 => ?_) (fun c181 => ?_)
                  · skip
                    have h := h.1 c181
                    refine lv_iinc (v := x4h141 + 1) (lv' := [(4, .int (x4h141 + 1)), (0, .ref (ad a0)), (1, .int x1h141), (2, .ref (yP y a2 k2)), (3, .int x3h141)]) G.1 G.2.1 d_Mo_join_187 hl (k := 4) rfl rfl (by decide) rfl (fun ls hl => ?_)
                    refine lv_goto (tgt := 141) G.1 G.2.1 d_Mo_join_190 (by decide) ?_
                    have h := hK_141 s_19 x1h141 x3h141 (x4h141 + 1) h
                    exact ih_141 s_19 x1h141 x3h141 (x4h141 + 1) (Nat.lt_of_lt_of_le h.2 (Nat.le_of_lt_succ hμ_141)) h.1 H locs hP hD hS ls (lv_sub hl [1, 2, 3, 4, 0] rfl)
                  · skip
                    have h := h.2 c181
                    refine lv_bipush (v := 37) G.1 G.2.1 d_Mo_join_184 (by decide) ?_
                    exact hret _ _ _ _ _ _ _ ls h hP hD hS (Nat.le_refl _) (Nat.le_refl _) d_Mo_join_186
            exact L_141 _ s_h80 x1h80 x3h80 0 (Nat.lt_succ_self _) hI_141 H locs hP hD hS ls (lv_sub hl [1, 2, 3, 4, 0] rfl)
          · skip
            have h := h.2 c86
            refine lv_aload_n G.1 G.2.1 d_Mo_join_89 rfl (lv_at hl 0 rfl) ?_
            refine lv_aload_n G.1 G.2.1 d_Mo_join_90 rfl (lv_at hl 0 rfl) ?_
            refine ugf (v := .ref (yP y a0 99)) G hP h_a0 iMo rfl 99 (by decide) rfl q3163 rfl rfl d_Mo_join_91 ?_
            refine lv_bipush (v := 20) G.1 G.2.1 d_Mo_join_94 (by decide) ?_
            refine lv_iload_n G.1 G.2.1 d_Mo_join_96 rfl (lv_at hl 1 rfl) ?_
            refine lv_imul G.1 G.2.1 d_Mo_join_97 ?_
            refine lv_iload G.1 G.2.1 d_Mo_join_98 (lv_at hl 4 rfl) ?_
            refine W.eq (g2 := F0 m 100 ls [.int x4h80, .int (20 * x1h80), .ref (yP y a0 99), .ref (ad a0)]) rfl ?_
            refine lv_iadd G.1 G.2.1 d_Mo_join_100 ?_
            refine uiald G hP (kdp h_a0 rfl) (typ h_a0 rfl) h d_Mo_join_101 (fun x_21 h => ?_)
            refine lv_aload_n G.1 G.2.1 d_Mo_join_102 rfl (lv_at hl 0 rfl) ?_
            refine ugf (v := .ref (yP y a0 70)) G hP h_a0 iMo rfl 70 (by decide) rfl q3134 rfl rfl d_Mo_join_103 ?_
            refine lv_iload G.1 G.2.1 d_Mo_join_106 (lv_at hl 4 rfl) ?_
            refine uiald G hP (kdp h_a0 rfl) (typ h_a0 rfl) h d_Mo_join_108 (fun x_22 h => ?_)
            refine ucVi (As := [.int x_21, .int x_22]) (rest := []) G hP hD hS (cu_Mo_joined l D g ad y _ s_h80 a0 x_21 x_22 H.size h_a0 h) w9_Mo_joined q4137 ⟨Nat.le_of_ble_eq_true rfl, Nat.le_of_ble_eq_true rfl⟩ rfl rfl h_a0 (q := (RMo, TMo, 131)) rfl rfl hl.1 rfl (Nat.le_of_ble_eq_true rfl) rfl ⟨Nat.le_refl _, Nat.le_refl _⟩ d_Mo_join_109 (fun r_23 s_24 H locs h hP hD hS => ?_)
            refine lv_istore (lv' := [(5, .int r_23), (0, .ref (ad a0)), (1, .int x1h80), (2, .ref (yP y a2 k2)), (3, .int x3h80), (4, .int x4h80)]) G.1 G.2.1 d_Mo_join_112 hl (by decide) rfl (fun ls hl => ?_)
            refine lv_aload_n G.1 G.2.1 d_Mo_join_114 rfl (lv_at hl 1 rfl) ?_
            refine ugf (v := .ref (yP y a0 105)) G hP h_a0 iMo rfl 105 (by decide) rfl q3169 rfl rfl d_Mo_join_115 ?_
            refine lv_iload G.1 G.2.1 d_Mo_join_118 (lv_at hl 5 rfl) ?_
            refine lv_iload G.1 G.2.1 d_Mo_join_120 (lv_at hl 0 rfl) ?_
            have J_131 : ∀ (s_j131 : St) (x1j131 : Int32) (x3j131 : Int32) (x4j131 : Int32) (z1j131 : Int32) (z2j131 : Int32) (H : Heap) (locs : List Loc), wj_Mo_join_131 y Post K_80 a0 a2 k2 s_j131 x1j131 x3j131 x4j131 z1j131 z2j131 → va_P D CL (ws g ad y s_j131) H → va_D A (ws g ad y s_j131) → va_S A s.heap H locs → ∀ ls, lv_has ls 6 [(0, .ref (ad a0)), (1, .int x1j131), (2, .ref (yP y a2 k2)), (3, .int x3j131), (4, .int x4j131)] → W p l e ru_Mo_join s m args below meth c H locs 0 0 Q (F0 m 131 ls [.int z2j131, .int z1j131, .ref (yP y a0 105)]) := by
              intro s_j131 x1j131 x3j131 x4j131 z1j131 z2j131 H locs h hP hD hS ls hl
              unfold wj_Mo_join_131 at h
              refine uiast G hP hD hS (kdp h_a0 rfl) (typ h_a0 rfl) h d_Mo_join_131 (fun s_25 H locs h hP hD hS => ?_)
              refine lv_iinc (v := x4j131 + 1) (lv' := [(4, .int (x4j131 + 1)), (0, .ref (ad a0)), (1, .int x1j131), (2, .ref (yP y a2 k2)), (3, .int x3j131)]) G.1 G.2.1 d_Mo_join_132 hl (k := 4) rfl rfl (by decide) rfl (fun ls hl => ?_)
              refine lv_goto (tgt := 80) G.1 G.2.1 d_Mo_join_135 (by decide) ?_
              have h := hK_80 s_25 x1j131 x3j131 (x4j131 + 1) h
              exact ih_80 s_25 x1j131 x3j131 (x4j131 + 1) (Nat.lt_of_lt_of_le h.2 (Nat.le_of_lt_succ hμ_80)) h.1 H locs hP hD hS ls (lv_sub hl [1, 2, 3, 4, 0] rfl)
            refine W.eq (g2 := F0 m 122 ls [.int r_23, .int x4h80, .ref (yP y a0 105)]) rfl ?_
            refine lv_if_ne (tgt := 129) G.1 G.2.1 d_Mo_join_122 (by decide) (fun c122 => ?_) (fun c122 => ?_)
            · skip
              have h := h.1 c122
              refine lv_iload G.1 G.2.1 d_Mo_join_129 (lv_at hl 0 rfl) ?_
              exact J_131 s_24 x1h80 x3h80 x4h80 x4h80 r_23 H locs h hP hD hS ls (lv_sub hl [1, 2, 3, 4, 5] rfl)
            · skip
              have h := h.2 c122
              refine lv_iconst (v := 4) G.1 G.2.1 d_Mo_join_125 (by decide) ?_
              refine lv_goto (tgt := 131) G.1 G.2.1 d_Mo_join_126 (by decide) ?_
              exact J_131 s_24 x1h80 x3h80 x4h80 x4h80 4 H locs h hP hD hS ls (lv_sub hl [1, 2, 3, 4, 5] rfl)
      exact L_80 _ σ v1 v3 0 (Nat.lt_succ_self _) hI_80 H locs hP hD hS ls (lv_sub hl [1, 2, 3, 4, 0] rfl)
    · skip
      have h := h.2 c71
      refine W.eq (g2 := F0 m 74 ls []) rfl ?_
      refine lv_bipush (v := 37) G.1 G.2.1 d_Mo_join_74 (by decide) ?_
      exact hret _ _ _ _ _ _ _ ls h hP hD hS (Nat.le_refl _) (Nat.le_refl _) d_Mo_join_76
  · skip
    have h := h.2 c6
    refine lv_aload_n G.1 G.2.1 d_Mo_join_9 rfl (lv_at hl 0 rfl) ?_
    refine ugf (v := .ref (yP y a0 97)) G hP h_a0 iMo rfl 97 (by decide) rfl q3161 rfl rfl d_Mo_join_10 ?_
    refine lv_iload_n G.1 G.2.1 d_Mo_join_13 rfl (lv_at hl 1 rfl) ?_
    refine lv_iconst (v := 1) G.1 G.2.1 d_Mo_join_14 (by decide) ?_
    refine uzast G hP hD hS (kdp h_a0 rfl) (typ h_a0 rfl) h d_Mo_join_15 (fun s_26 H locs h hP hD hS => ?_)
    refine lv_aload_n G.1 G.2.1 d_Mo_join_16 rfl (lv_at hl 0 rfl) ?_
    refine W.eq (g2 := F0 m 17 ls [.ref (ad a0)]) rfl ?_
    refine ugf (v := .ref (yP y a0 98)) G hP h_a0 iMo rfl 98 (by decide) rfl q3162 rfl rfl d_Mo_join_17 ?_
    refine lv_iload_n G.1 G.2.1 d_Mo_join_20 rfl (lv_at hl 1 rfl) ?_
    refine lv_iload_n G.1 G.2.1 d_Mo_join_21 rfl (lv_at hl 3 rfl) ?_
    refine uiast G hP hD hS (kdp h_a0 rfl) (typ h_a0 rfl) h d_Mo_join_22 (fun s_27 H locs h hP hD hS => ?_)
    refine lv_aload_n G.1 G.2.1 d_Mo_join_23 rfl (lv_at hl 0 rfl) ?_
    refine ugf (v := .ref (yP y a0 70)) G hP h_a0 iMo rfl 70 (by decide) rfl q3134 rfl rfl d_Mo_join_24 ?_
    refine lv_iconst (v := 0) G.1 G.2.1 d_Mo_join_27 (by decide) ?_
    refine lv_aload_n G.1 G.2.1 d_Mo_join_28 rfl (lv_at hl 0 rfl) ?_
    refine ugf (v := .ref (yP y a0 99)) G hP h_a0 iMo rfl 99 (by decide) rfl q3163 rfl rfl d_Mo_join_29 ?_
    refine lv_bipush (v := 20) G.1 G.2.1 d_Mo_join_32 (by decide) ?_
    refine lv_iload_n G.1 G.2.1 d_Mo_join_34 rfl (lv_at hl 1 rfl) ?_
    refine lv_imul G.1 G.2.1 d_Mo_join_35 ?_
    refine W.eq (g2 := F0 m 36 ls [.int (20 * v1), .ref (yP y a0 99), .int 0, .ref (yP y a0 70)]) rfl ?_
    refine lv_aload_n G.1 G.2.1 d_Mo_join_36 rfl (lv_at hl 0 rfl) ?_
    refine ugf (v := .int (sV s_27 a0 102)) G hP h_a0 iMo rfl 102 (by decide) rfl q3166 rfl rfl d_Mo_join_37 ?_
    refine ucpy G hP hD hS (kdp h_a0 rfl) (typ h_a0 rfl) (kdp h_a0 rfl) (typ h_a0 rfl) rfl rfl h hl.1 q2595 q488 q487 q338 (Nat.le_of_ble_eq_true rfl) (Nat.le_of_ble_eq_true rfl) d_Mo_join_40 (fun s_28 H locs h hP hD hS => ?_)
    refine lv_aload_n G.1 G.2.1 d_Mo_join_43 rfl (lv_at hl 2 rfl) ?_
    refine lv_iconst (v := 0) G.1 G.2.1 d_Mo_join_44 (by decide) ?_
    refine lv_aload_n G.1 G.2.1 d_Mo_join_45 rfl (lv_at hl 0 rfl) ?_
    refine ugf (v := .ref (yP y a0 100)) G hP h_a0 iMo rfl 100 (by decide) rfl q3164 rfl rfl d_Mo_join_46 ?_
    refine lv_bipush (v := 28) G.1 G.2.1 d_Mo_join_49 (by decide) ?_
    refine lv_iload_n G.1 G.2.1 d_Mo_join_51 rfl (lv_at hl 1 rfl) ?_
    refine lv_imul G.1 G.2.1 d_Mo_join_52 ?_
    refine lv_iload_n G.1 G.2.1 d_Mo_join_53 rfl (lv_at hl 3 rfl) ?_
    refine ucpy G hP hD hS h_a2.1 h_a2.2 (kdp h_a0 rfl) (typ h_a0 rfl) rfl rfl h hl.1 q2595 q488 q487 q338 (Nat.le_of_ble_eq_true rfl) (Nat.le_of_ble_eq_true rfl) d_Mo_join_54 (fun s_29 H locs h hP hD hS => ?_)
    refine W.eq (g2 := F0 m 57 ls []) rfl ?_
    refine lv_aload_n G.1 G.2.1 d_Mo_join_57 rfl (lv_at hl 0 rfl) ?_
    refine lv_iconst (v := 1) G.1 G.2.1 d_Mo_join_58 (by decide) ?_
    obtain ⟨n_30, h⟩ := h
    refine upf G hP hD hS h 103 putV h_a0 iMo tMo tMo_ok nMo rfl (by decide) rfl q3167 rfl rfl fV (nb_n n_30) (nb_f n_30) d_Mo_join_59 (fun s_31 H locs h hP hD hS => ?_)
    refine lv_iconst (v := 0) G.1 G.2.1 d_Mo_join_62 (by decide) ?_
    exact hret _ _ _ _ _ _ _ ls h hP hD hS (Nat.le_refl _) (Nat.le_refl _) d_Mo_join_63
theorem q3168 : Cond.fieldLink "ClassWorksModel" 341 "ClassWorksModel" "oneKind" "[I" ∈ lw_ok := lw_okmem (List.mem_of_getElem? (i := 3168) (by decide +kernel)) rfl
theorem q4133 : Cond.methodLink "ClassWorksModel" 1275 y_Mo_join ∈ lw_ok := lw_okmem (List.mem_of_getElem? (i := 4133) (by decide +kernel)) rfl
theorem q4136 : Cond.code y_Mo_join b_Mo_join 6 (some .int) ∈ lw_ok := lw_okmem (List.mem_of_getElem? (i := 4136) (by decide +kernel)) rfl
theorem q4135 : Cond.instanceMethod y_Mo_join ∈ lw_ok := lw_okmem (List.mem_of_getElem? (i := 4135) (by decide +kernel)) rfl
theorem q309 : Cond.selects y_Mo_join.cls y_Mo_join y_Mo_join ∈ lw_ok := lw_okmem (List.mem_of_getElem? (i := 309) (by decide +kernel)) rfl
theorem w9_Mo_join : CWv y_Mo_join b_Mo_join 6 (some .int) 3 ∧ Cond.instanceMethod y_Mo_join ∈ lw_ok ∧ Cond.selects y_Mo_join.cls y_Mo_join y_Mo_join ∈ lw_ok := ⟨⟨q4136, q348, by decide +kernel, by decide +kernel, by decide +kernel⟩, q4135, q309⟩
def y_Mo_inferHandlers : MethodName := ⟨"ClassWorksModel", "inferHandlers", "(I)I"⟩
abbrev b_Mo_inferHandlers : ByteArray := prog_14_method_175_code
theorem d_Mo_inferHandlers_0 : decode b_Mo_inferHandlers 0 = .ok (.iconst 0, 1) := by decide +kernel
theorem d_Mo_inferHandlers_1 : decode b_Mo_inferHandlers 1 = .ok (.istore_n 2, 1) := by decide +kernel
theorem d_Mo_inferHandlers_2 : decode b_Mo_inferHandlers 2 = .ok (.bipush 8, 2) := by decide +kernel
theorem d_Mo_inferHandlers_4 : decode b_Mo_inferHandlers 4 = .ok (.aload_n 0, 1) := by decide +kernel
theorem d_Mo_inferHandlers_5 : decode b_Mo_inferHandlers 5 = .ok (.getfield 768, 3) := by decide +kernel
theorem d_Mo_inferHandlers_8 : decode b_Mo_inferHandlers 8 = .ok (.imul, 1) := by decide +kernel
theorem d_Mo_inferHandlers_9 : decode b_Mo_inferHandlers 9 = .ok (.istore_n 3, 1) := by decide +kernel
theorem d_Mo_inferHandlers_10 : decode b_Mo_inferHandlers 10 = .ok (.iload_n 3, 1) := by decide +kernel
theorem d_Mo_inferHandlers_11 : decode b_Mo_inferHandlers 11 = .ok (.bipush 8, 2) := by decide +kernel
theorem d_Mo_inferHandlers_13 : decode b_Mo_inferHandlers 13 = .ok (.aload_n 0, 1) := by decide +kernel
theorem d_Mo_inferHandlers_14 : decode b_Mo_inferHandlers 14 = .ok (.getfield 768, 3) := by decide +kernel
theorem d_Mo_inferHandlers_17 : decode b_Mo_inferHandlers 17 = .ok (.imul, 1) := by decide +kernel
theorem d_Mo_inferHandlers_18 : decode b_Mo_inferHandlers 18 = .ok (.aload_n 0, 1) := by decide +kernel
theorem d_Mo_inferHandlers_19 : decode b_Mo_inferHandlers 19 = .ok (.getfield 522, 3) := by decide +kernel
theorem d_Mo_inferHandlers_22 : decode b_Mo_inferHandlers 22 = .ok (.getfield 468, 3) := by decide +kernel
theorem d_Mo_inferHandlers_25 : decode b_Mo_inferHandlers 25 = .ok (.aload_n 0, 1) := by decide +kernel
theorem d_Mo_inferHandlers_26 : decode b_Mo_inferHandlers 26 = .ok (.getfield 768, 3) := by decide +kernel
theorem d_Mo_inferHandlers_29 : decode b_Mo_inferHandlers 29 = .ok (.iaload, 1) := by decide +kernel
theorem d_Mo_inferHandlers_30 : decode b_Mo_inferHandlers 30 = .ok (.iadd, 1) := by decide +kernel
theorem d_Mo_inferHandlers_31 : decode b_Mo_inferHandlers 31 = .ok (.if_icmp .ge 117, 3) := by decide +kernel
theorem d_Mo_inferHandlers_34 : decode b_Mo_inferHandlers 34 = .ok (.iload_n 2, 1) := by decide +kernel
theorem d_Mo_inferHandlers_35 : decode b_Mo_inferHandlers 35 = .ok (.ifCond .ne 113, 3) := by decide +kernel
theorem d_Mo_inferHandlers_38 : decode b_Mo_inferHandlers 38 = .ok (.iload_n 1, 1) := by decide +kernel
theorem d_Mo_inferHandlers_39 : decode b_Mo_inferHandlers 39 = .ok (.aload_n 0, 1) := by decide +kernel
theorem d_Mo_inferHandlers_40 : decode b_Mo_inferHandlers 40 = .ok (.getfield 522, 3) := by decide +kernel
theorem d_Mo_inferHandlers_43 : decode b_Mo_inferHandlers 43 = .ok (.getfield 713, 3) := by decide +kernel
theorem d_Mo_inferHandlers_46 : decode b_Mo_inferHandlers 46 = .ok (.iload_n 3, 1) := by decide +kernel
theorem d_Mo_inferHandlers_47 : decode b_Mo_inferHandlers 47 = .ok (.iaload, 1) := by decide +kernel
theorem d_Mo_inferHandlers_48 : decode b_Mo_inferHandlers 48 = .ok (.if_icmp .lt 94, 3) := by decide +kernel
theorem d_Mo_inferHandlers_51 : decode b_Mo_inferHandlers 51 = .ok (.iload_n 1, 1) := by decide +kernel
theorem d_Mo_inferHandlers_52 : decode b_Mo_inferHandlers 52 = .ok (.aload_n 0, 1) := by decide +kernel
theorem d_Mo_inferHandlers_53 : decode b_Mo_inferHandlers 53 = .ok (.getfield 522, 3) := by decide +kernel
theorem d_Mo_inferHandlers_56 : decode b_Mo_inferHandlers 56 = .ok (.getfield 716, 3) := by decide +kernel
theorem d_Mo_inferHandlers_59 : decode b_Mo_inferHandlers 59 = .ok (.iload_n 3, 1) := by decide +kernel
theorem d_Mo_inferHandlers_60 : decode b_Mo_inferHandlers 60 = .ok (.iaload, 1) := by decide +kernel
theorem d_Mo_inferHandlers_61 : decode b_Mo_inferHandlers 61 = .ok (.if_icmp .ge 81, 3) := by decide +kernel
theorem d_Mo_inferHandlers_64 : decode b_Mo_inferHandlers 64 = .ok (.aload_n 0, 1) := by decide +kernel
theorem d_Mo_inferHandlers_65 : decode b_Mo_inferHandlers 65 = .ok (.getfield 341, 3) := by decide +kernel
theorem d_Mo_inferHandlers_68 : decode b_Mo_inferHandlers 68 = .ok (.iconst 0, 1) := by decide +kernel
theorem d_Mo_inferHandlers_69 : decode b_Mo_inferHandlers 69 = .ok (.bipush 16, 2) := by decide +kernel
theorem d_Mo_inferHandlers_71 : decode b_Mo_inferHandlers 71 = .ok (.aload_n 0, 1) := by decide +kernel
theorem d_Mo_inferHandlers_72 : decode b_Mo_inferHandlers 72 = .ok (.getfield 522, 3) := by decide +kernel
theorem d_Mo_inferHandlers_75 : decode b_Mo_inferHandlers 75 = .ok (.getfield 722, 3) := by decide +kernel
theorem d_Mo_inferHandlers_78 : decode b_Mo_inferHandlers 78 = .ok (.iload_n 3, 1) := by decide +kernel
theorem d_Mo_inferHandlers_79 : decode b_Mo_inferHandlers 79 = .ok (.iaload, 1) := by decide +kernel
theorem d_Mo_inferHandlers_80 : decode b_Mo_inferHandlers 80 = .ok (.ifCond .ge 12, 3) := by decide +kernel
theorem d_Mo_inferHandlers_83 : decode b_Mo_inferHandlers 83 = .ok (.aload_n 0, 1) := by decide +kernel
theorem d_Mo_inferHandlers_84 : decode b_Mo_inferHandlers 84 = .ok (.getfield 153, 3) := by decide +kernel
theorem d_Mo_inferHandlers_87 : decode b_Mo_inferHandlers 87 = .ok (.iconst 1, 1) := by decide +kernel
theorem d_Mo_inferHandlers_88 : decode b_Mo_inferHandlers 88 = .ok (.iadd, 1) := by decide +kernel
theorem d_Mo_inferHandlers_89 : decode b_Mo_inferHandlers 89 = .ok (.goto 12, 3) := by decide +kernel
theorem d_Mo_inferHandlers_92 : decode b_Mo_inferHandlers 92 = .ok (.aload_n 0, 1) := by decide +kernel
theorem d_Mo_inferHandlers_93 : decode b_Mo_inferHandlers 93 = .ok (.getfield 522, 3) := by decide +kernel
theorem d_Mo_inferHandlers_96 : decode b_Mo_inferHandlers 96 = .ok (.getfield 722, 3) := by decide +kernel
theorem d_Mo_inferHandlers_99 : decode b_Mo_inferHandlers 99 = .ok (.iload_n 3, 1) := by decide +kernel
theorem d_Mo_inferHandlers_100 : decode b_Mo_inferHandlers 100 = .ok (.iaload, 1) := by decide +kernel
theorem d_Mo_inferHandlers_101 : decode b_Mo_inferHandlers 101 = .ok (.iadd, 1) := by decide +kernel
theorem d_Mo_inferHandlers_102 : decode b_Mo_inferHandlers 102 = .ok (.iastore, 1) := by decide +kernel
theorem d_Mo_inferHandlers_103 : decode b_Mo_inferHandlers 103 = .ok (.aload_n 0, 1) := by decide +kernel
theorem d_Mo_inferHandlers_104 : decode b_Mo_inferHandlers 104 = .ok (.getfield 522, 3) := by decide +kernel
theorem d_Mo_inferHandlers_107 : decode b_Mo_inferHandlers 107 = .ok (.getfield 456, 3) := by decide +kernel
theorem d_Mo_inferHandlers_110 : decode b_Mo_inferHandlers 110 = .ok (.aload_n 0, 1) := by decide +kernel
theorem d_Mo_inferHandlers_111 : decode b_Mo_inferHandlers 111 = .ok (.getfield 768, 3) := by decide +kernel
theorem d_Mo_inferHandlers_114 : decode b_Mo_inferHandlers 114 = .ok (.iaload, 1) := by decide +kernel
theorem d_Mo_inferHandlers_115 : decode b_Mo_inferHandlers 115 = .ok (.ifCond .ne 8, 3) := by decide +kernel
theorem d_Mo_inferHandlers_118 : decode b_Mo_inferHandlers 118 = .ok (.bipush 30, 2) := by decide +kernel
theorem d_Mo_inferHandlers_120 : decode b_Mo_inferHandlers 120 = .ok (.goto 21, 3) := by decide +kernel
theorem d_Mo_inferHandlers_123 : decode b_Mo_inferHandlers 123 = .ok (.aload_n 0, 1) := by decide +kernel
theorem d_Mo_inferHandlers_124 : decode b_Mo_inferHandlers 124 = .ok (.aload_n 0, 1) := by decide +kernel
theorem d_Mo_inferHandlers_125 : decode b_Mo_inferHandlers 125 = .ok (.getfield 522, 3) := by decide +kernel
theorem d_Mo_inferHandlers_128 : decode b_Mo_inferHandlers 128 = .ok (.getfield 719, 3) := by decide +kernel
theorem d_Mo_inferHandlers_131 : decode b_Mo_inferHandlers 131 = .ok (.iload_n 3, 1) := by decide +kernel
theorem d_Mo_inferHandlers_132 : decode b_Mo_inferHandlers 132 = .ok (.iaload, 1) := by decide +kernel
theorem d_Mo_inferHandlers_133 : decode b_Mo_inferHandlers 133 = .ok (.aload_n 0, 1) := by decide +kernel
theorem d_Mo_inferHandlers_134 : decode b_Mo_inferHandlers 134 = .ok (.getfield 341, 3) := by decide +kernel
theorem d_Mo_inferHandlers_137 : decode b_Mo_inferHandlers 137 = .ok (.iconst 1, 1) := by decide +kernel
theorem d_Mo_inferHandlers_138 : decode b_Mo_inferHandlers 138 = .ok (.invokevirtual 1275, 3) := by decide +kernel
theorem d_Mo_inferHandlers_141 : decode b_Mo_inferHandlers 141 = .ok (.istore_n 2, 1) := by decide +kernel
theorem d_Mo_inferHandlers_142 : decode b_Mo_inferHandlers 142 = .ok (.iinc 3 1, 3) := by decide +kernel
theorem d_Mo_inferHandlers_145 : decode b_Mo_inferHandlers 145 = .ok (.goto (-135), 3) := by decide +kernel
theorem d_Mo_inferHandlers_148 : decode b_Mo_inferHandlers 148 = .ok (.iload_n 2, 1) := by decide +kernel
theorem d_Mo_inferHandlers_149 : decode b_Mo_inferHandlers 149 = .ok (.ireturn, 1) := by decide +kernel
abbrev ru_Mo_inferHandlers : Room := { frames := 5, cells := 0, slots := 0, locals := 145 }
def wj_Mo_inferHandlers_148 (y : Ly) (Post : St → Int32 → Prop) (a0 : Nat) (s_j148 : St) (x2j148 : Int32) : Prop := Post s_j148 x2j148
def wj_Mo_inferHandlers_142 (y : Ly) (Post : St → Int32 → Prop) (K_10 : St → Int32 → Int32 → Int32 → Prop) (a0 : Nat) (s_j142 : St) (x1j142 : Int32) (x2j142 : Int32) (x3j142 : Int32) : Prop := K_10 s_j142 x1j142 x2j142 (x3j142 + 1)
def wj_Mo_inferHandlers_141 (y : Ly) (Post : St → Int32 → Prop) (K_10 : St → Int32 → Int32 → Int32 → Prop) (a0 : Nat) (s_j141 : St) (x1j141 : Int32) (x3j141 : Int32) (z0j141 : Int32) : Prop := wj_Mo_inferHandlers_142 y Post K_10 a0 s_j141 x1j141 z0j141 x3j141
def wj_Mo_inferHandlers_101 (y : Ly) (Post : St → Int32 → Prop) (K_10 : St → Int32 → Int32 → Int32 → Prop) (a0 : Nat) (s_j101 : St) (x1j101 : Int32) (x3j101 : Int32) (z1j101 : Int32) (z2j101 : Int32) (z3j101 : Int32) : Prop := xS y s_j101 a0 104 z1j101 (z2j101 + z3j101) (fun s_17 : St => ∃ b_18 : Nat, sO s_17 a0 45 = some b_18 ∧ cl b_18 = 13 ∧ xA y s_17 b_18 21 (sV s_17 a0 75) (fun x_21 : Int32 => ((¬ x_21 = 0 → ∃ b_22 : Nat, sO s_17 a0 45 = some b_22 ∧ cl b_22 = 13 ∧ xA y s_17 b_22 28 x3j101 (fun x_25 : Int32 => wu_Mo_join y (fun (s_27 : St) (r_26 : Int32) => wj_Mo_inferHandlers_141 y Post K_10 a0 s_27 x1j101 x3j101 r_26) s_17 a0 x_25 a0 104 1)) ∧ (x_21 = 0 → wj_Mo_inferHandlers_141 y Post K_10 a0 s_17 x1j101 x3j101 30))))
def wb_Mo_inferHandlers_10 (y : Ly) (Post : St → Int32 → Prop) (K_10 : St → Int32 → Int32 → Int32 → Prop) (a0 : Nat) (s_h10 : St) (x1h10 : Int32) (x2h10 : Int32) (x3h10 : Int32) : Prop := ∃ b_1 : Nat, sO s_h10 a0 45 = some b_1 ∧ cl b_1 = 13 ∧ xA y s_h10 b_1 25 (sV s_h10 a0 75) (fun x_4 : Int32 => ((((8 * (sV s_h10 a0 75)) + x_4) ≤ x3h10 → wj_Mo_inferHandlers_148 y Post a0 s_h10 x2h10) ∧ (¬ (((8 * (sV s_h10 a0 75)) + x_4) ≤ x3h10) → ((¬ x2h10 = 0 → wj_Mo_inferHandlers_148 y Post a0 s_h10 x2h10) ∧ (x2h10 = 0 → ∃ b_5 : Nat, sO s_h10 a0 45 = some b_5 ∧ cl b_5 = 13 ∧ xA y s_h10 b_5 26 x3h10 (fun x_8 : Int32 => ((x1h10 < x_8 → wj_Mo_inferHandlers_142 y Post K_10 a0 s_h10 x1h10 x2h10 x3h10) ∧ (¬ (x1h10 < x_8) → ∃ b_9 : Nat, sO s_h10 a0 45 = some b_9 ∧ cl b_9 = 13 ∧ xA y s_h10 b_9 27 x3h10 (fun x_12 : Int32 => ((x_12 ≤ x1h10 → wj_Mo_inferHandlers_142 y Post K_10 a0 s_h10 x1h10 x2h10 x3h10) ∧ (¬ (x_12 ≤ x1h10) → ∃ b_13 : Nat, sO s_h10 a0 45 = some b_13 ∧ cl b_13 = 13 ∧ xA y s_h10 b_13 29 x3h10 (fun x_16 : Int32 => ((0 ≤ x_16 → ∃ b_28 : Nat, sO s_h10 a0 45 = some b_28 ∧ cl b_28 = 13 ∧ xA y s_h10 b_28 29 x3h10 (fun x_31 : Int32 => wj_Mo_inferHandlers_101 y Post K_10 a0 s_h10 x1h10 x3h10 0 16 x_31)) ∧ (¬ (0 ≤ x_16) → wj_Mo_inferHandlers_101 y Post K_10 a0 s_h10 x1h10 x3h10 0 16 ((sV s_h10 a0 8) + 1)))))))))))))))
def wl_Mo_inferHandlers_10 (y : Ly) (Post : St → Int32 → Prop) (a0 : Nat) (s_h10 : St) (x1h10 : Int32) (x2h10 : Int32) (x3h10 : Int32) : Prop := ∃ (I : St → Int32 → Int32 → Int32 → Prop) (μ : St → Int32 → Int32 → Int32 → Nat), I s_h10 x1h10 x2h10 x3h10 ∧ ∀ (u : St) (t0 : Int32) (t1 : Int32) (t2 : Int32), I u t0 t1 t2 → wb_Mo_inferHandlers_10 y Post (fun z t0q t1q t2q => I z t0q t1q t2q ∧ μ z t0q t1q t2q < μ u t0 t1 t2) a0 u t0 t1 t2
def wu_Mo_inferHandlers (y : Ly) (Post : St → Int32 → Prop) (σ : St) (a0 : Nat) (v1 : Int32) : Prop := wl_Mo_inferHandlers_10 y Post a0 σ v1 0 (8 * (sV σ a0 75))
set_option maxHeartbeats 4000000 in
set_option maxRecDepth 100000 in
theorem cu_Mo_inferHandlers (l : Launch) (D : va_G) (g : Nat → ClassId) (ad : Nat → Nat) (y : Ly) (Post : St → Int32 → Prop) (σ : St) (a0 : Nat) (v1 : Int32) (sz : Nat) (h_a0 : cl a0 = 14) (h : wu_Mo_inferHandlers y Post σ a0 v1) : Met l y_Mo_inferHandlers (mw y_Mo_inferHandlers b_Mo_inferHandlers 4 (some .int)) ru_Mo_inferHandlers (PC g D [] [.ref (ad a0), .int v1] sz (ws g ad y σ)) (va_Qi (fun (r : Int32) (u : St) => Post u r) (QW D (va_A (ws g ad y σ) sz) (fun u => ws g ad y u)) (va_A (ws g ad y σ) sz)) 0 0 (va_A (ws g ad y σ) sz) := by
  refine ofI (by decide +kernel) (Nat.le_of_ble_eq_true rfl) ?_
  intro p e s m args below meth c A Q ls H locs G hsz hP hD hS hl hret
  subst hsz
  have hl : lv_has ls 4 [(0, .ref (ad a0)), (1, .int v1)] := hl
  unfold wu_Mo_inferHandlers at h
  refine lv_iconst (v := 0) G.1 G.2.1 d_Mo_inferHandlers_0 (by decide) ?_
  refine lv_istore_n (lv' := [(2, .int 0), (0, .ref (ad a0)), (1, .int v1)]) G.1 G.2.1 d_Mo_inferHandlers_1 rfl hl (by decide) rfl (fun ls hl => ?_)
  refine lv_bipush (v := 8) G.1 G.2.1 d_Mo_inferHandlers_2 (by decide) ?_
  refine lv_aload_n G.1 G.2.1 d_Mo_inferHandlers_4 rfl (lv_at hl 1 rfl) ?_
  refine ugf (v := .int (sV σ a0 75)) G hP h_a0 iMo rfl 75 (by decide) rfl q3139 rfl rfl d_Mo_inferHandlers_5 ?_
  refine lv_imul G.1 G.2.1 d_Mo_inferHandlers_8 ?_
  refine lv_istore_n (lv' := [(3, .int (8 * (sV σ a0 75))), (2, .int 0), (0, .ref (ad a0)), (1, .int v1)]) G.1 G.2.1 d_Mo_inferHandlers_9 rfl hl (by decide) rfl (fun ls hl => ?_)
  unfold wl_Mo_inferHandlers_10 at h
  obtain ⟨I_10, μ_10, hI_10, hB_10⟩ := h
  have L_10 : ∀ (n_10 : Nat) (s_h10 : St) (x1h10 : Int32) (x2h10 : Int32) (x3h10 : Int32), μ_10 s_h10 x1h10 x2h10 x3h10 < n_10 → I_10 s_h10 x1h10 x2h10 x3h10 → ∀ (H : Heap) (locs : List Loc), va_P D CL (ws g ad y s_h10) H → va_D A (ws g ad y s_h10) → va_S A s.heap H locs → ∀ ls, lv_has ls 4 [(0, .ref (ad a0)), (1, .int x1h10), (2, .int x2h10), (3, .int x3h10)] → W p l e ru_Mo_inferHandlers s m args below meth c H locs 0 0 Q (F0 m 10 ls []) := by
    intro n_10
    induction n_10 with
    | zero => intro s_h10 x1h10 x2h10 x3h10 hμ; exact absurd hμ (Nat.not_lt_zero _)
    | succ n_10 ih_10 =>
      intro s_h10 x1h10 x2h10 x3h10 hμ_10 hJ H locs hP hD hS ls hl
      obtain ⟨K_10, hK_10, h⟩ : ∃ K : St → Int32 → Int32 → Int32 → Prop, (∀ z (t0 : Int32) (t1 : Int32) (t2 : Int32), K z t0 t1 t2 → I_10 z t0 t1 t2 ∧ μ_10 z t0 t1 t2 < μ_10 s_h10 x1h10 x2h10 x3h10) ∧ wb_Mo_inferHandlers_10 y Post K a0 s_h10 x1h10 x2h10 x3h10 := ⟨_, fun _ _ _ _ h => h, hB_10 s_h10 x1h10 x2h10 x3h10 hJ⟩
      unfold wb_Mo_inferHandlers_10 at h
      refine lv_iload_n G.1 G.2.1 d_Mo_inferHandlers_10 rfl (lv_at hl 3 rfl) ?_
      refine lv_bipush (v := 8) G.1 G.2.1 d_Mo_inferHandlers_11 (by decide) ?_
      refine lv_aload_n G.1 G.2.1 d_Mo_inferHandlers_13 rfl (lv_at hl 0 rfl) ?_
      refine ugf (v := .int (sV s_h10 a0 75)) G hP h_a0 iMo rfl 75 (by decide) rfl q3139 rfl rfl d_Mo_inferHandlers_14 ?_
      refine lv_imul G.1 G.2.1 d_Mo_inferHandlers_17 ?_
      refine lv_aload_n G.1 G.2.1 d_Mo_inferHandlers_18 rfl (lv_at hl 0 rfl) ?_
      obtain ⟨b_1, e_2, c_3, h⟩ := h
      refine ugf (v := .ref (ad b_1)) G hP h_a0 iMo rfl 45 (by decide) rfl q3109 rfl (by show va_rf ((sO s_h10 a0 45).map ad) = _; rw [e_2]; rfl) d_Mo_inferHandlers_19 ?_
      refine ugfN (v := .ref (yP y b_1 25)) G hP c_3 iMw rfl 25 (by decide) rfl q2754 rfl rfl d_Mo_inferHandlers_22 ?_
      refine lv_aload_n G.1 G.2.1 d_Mo_inferHandlers_25 rfl (lv_at hl 0 rfl) ?_
      refine ugf (v := .int (sV s_h10 a0 75)) G hP h_a0 iMo rfl 75 (by decide) rfl q3139 rfl rfl d_Mo_inferHandlers_26 ?_
      refine uiald G hP (kdp c_3 rfl) (typ c_3 rfl) h d_Mo_inferHandlers_29 (fun x_4 h => ?_)
      refine W.eq (g2 := F0 m 30 ls [.int x_4, .int (8 * (sV s_h10 a0 75)), .int x3h10]) rfl ?_
      refine lv_iadd G.1 G.2.1 d_Mo_inferHandlers_30 ?_
      have J_148 : ∀ (s_j148 : St) (x2j148 : Int32) (H : Heap) (locs : List Loc), wj_Mo_inferHandlers_148 y Post a0 s_j148 x2j148 → va_P D CL (ws g ad y s_j148) H → va_D A (ws g ad y s_j148) → va_S A s.heap H locs → ∀ ls, lv_has ls 4 [(2, .int x2j148)] → W p l e ru_Mo_inferHandlers s m args below meth c H locs 0 0 Q (F0 m 148 ls []) := by
        intro s_j148 x2j148 H locs h hP hD hS ls hl
        unfold wj_Mo_inferHandlers_148 at h
        refine lv_iload_n G.1 G.2.1 d_Mo_inferHandlers_148 rfl (lv_at hl 0 rfl) ?_
        exact hret _ _ _ _ _ _ _ ls h hP hD hS (Nat.le_refl _) (Nat.le_refl _) d_Mo_inferHandlers_149
      refine lv_icmp_ge (tgt := 148) G.1 G.2.1 d_Mo_inferHandlers_31 (by decide) (fun c31 => ?_) (fun c31 => ?_)
      · skip
        have h := h.1 c31
        exact J_148 s_h10 x2h10 H locs h hP hD hS ls (lv_sub hl [2] rfl)
      · skip
        have h := h.2 c31
        refine lv_iload_n G.1 G.2.1 d_Mo_inferHandlers_34 rfl (lv_at hl 2 rfl) ?_
        refine lv_if_ne (tgt := 148) G.1 G.2.1 d_Mo_inferHandlers_35 (by decide) (fun c35 => ?_) (fun c35 => ?_)
        · skip
          have h := h.1 c35
          exact J_148 s_h10 x2h10 H locs h hP hD hS ls (lv_sub hl [2] rfl)
        · skip
          have h := h.2 c35
          refine lv_iload_n G.1 G.2.1 d_Mo_inferHandlers_38 rfl (lv_at hl 1 rfl) ?_
          refine lv_aload_n G.1 G.2.1 d_Mo_inferHandlers_39 rfl (lv_at hl 0 rfl) ?_
          obtain ⟨b_5, e_6, c_7, h⟩ := h
          refine ugf (v := .ref (ad b_5)) G hP h_a0 iMo rfl 45 (by decide) rfl q3109 rfl (by show va_rf ((sO s_h10 a0 45).map ad) = _; rw [e_6]; rfl) d_Mo_inferHandlers_40 ?_
          refine ugfN (v := .ref (yP y b_5 26)) G hP c_7 iMw rfl 26 (by decide) rfl q2756 rfl rfl d_Mo_inferHandlers_43 ?_
          refine lv_iload_n G.1 G.2.1 d_Mo_inferHandlers_46 rfl (lv_at hl 3 rfl) ?_
          refine uiald G hP (kdp c_7 rfl) (typ c_7 rfl) h d_Mo_inferHandlers_47 (fun x_8 h => ?_)
          have J_142 : ∀ (s_j142 : St) (x1j142 : Int32) (x2j142 : Int32) (x3j142 : Int32) (H : Heap) (locs : List Loc), wj_Mo_inferHandlers_142 y Post K_10 a0 s_j142 x1j142 x2j142 x3j142 → va_P D CL (ws g ad y s_j142) H → va_D A (ws g ad y s_j142) → va_S A s.heap H locs → ∀ ls, lv_has ls 4 [(0, .ref (ad a0)), (1, .int x1j142), (2, .int x2j142), (3, .int x3j142)] → W p l e ru_Mo_inferHandlers s m args below meth c H locs 0 0 Q (F0 m 142 ls []) := by
            intro s_j142 x1j142 x2j142 x3j142 H locs h hP hD hS ls hl
            unfold wj_Mo_inferHandlers_142 at h
            refine lv_iinc (v := x3j142 + 1) (lv' := [(3, .int (x3j142 + 1)), (0, .ref (ad a0)), (1, .int x1j142), (2, .int x2j142)]) G.1 G.2.1 d_Mo_inferHandlers_142 hl (k := 3) rfl rfl (by decide) rfl (fun ls hl => ?_)
            refine lv_goto (tgt := 10) G.1 G.2.1 d_Mo_inferHandlers_145 (by decide) ?_
            have h := hK_10 s_j142 x1j142 x2j142 (x3j142 + 1) h
            exact ih_10 s_j142 x1j142 x2j142 (x3j142 + 1) (Nat.lt_of_lt_of_le h.2 (Nat.le_of_lt_succ hμ_10)) h.1 H locs hP hD hS ls (lv_sub hl [1, 2, 3, 0] rfl)
          refine lv_icmp_lt (tgt := 142) G.1 G.2.1 d_Mo_inferHandlers_48 (by decide) (fun c48 => ?_) (fun c48 => ?_)
          · skip
            have h := h.1 c48
            exact J_142 s_h10 x1h10 x2h10 x3h10 H locs h hP hD hS ls (lv_sub hl [0, 1, 2, 3] rfl)
          · skip
            have h := h.2 c48
            refine lv_iload_n G.1 G.2.1 d_Mo_inferHandlers_51 rfl (lv_at hl 1 rfl) ?_
            refine W.eq (g2 := F0 m 52 ls [.int x1h10]) rfl ?_
            refine lv_aload_n G.1 G.2.1 d_Mo_inferHandlers_52 rfl (lv_at hl 0 rfl) ?_
            obtain ⟨b_9, e_10, c_11, h⟩ := h
            refine ugf (v := .ref (ad b_9)) G hP h_a0 iMo rfl 45 (by decide) rfl q3109 rfl (by show va_rf ((sO s_h10 a0 45).map ad) = _; rw [e_10]; rfl) d_Mo_inferHandlers_53 ?_
            refine ugfN (v := .ref (yP y b_9 27)) G hP c_11 iMw rfl 27 (by decide) rfl q2758 rfl rfl d_Mo_inferHandlers_56 ?_
            refine lv_iload_n G.1 G.2.1 d_Mo_inferHandlers_59 rfl (lv_at hl 3 rfl) ?_
            refine uiald G hP (kdp c_11 rfl) (typ c_11 rfl) h d_Mo_inferHandlers_60 (fun x_12 h => ?_)
            refine lv_icmp_ge (tgt := 142) G.1 G.2.1 d_Mo_inferHandlers_61 (by decide) (fun c61 => ?_) (fun c61 => ?_)
            · skip
              have h := h.1 c61
              exact J_142 s_h10 x1h10 x2h10 x3h10 H locs h hP hD hS ls (lv_sub hl [0, 1, 2, 3] rfl)
            · skip
              have h := h.2 c61
              refine lv_aload_n G.1 G.2.1 d_Mo_inferHandlers_64 rfl (lv_at hl 0 rfl) ?_
              refine ugf (v := .ref (yP y a0 104)) G hP h_a0 iMo rfl 104 (by decide) rfl q3168 rfl rfl d_Mo_inferHandlers_65 ?_
              refine lv_iconst (v := 0) G.1 G.2.1 d_Mo_inferHandlers_68 (by decide) ?_
              refine lv_bipush (v := 16) G.1 G.2.1 d_Mo_inferHandlers_69 (by decide) ?_
              refine lv_aload_n G.1 G.2.1 d_Mo_inferHandlers_71 rfl (lv_at hl 0 rfl) ?_
              obtain ⟨b_13, e_14, c_15, h⟩ := h
              refine ugf (v := .ref (ad b_13)) G hP h_a0 iMo rfl 45 (by decide) rfl q3109 rfl (by show va_rf ((sO s_h10 a0 45).map ad) = _; rw [e_14]; rfl) d_Mo_inferHandlers_72 ?_
              refine W.eq (g2 := F0 m 75 ls [.ref (ad b_13), .int 16, .int 0, .ref (yP y a0 104)]) rfl ?_
              refine ugfN (v := .ref (yP y b_13 29)) G hP c_15 iMw rfl 29 (by decide) rfl q2762 rfl rfl d_Mo_inferHandlers_75 ?_
              refine lv_iload_n G.1 G.2.1 d_Mo_inferHandlers_78 rfl (lv_at hl 3 rfl) ?_
              refine uiald G hP (kdp c_15 rfl) (typ c_15 rfl) h d_Mo_inferHandlers_79 (fun x_16 h => ?_)
              have J_101 : ∀ (s_j101 : St) (x1j101 : Int32) (x3j101 : Int32) (z1j101 : Int32) (z2j101 : Int32) (z3j101 : Int32) (H : Heap) (locs : List Loc), wj_Mo_inferHandlers_101 y Post K_10 a0 s_j101 x1j101 x3j101 z1j101 z2j101 z3j101 → va_P D CL (ws g ad y s_j101) H → va_D A (ws g ad y s_j101) → va_S A s.heap H locs → ∀ ls, lv_has ls 4 [(0, .ref (ad a0)), (1, .int x1j101), (3, .int x3j101)] → W p l e ru_Mo_inferHandlers s m args below meth c H locs 0 0 Q (F0 m 101 ls [.int z3j101, .int z2j101, .int z1j101, .ref (yP y a0 104)]) := by
                intro s_j101 x1j101 x3j101 z1j101 z2j101 z3j101 H locs h hP hD hS ls hl
                unfold wj_Mo_inferHandlers_101 at h
                refine lv_iadd G.1 G.2.1 d_Mo_inferHandlers_101 ?_
                refine uiast G hP hD hS (kdp h_a0 rfl) (typ h_a0 rfl) h d_Mo_inferHandlers_102 (fun s_17 H locs h hP hD hS => ?_)
                refine lv_aload_n G.1 G.2.1 d_Mo_inferHandlers_103 rfl (lv_at hl 0 rfl) ?_
                obtain ⟨b_18, e_19, c_20, h⟩ := h
                refine ugf (v := .ref (ad b_18)) G hP h_a0 iMo rfl 45 (by decide) rfl q3109 rfl (by show va_rf ((sO s_17 a0 45).map ad) = _; rw [e_19]; rfl) d_Mo_inferHandlers_104 ?_
                refine ugfN (v := .ref (yP y b_18 21)) G hP c_20 iMw rfl 21 (by decide) rfl q2746 rfl rfl d_Mo_inferHandlers_107 ?_
                refine lv_aload_n G.1 G.2.1 d_Mo_inferHandlers_110 rfl (lv_at hl 0 rfl) ?_
                refine ugf (v := .int (sV s_17 a0 75)) G hP h_a0 iMo rfl 75 (by decide) rfl q3139 rfl rfl d_Mo_inferHandlers_111 ?_
                refine uiald G hP (kdp c_20 rfl) (typ c_20 rfl) h d_Mo_inferHandlers_114 (fun x_21 h => ?_)
                have J_141 : ∀ (s_j141 : St) (x1j141 : Int32) (x3j141 : Int32) (z0j141 : Int32) (H : Heap) (locs : List Loc), wj_Mo_inferHandlers_141 y Post K_10 a0 s_j141 x1j141 x3j141 z0j141 → va_P D CL (ws g ad y s_j141) H → va_D A (ws g ad y s_j141) → va_S A s.heap H locs → ∀ ls, lv_has ls 4 [(0, .ref (ad a0)), (1, .int x1j141), (3, .int x3j141)] → W p l e ru_Mo_inferHandlers s m args below meth c H locs 0 0 Q (F0 m 141 ls [.int z0j141]) := by
                  intro s_j141 x1j141 x3j141 z0j141 H locs h hP hD hS ls hl
                  unfold wj_Mo_inferHandlers_141 at h
                  refine lv_istore_n (lv' := [(2, .int z0j141), (0, .ref (ad a0)), (1, .int x1j141), (3, .int x3j141)]) G.1 G.2.1 d_Mo_inferHandlers_141 rfl hl (by decide) rfl (fun ls hl => ?_)
                  exact J_142 s_j141 x1j141 z0j141 x3j141 H locs h hP hD hS ls (lv_sub hl [1, 2, 0, 3] rfl)
                refine lv_if_ne (tgt := 123) G.1 G.2.1 d_Mo_inferHandlers_115 (by decide) (fun c115 => ?_) (fun c115 => ?_)
                · skip
                  have h := h.1 c115
                  refine lv_aload_n G.1 G.2.1 d_Mo_inferHandlers_123 rfl (lv_at hl 0 rfl) ?_
                  refine lv_aload_n G.1 G.2.1 d_Mo_inferHandlers_124 rfl (lv_at hl 0 rfl) ?_
                  refine W.eq (g2 := F0 m 125 ls [.ref (ad a0), .ref (ad a0)]) rfl ?_
                  obtain ⟨b_22, e_23, c_24, h⟩ := h
                  refine ugf (v := .ref (ad b_22)) G hP h_a0 iMo rfl 45 (by decide) rfl q3109 rfl (by show va_rf ((sO s_17 a0 45).map ad) = _; rw [e_23]; rfl) d_Mo_inferHandlers_125 ?_
                  refine ugfN (v := .ref (yP y b_22 28)) G hP c_24 iMw rfl 28 (by decide) rfl q2760 rfl rfl d_Mo_inferHandlers_128 ?_
                  refine lv_iload_n G.1 G.2.1 d_Mo_inferHandlers_131 rfl (lv_at hl 2 rfl) ?_
                  refine uiald G hP (kdp c_24 rfl) (typ c_24 rfl) h d_Mo_inferHandlers_132 (fun x_25 h => ?_)
                  refine lv_aload_n G.1 G.2.1 d_Mo_inferHandlers_133 rfl (lv_at hl 0 rfl) ?_
                  refine ugf (v := .ref (yP y a0 104)) G hP h_a0 iMo rfl 104 (by decide) rfl q3168 rfl rfl d_Mo_inferHandlers_134 ?_
                  refine lv_iconst (v := 1) G.1 G.2.1 d_Mo_inferHandlers_137 (by decide) ?_
                  refine ucVi (As := [.int x_25, .ref (yP y a0 104), .int 1]) (rest := []) G hP hD hS (cu_Mo_join l D g ad y _ s_17 a0 x_25 a0 104 1 H.size h_a0 ⟨(kdp h_a0 rfl), (typ h_a0 rfl)⟩ h) w9_Mo_join q4133 ⟨Nat.le_of_ble_eq_true rfl, Nat.le_of_ble_eq_true rfl⟩ rfl rfl h_a0 (q := (RMo, TMo, 131)) rfl rfl hl.1 rfl (Nat.le_of_ble_eq_true rfl) rfl ⟨Nat.le_refl _, Nat.le_refl _⟩ d_Mo_inferHandlers_138 (fun r_26 s_27 H locs h hP hD hS => ?_)
                  exact J_141 s_27 x1j101 x3j101 r_26 H locs h hP hD hS ls (lv_sub hl [0, 1, 2] rfl)
                · skip
                  have h := h.2 c115
                  refine lv_bipush (v := 30) G.1 G.2.1 d_Mo_inferHandlers_118 (by decide) ?_
                  refine lv_goto (tgt := 141) G.1 G.2.1 d_Mo_inferHandlers_120 (by decide) ?_
                  exact J_141 s_17 x1j101 x3j101 30 H locs h hP hD hS ls (lv_sub hl [0, 1, 2] rfl)
              refine lv_if_ge (tgt := 92) G.1 G.2.1 d_Mo_inferHandlers_80 (by decide) (fun c80 => ?_) (fun c80 => ?_)
              · skip
                have h := h.1 c80
                refine lv_aload_n G.1 G.2.1 d_Mo_inferHandlers_92 rfl (lv_at hl 0 rfl) ?_
                obtain ⟨b_28, e_29, c_30, h⟩ := h
                refine ugf (v := .ref (ad b_28)) G hP h_a0 iMo rfl 45 (by decide) rfl q3109 rfl (by show va_rf ((sO s_h10 a0 45).map ad) = _; rw [e_29]; rfl) d_Mo_inferHandlers_93 ?_
                refine ugfN (v := .ref (yP y b_28 29)) G hP c_30 iMw rfl 29 (by decide) rfl q2762 rfl rfl d_Mo_inferHandlers_96 ?_
                refine lv_iload_n G.1 G.2.1 d_Mo_inferHandlers_99 rfl (lv_at hl 3 rfl) ?_
                refine uiald G hP (kdp c_30 rfl) (typ c_30 rfl) h d_Mo_inferHandlers_100 (fun x_31 h => ?_)
                exact J_101 s_h10 x1h10 x3h10 0 16 x_31 H locs h hP hD hS ls (lv_sub hl [0, 1, 3] rfl)
              · skip
                have h := h.2 c80
                refine lv_aload_n G.1 G.2.1 d_Mo_inferHandlers_83 rfl (lv_at hl 0 rfl) ?_
                refine ugf (v := .int (sV s_h10 a0 8)) G hP h_a0 iMo rfl 8 (by decide) rfl q3072 rfl rfl d_Mo_inferHandlers_84 ?_
                refine lv_iconst (v := 1) G.1 G.2.1 d_Mo_inferHandlers_87 (by decide) ?_
                refine lv_iadd G.1 G.2.1 d_Mo_inferHandlers_88 ?_
                refine lv_goto (tgt := 101) G.1 G.2.1 d_Mo_inferHandlers_89 (by decide) ?_
                exact J_101 s_h10 x1h10 x3h10 0 16 ((sV s_h10 a0 8) + 1) H locs h hP hD hS ls (lv_sub hl [0, 1, 3] rfl)
  exact L_10 _ σ v1 0 (8 * (sV σ a0 75)) (Nat.lt_succ_self _) hI_10 H locs hP hD hS ls (lv_sub hl [2, 3, 1, 0] rfl)
theorem q4129 : Cond.methodLink "ClassWorksModel" 1272 y_Mo_inferHandlers ∈ lw_ok := lw_okmem (List.mem_of_getElem? (i := 4129) (by decide +kernel)) rfl
theorem q4132 : Cond.code y_Mo_inferHandlers b_Mo_inferHandlers 4 (some .int) ∈ lw_ok := lw_okmem (List.mem_of_getElem? (i := 4132) (by decide +kernel)) rfl
theorem q4131 : Cond.instanceMethod y_Mo_inferHandlers ∈ lw_ok := lw_okmem (List.mem_of_getElem? (i := 4131) (by decide +kernel)) rfl
theorem q308 : Cond.selects y_Mo_inferHandlers.cls y_Mo_inferHandlers y_Mo_inferHandlers ∈ lw_ok := lw_okmem (List.mem_of_getElem? (i := 308) (by decide +kernel)) rfl
theorem w9_Mo_inferHandlers : CWv y_Mo_inferHandlers b_Mo_inferHandlers 4 (some .int) 1 ∧ Cond.instanceMethod y_Mo_inferHandlers ∈ lw_ok ∧ Cond.selects y_Mo_inferHandlers.cls y_Mo_inferHandlers y_Mo_inferHandlers ∈ lw_ok := ⟨⟨q4132, q348, by decide +kernel, by decide +kernel, by decide +kernel⟩, q4131, q308⟩
def y_Mo_inferOne : MethodName := ⟨"ClassWorksModel", "inferOne", "(I)I"⟩
abbrev b_Mo_inferOne : ByteArray := prog_14_method_174_code
theorem q3165 : Cond.fieldLink "ClassWorksModel" 1257 "ClassWorksModel" "toldSize" "I" ∈ lw_ok := lw_okmem (List.mem_of_getElem? (i := 3165) (by decide +kernel)) rfl
theorem d_Mo_inferOne_0 : decode b_Mo_inferOne 0 = .ok (.aload_n 0, 1) := by decide +kernel
theorem d_Mo_inferOne_1 : decode b_Mo_inferOne 1 = .ok (.getfield 522, 3) := by decide +kernel
theorem d_Mo_inferOne_4 : decode b_Mo_inferOne 4 = .ok (.getfield 462, 3) := by decide +kernel
theorem d_Mo_inferOne_7 : decode b_Mo_inferOne 7 = .ok (.aload_n 0, 1) := by decide +kernel
theorem d_Mo_inferOne_8 : decode b_Mo_inferOne 8 = .ok (.getfield 768, 3) := by decide +kernel
theorem d_Mo_inferOne_11 : decode b_Mo_inferOne 11 = .ok (.iaload, 1) := by decide +kernel
theorem d_Mo_inferOne_12 : decode b_Mo_inferOne 12 = .ok (.iload_n 1, 1) := by decide +kernel
theorem d_Mo_inferOne_13 : decode b_Mo_inferOne 13 = .ok (.iadd, 1) := by decide +kernel
theorem d_Mo_inferOne_14 : decode b_Mo_inferOne 14 = .ok (.istore_n 2, 1) := by decide +kernel
theorem d_Mo_inferOne_15 : decode b_Mo_inferOne 15 = .ok (.aload_n 0, 1) := by decide +kernel
theorem d_Mo_inferOne_16 : decode b_Mo_inferOne 16 = .ok (.aload_n 0, 1) := by decide +kernel
theorem d_Mo_inferOne_17 : decode b_Mo_inferOne 17 = .ok (.getfield 332, 3) := by decide +kernel
theorem d_Mo_inferOne_20 : decode b_Mo_inferOne 20 = .ok (.iload_n 1, 1) := by decide +kernel
theorem d_Mo_inferOne_21 : decode b_Mo_inferOne 21 = .ok (.iaload, 1) := by decide +kernel
theorem d_Mo_inferOne_22 : decode b_Mo_inferOne 22 = .ok (.putfield 780, 3) := by decide +kernel
theorem d_Mo_inferOne_25 : decode b_Mo_inferOne 25 = .ok (.aload_n 0, 1) := by decide +kernel
theorem d_Mo_inferOne_26 : decode b_Mo_inferOne 26 = .ok (.getfield 335, 3) := by decide +kernel
theorem d_Mo_inferOne_29 : decode b_Mo_inferOne 29 = .ok (.bipush 20, 2) := by decide +kernel
theorem d_Mo_inferOne_31 : decode b_Mo_inferOne 31 = .ok (.iload_n 1, 1) := by decide +kernel
theorem d_Mo_inferOne_32 : decode b_Mo_inferOne 32 = .ok (.imul, 1) := by decide +kernel
theorem d_Mo_inferOne_33 : decode b_Mo_inferOne 33 = .ok (.aload_n 0, 1) := by decide +kernel
theorem d_Mo_inferOne_34 : decode b_Mo_inferOne 34 = .ok (.getfield 305, 3) := by decide +kernel
theorem d_Mo_inferOne_37 : decode b_Mo_inferOne 37 = .ok (.iconst 0, 1) := by decide +kernel
theorem d_Mo_inferOne_38 : decode b_Mo_inferOne 38 = .ok (.aload_n 0, 1) := by decide +kernel
theorem d_Mo_inferOne_39 : decode b_Mo_inferOne 39 = .ok (.getfield 1254, 3) := by decide +kernel
theorem d_Mo_inferOne_42 : decode b_Mo_inferOne 42 = .ok (.invokestatic 11, 3) := by decide +kernel
theorem d_Mo_inferOne_45 : decode b_Mo_inferOne 45 = .ok (.aload_n 0, 1) := by decide +kernel
theorem d_Mo_inferOne_46 : decode b_Mo_inferOne 46 = .ok (.getfield 338, 3) := by decide +kernel
theorem d_Mo_inferOne_49 : decode b_Mo_inferOne 49 = .ok (.bipush 28, 2) := by decide +kernel
theorem d_Mo_inferOne_51 : decode b_Mo_inferOne 51 = .ok (.iload_n 1, 1) := by decide +kernel
theorem d_Mo_inferOne_52 : decode b_Mo_inferOne 52 = .ok (.imul, 1) := by decide +kernel
theorem d_Mo_inferOne_53 : decode b_Mo_inferOne 53 = .ok (.aload_n 0, 1) := by decide +kernel
theorem d_Mo_inferOne_54 : decode b_Mo_inferOne 54 = .ok (.getfield 308, 3) := by decide +kernel
theorem d_Mo_inferOne_57 : decode b_Mo_inferOne 57 = .ok (.iconst 0, 1) := by decide +kernel
theorem d_Mo_inferOne_58 : decode b_Mo_inferOne 58 = .ok (.aload_n 0, 1) := by decide +kernel
theorem d_Mo_inferOne_59 : decode b_Mo_inferOne 59 = .ok (.getfield 780, 3) := by decide +kernel
theorem d_Mo_inferOne_62 : decode b_Mo_inferOne 62 = .ok (.invokestatic 11, 3) := by decide +kernel
theorem d_Mo_inferOne_65 : decode b_Mo_inferOne 65 = .ok (.aload_n 0, 1) := by decide +kernel
theorem d_Mo_inferOne_66 : decode b_Mo_inferOne 66 = .ok (.getfield 522, 3) := by decide +kernel
theorem d_Mo_inferOne_69 : decode b_Mo_inferOne 69 = .ok (.getfield 674, 3) := by decide +kernel
theorem d_Mo_inferOne_72 : decode b_Mo_inferOne 72 = .ok (.iload_n 2, 1) := by decide +kernel
theorem d_Mo_inferOne_73 : decode b_Mo_inferOne 73 = .ok (.baload, 1) := by decide +kernel
theorem d_Mo_inferOne_74 : decode b_Mo_inferOne 74 = .ok (.istore_n 3, 1) := by decide +kernel
theorem d_Mo_inferOne_75 : decode b_Mo_inferOne 75 = .ok (.aload_n 0, 1) := by decide +kernel
theorem d_Mo_inferOne_76 : decode b_Mo_inferOne 76 = .ok (.iload_n 1, 1) := by decide +kernel
theorem d_Mo_inferOne_77 : decode b_Mo_inferOne 77 = .ok (.invokevirtual 1272, 3) := by decide +kernel
theorem d_Mo_inferOne_80 : decode b_Mo_inferOne 80 = .ok (.istore 4, 2) := by decide +kernel
theorem d_Mo_inferOne_82 : decode b_Mo_inferOne 82 = .ok (.iload 4, 2) := by decide +kernel
theorem d_Mo_inferOne_84 : decode b_Mo_inferOne 84 = .ok (.ifCond .le 8, 3) := by decide +kernel
theorem d_Mo_inferOne_87 : decode b_Mo_inferOne 87 = .ok (.iload 4, 2) := by decide +kernel
theorem d_Mo_inferOne_89 : decode b_Mo_inferOne 89 = .ok (.goto 9, 3) := by decide +kernel
theorem d_Mo_inferOne_92 : decode b_Mo_inferOne 92 = .ok (.aload_n 0, 1) := by decide +kernel
theorem d_Mo_inferOne_93 : decode b_Mo_inferOne 93 = .ok (.iload_n 3, 1) := by decide +kernel
theorem d_Mo_inferOne_94 : decode b_Mo_inferOne 94 = .ok (.iload_n 2, 1) := by decide +kernel
theorem d_Mo_inferOne_95 : decode b_Mo_inferOne 95 = .ok (.invokevirtual 811, 3) := by decide +kernel
theorem d_Mo_inferOne_98 : decode b_Mo_inferOne 98 = .ok (.istore 4, 2) := by decide +kernel
theorem d_Mo_inferOne_100 : decode b_Mo_inferOne 100 = .ok (.iload 4, 2) := by decide +kernel
theorem d_Mo_inferOne_102 : decode b_Mo_inferOne 102 = .ok (.ifCond .le 8, 3) := by decide +kernel
theorem d_Mo_inferOne_105 : decode b_Mo_inferOne 105 = .ok (.iload 4, 2) := by decide +kernel
theorem d_Mo_inferOne_107 : decode b_Mo_inferOne 107 = .ok (.goto 9, 3) := by decide +kernel
theorem d_Mo_inferOne_110 : decode b_Mo_inferOne 110 = .ok (.aload_n 0, 1) := by decide +kernel
theorem d_Mo_inferOne_111 : decode b_Mo_inferOne 111 = .ok (.iload_n 3, 1) := by decide +kernel
theorem d_Mo_inferOne_112 : decode b_Mo_inferOne 112 = .ok (.iload_n 2, 1) := by decide +kernel
theorem d_Mo_inferOne_113 : decode b_Mo_inferOne 113 = .ok (.invokevirtual 814, 3) := by decide +kernel
theorem d_Mo_inferOne_116 : decode b_Mo_inferOne 116 = .ok (.istore 4, 2) := by decide +kernel
theorem d_Mo_inferOne_118 : decode b_Mo_inferOne 118 = .ok (.iload 4, 2) := by decide +kernel
theorem d_Mo_inferOne_120 : decode b_Mo_inferOne 120 = .ok (.ifCond .le 6, 3) := by decide +kernel
theorem d_Mo_inferOne_123 : decode b_Mo_inferOne 123 = .ok (.iload 4, 2) := by decide +kernel
theorem d_Mo_inferOne_125 : decode b_Mo_inferOne 125 = .ok (.ireturn, 1) := by decide +kernel
theorem d_Mo_inferOne_126 : decode b_Mo_inferOne 126 = .ok (.aload_n 0, 1) := by decide +kernel
theorem d_Mo_inferOne_127 : decode b_Mo_inferOne 127 = .ok (.iload_n 3, 1) := by decide +kernel
theorem d_Mo_inferOne_128 : decode b_Mo_inferOne 128 = .ok (.iload_n 2, 1) := by decide +kernel
theorem d_Mo_inferOne_129 : decode b_Mo_inferOne 129 = .ok (.iload_n 1, 1) := by decide +kernel
theorem d_Mo_inferOne_130 : decode b_Mo_inferOne 130 = .ok (.invokevirtual 817, 3) := by decide +kernel
theorem d_Mo_inferOne_133 : decode b_Mo_inferOne 133 = .ok (.aload_n 0, 1) := by decide +kernel
theorem d_Mo_inferOne_134 : decode b_Mo_inferOne 134 = .ok (.getfield 780, 3) := by decide +kernel
theorem d_Mo_inferOne_137 : decode b_Mo_inferOne 137 = .ok (.aload_n 0, 1) := by decide +kernel
theorem d_Mo_inferOne_138 : decode b_Mo_inferOne 138 = .ok (.getfield 522, 3) := by decide +kernel
theorem d_Mo_inferOne_141 : decode b_Mo_inferOne 141 = .ok (.getfield 456, 3) := by decide +kernel
theorem d_Mo_inferOne_144 : decode b_Mo_inferOne 144 = .ok (.aload_n 0, 1) := by decide +kernel
theorem d_Mo_inferOne_145 : decode b_Mo_inferOne 145 = .ok (.getfield 768, 3) := by decide +kernel
theorem d_Mo_inferOne_148 : decode b_Mo_inferOne 148 = .ok (.iaload, 1) := by decide +kernel
theorem d_Mo_inferOne_149 : decode b_Mo_inferOne 149 = .ok (.if_icmp .le 6, 3) := by decide +kernel
theorem d_Mo_inferOne_152 : decode b_Mo_inferOne 152 = .ok (.bipush 30, 2) := by decide +kernel
theorem d_Mo_inferOne_154 : decode b_Mo_inferOne 154 = .ok (.ireturn, 1) := by decide +kernel
theorem d_Mo_inferOne_155 : decode b_Mo_inferOne 155 = .ok (.iload_n 3, 1) := by decide +kernel
theorem d_Mo_inferOne_156 : decode b_Mo_inferOne 156 = .ok (.iconst 5, 1) := by decide +kernel
theorem d_Mo_inferOne_157 : decode b_Mo_inferOne 157 = .ok (.if_icmp .eq 31, 3) := by decide +kernel
theorem d_Mo_inferOne_160 : decode b_Mo_inferOne 160 = .ok (.iload_n 3, 1) := by decide +kernel
theorem d_Mo_inferOne_161 : decode b_Mo_inferOne 161 = .ok (.bipush 6, 2) := by decide +kernel
theorem d_Mo_inferOne_163 : decode b_Mo_inferOne 163 = .ok (.if_icmp .eq 25, 3) := by decide +kernel
theorem d_Mo_inferOne_166 : decode b_Mo_inferOne 166 = .ok (.iload_n 3, 1) := by decide +kernel
theorem d_Mo_inferOne_167 : decode b_Mo_inferOne 167 = .ok (.bipush 51, 2) := by decide +kernel
theorem d_Mo_inferOne_169 : decode b_Mo_inferOne 169 = .ok (.if_icmp .ne 29, 3) := by decide +kernel
theorem d_Mo_inferOne_172 : decode b_Mo_inferOne 172 = .ok (.aload_n 0, 1) := by decide +kernel
theorem d_Mo_inferOne_173 : decode b_Mo_inferOne 173 = .ok (.getfield 522, 3) := by decide +kernel
theorem d_Mo_inferOne_176 : decode b_Mo_inferOne 176 = .ok (.getfield 680, 3) := by decide +kernel
theorem d_Mo_inferOne_179 : decode b_Mo_inferOne 179 = .ok (.iload_n 2, 1) := by decide +kernel
theorem d_Mo_inferOne_180 : decode b_Mo_inferOne 180 = .ok (.iaload, 1) := by decide +kernel
theorem d_Mo_inferOne_181 : decode b_Mo_inferOne 181 = .ok (.aload_n 0, 1) := by decide +kernel
theorem d_Mo_inferOne_182 : decode b_Mo_inferOne 182 = .ok (.getfield 121, 3) := by decide +kernel
theorem d_Mo_inferOne_185 : decode b_Mo_inferOne 185 = .ok (.if_icmp .ne 13, 3) := by decide +kernel
theorem d_Mo_inferOne_188 : decode b_Mo_inferOne 188 = .ok (.aload_n 0, 1) := by decide +kernel
theorem d_Mo_inferOne_189 : decode b_Mo_inferOne 189 = .ok (.iload_n 1, 1) := by decide +kernel
theorem d_Mo_inferOne_190 : decode b_Mo_inferOne 190 = .ok (.invokevirtual 1272, 3) := by decide +kernel
theorem d_Mo_inferOne_193 : decode b_Mo_inferOne 193 = .ok (.istore 4, 2) := by decide +kernel
theorem d_Mo_inferOne_195 : decode b_Mo_inferOne 195 = .ok (.goto 109, 3) := by decide +kernel
theorem d_Mo_inferOne_198 : decode b_Mo_inferOne 198 = .ok (.iload_n 3, 1) := by decide +kernel
theorem d_Mo_inferOne_199 : decode b_Mo_inferOne 199 = .ok (.bipush 23, 2) := by decide +kernel
theorem d_Mo_inferOne_201 : decode b_Mo_inferOne 201 = .ok (.if_icmp .lt 35, 3) := by decide +kernel
theorem d_Mo_inferOne_204 : decode b_Mo_inferOne 204 = .ok (.iload_n 3, 1) := by decide +kernel
theorem d_Mo_inferOne_205 : decode b_Mo_inferOne 205 = .ok (.bipush 39, 2) := by decide +kernel
theorem d_Mo_inferOne_207 : decode b_Mo_inferOne 207 = .ok (.if_icmp .gt 29, 3) := by decide +kernel
theorem d_Mo_inferOne_210 : decode b_Mo_inferOne 210 = .ok (.aload_n 0, 1) := by decide +kernel
theorem d_Mo_inferOne_211 : decode b_Mo_inferOne 211 = .ok (.aload_n 0, 1) := by decide +kernel
theorem d_Mo_inferOne_212 : decode b_Mo_inferOne 212 = .ok (.getfield 522, 3) := by decide +kernel
theorem d_Mo_inferOne_215 : decode b_Mo_inferOne 215 = .ok (.getfield 677, 3) := by decide +kernel
theorem d_Mo_inferOne_218 : decode b_Mo_inferOne 218 = .ok (.iload_n 2, 1) := by decide +kernel
theorem d_Mo_inferOne_219 : decode b_Mo_inferOne 219 = .ok (.iaload, 1) := by decide +kernel
theorem d_Mo_inferOne_220 : decode b_Mo_inferOne 220 = .ok (.aload_n 0, 1) := by decide +kernel
theorem d_Mo_inferOne_221 : decode b_Mo_inferOne 221 = .ok (.getfield 308, 3) := by decide +kernel
theorem d_Mo_inferOne_224 : decode b_Mo_inferOne 224 = .ok (.aload_n 0, 1) := by decide +kernel
theorem d_Mo_inferOne_225 : decode b_Mo_inferOne 225 = .ok (.getfield 780, 3) := by decide +kernel
theorem d_Mo_inferOne_228 : decode b_Mo_inferOne 228 = .ok (.invokevirtual 1275, 3) := by decide +kernel
theorem d_Mo_inferOne_231 : decode b_Mo_inferOne 231 = .ok (.istore 4, 2) := by decide +kernel
theorem d_Mo_inferOne_233 : decode b_Mo_inferOne 233 = .ok (.goto 71, 3) := by decide +kernel
theorem d_Mo_inferOne_236 : decode b_Mo_inferOne 236 = .ok (.iload_n 3, 1) := by decide +kernel
theorem d_Mo_inferOne_237 : decode b_Mo_inferOne 237 = .ok (.bipush 40, 2) := by decide +kernel
theorem d_Mo_inferOne_239 : decode b_Mo_inferOne 239 = .ok (.if_icmp .ne 65, 3) := by decide +kernel
theorem d_Mo_inferOne_242 : decode b_Mo_inferOne 242 = .ok (.iconst 0, 1) := by decide +kernel
theorem d_Mo_inferOne_243 : decode b_Mo_inferOne 243 = .ok (.istore 5, 2) := by decide +kernel
theorem d_Mo_inferOne_245 : decode b_Mo_inferOne 245 = .ok (.iload 5, 2) := by decide +kernel
theorem d_Mo_inferOne_247 : decode b_Mo_inferOne 247 = .ok (.aload_n 0, 1) := by decide +kernel
theorem d_Mo_inferOne_248 : decode b_Mo_inferOne 248 = .ok (.getfield 522, 3) := by decide +kernel
theorem d_Mo_inferOne_251 : decode b_Mo_inferOne 251 = .ok (.getfield 683, 3) := by decide +kernel
theorem d_Mo_inferOne_254 : decode b_Mo_inferOne 254 = .ok (.iload_n 2, 1) := by decide +kernel
theorem d_Mo_inferOne_255 : decode b_Mo_inferOne 255 = .ok (.iaload, 1) := by decide +kernel
theorem d_Mo_inferOne_256 : decode b_Mo_inferOne 256 = .ok (.if_icmp .ge 48, 3) := by decide +kernel
theorem d_Mo_inferOne_259 : decode b_Mo_inferOne 259 = .ok (.iload 4, 2) := by decide +kernel
theorem d_Mo_inferOne_261 : decode b_Mo_inferOne 261 = .ok (.ifCond .ne 43, 3) := by decide +kernel
theorem d_Mo_inferOne_264 : decode b_Mo_inferOne 264 = .ok (.aload_n 0, 1) := by decide +kernel
theorem d_Mo_inferOne_265 : decode b_Mo_inferOne 265 = .ok (.aload_n 0, 1) := by decide +kernel
theorem d_Mo_inferOne_266 : decode b_Mo_inferOne 266 = .ok (.getfield 522, 3) := by decide +kernel
theorem d_Mo_inferOne_269 : decode b_Mo_inferOne 269 = .ok (.getfield 689, 3) := by decide +kernel
theorem d_Mo_inferOne_272 : decode b_Mo_inferOne 272 = .ok (.aload_n 0, 1) := by decide +kernel
theorem d_Mo_inferOne_273 : decode b_Mo_inferOne 273 = .ok (.getfield 522, 3) := by decide +kernel
theorem d_Mo_inferOne_276 : decode b_Mo_inferOne 276 = .ok (.getfield 680, 3) := by decide +kernel
theorem d_Mo_inferOne_279 : decode b_Mo_inferOne 279 = .ok (.iload_n 2, 1) := by decide +kernel
theorem d_Mo_inferOne_280 : decode b_Mo_inferOne 280 = .ok (.iaload, 1) := by decide +kernel
theorem d_Mo_inferOne_281 : decode b_Mo_inferOne 281 = .ok (.iload 5, 2) := by decide +kernel
theorem d_Mo_inferOne_283 : decode b_Mo_inferOne 283 = .ok (.iadd, 1) := by decide +kernel
theorem d_Mo_inferOne_284 : decode b_Mo_inferOne 284 = .ok (.iaload, 1) := by decide +kernel
theorem d_Mo_inferOne_285 : decode b_Mo_inferOne 285 = .ok (.aload_n 0, 1) := by decide +kernel
theorem d_Mo_inferOne_286 : decode b_Mo_inferOne 286 = .ok (.getfield 308, 3) := by decide +kernel
theorem d_Mo_inferOne_289 : decode b_Mo_inferOne 289 = .ok (.aload_n 0, 1) := by decide +kernel
theorem d_Mo_inferOne_290 : decode b_Mo_inferOne 290 = .ok (.getfield 780, 3) := by decide +kernel
theorem d_Mo_inferOne_293 : decode b_Mo_inferOne 293 = .ok (.invokevirtual 1275, 3) := by decide +kernel
theorem d_Mo_inferOne_296 : decode b_Mo_inferOne 296 = .ok (.istore 4, 2) := by decide +kernel
theorem d_Mo_inferOne_298 : decode b_Mo_inferOne 298 = .ok (.iinc 5 1, 3) := by decide +kernel
theorem d_Mo_inferOne_301 : decode b_Mo_inferOne 301 = .ok (.goto (-56), 3) := by decide +kernel
theorem d_Mo_inferOne_304 : decode b_Mo_inferOne 304 = .ok (.iload 4, 2) := by decide +kernel
theorem d_Mo_inferOne_306 : decode b_Mo_inferOne 306 = .ok (.ifCond .gt 39, 3) := by decide +kernel
theorem d_Mo_inferOne_309 : decode b_Mo_inferOne 309 = .ok (.iload_n 3, 1) := by decide +kernel
theorem d_Mo_inferOne_310 : decode b_Mo_inferOne 310 = .ok (.bipush 23, 2) := by decide +kernel
theorem d_Mo_inferOne_312 : decode b_Mo_inferOne 312 = .ok (.if_icmp .eq 33, 3) := by decide +kernel
theorem d_Mo_inferOne_315 : decode b_Mo_inferOne 315 = .ok (.iload_n 3, 1) := by decide +kernel
theorem d_Mo_inferOne_316 : decode b_Mo_inferOne 316 = .ok (.bipush 40, 2) := by decide +kernel
theorem d_Mo_inferOne_318 : decode b_Mo_inferOne 318 = .ok (.if_icmp .eq 27, 3) := by decide +kernel
theorem d_Mo_inferOne_321 : decode b_Mo_inferOne 321 = .ok (.iload_n 3, 1) := by decide +kernel
theorem d_Mo_inferOne_322 : decode b_Mo_inferOne 322 = .ok (.bipush 56, 2) := by decide +kernel
theorem d_Mo_inferOne_324 : decode b_Mo_inferOne 324 = .ok (.if_icmp .eq 21, 3) := by decide +kernel
theorem d_Mo_inferOne_327 : decode b_Mo_inferOne 327 = .ok (.iload_n 3, 1) := by decide +kernel
theorem d_Mo_inferOne_328 : decode b_Mo_inferOne 328 = .ok (.bipush 57, 2) := by decide +kernel
theorem d_Mo_inferOne_330 : decode b_Mo_inferOne 330 = .ok (.if_icmp .eq 15, 3) := by decide +kernel
theorem d_Mo_inferOne_333 : decode b_Mo_inferOne 333 = .ok (.iload_n 3, 1) := by decide +kernel
theorem d_Mo_inferOne_334 : decode b_Mo_inferOne 334 = .ok (.bipush 58, 2) := by decide +kernel
theorem d_Mo_inferOne_336 : decode b_Mo_inferOne 336 = .ok (.if_icmp .eq 9, 3) := by decide +kernel
theorem d_Mo_inferOne_339 : decode b_Mo_inferOne 339 = .ok (.iload_n 3, 1) := by decide +kernel
theorem d_Mo_inferOne_340 : decode b_Mo_inferOne 340 = .ok (.bipush 59, 2) := by decide +kernel
theorem d_Mo_inferOne_342 : decode b_Mo_inferOne 342 = .ok (.if_icmp .ne 6, 3) := by decide +kernel
theorem d_Mo_inferOne_345 : decode b_Mo_inferOne 345 = .ok (.iload 4, 2) := by decide +kernel
theorem d_Mo_inferOne_347 : decode b_Mo_inferOne 347 = .ok (.ireturn, 1) := by decide +kernel
theorem d_Mo_inferOne_348 : decode b_Mo_inferOne 348 = .ok (.iload_n 1, 1) := by decide +kernel
theorem d_Mo_inferOne_349 : decode b_Mo_inferOne 349 = .ok (.iconst 1, 1) := by decide +kernel
theorem d_Mo_inferOne_350 : decode b_Mo_inferOne 350 = .ok (.iadd, 1) := by decide +kernel
theorem d_Mo_inferOne_351 : decode b_Mo_inferOne 351 = .ok (.aload_n 0, 1) := by decide +kernel
theorem d_Mo_inferOne_352 : decode b_Mo_inferOne 352 = .ok (.getfield 1257, 3) := by decide +kernel
theorem d_Mo_inferOne_355 : decode b_Mo_inferOne 355 = .ok (.if_icmp .ne 8, 3) := by decide +kernel
theorem d_Mo_inferOne_358 : decode b_Mo_inferOne 358 = .ok (.bipush 35, 2) := by decide +kernel
theorem d_Mo_inferOne_360 : decode b_Mo_inferOne 360 = .ok (.goto 18, 3) := by decide +kernel
theorem d_Mo_inferOne_363 : decode b_Mo_inferOne 363 = .ok (.aload_n 0, 1) := by decide +kernel
theorem d_Mo_inferOne_364 : decode b_Mo_inferOne 364 = .ok (.iload_n 1, 1) := by decide +kernel
theorem d_Mo_inferOne_365 : decode b_Mo_inferOne 365 = .ok (.iconst 1, 1) := by decide +kernel
theorem d_Mo_inferOne_366 : decode b_Mo_inferOne 366 = .ok (.iadd, 1) := by decide +kernel
theorem d_Mo_inferOne_367 : decode b_Mo_inferOne 367 = .ok (.aload_n 0, 1) := by decide +kernel
theorem d_Mo_inferOne_368 : decode b_Mo_inferOne 368 = .ok (.getfield 308, 3) := by decide +kernel
theorem d_Mo_inferOne_371 : decode b_Mo_inferOne 371 = .ok (.aload_n 0, 1) := by decide +kernel
theorem d_Mo_inferOne_372 : decode b_Mo_inferOne 372 = .ok (.getfield 780, 3) := by decide +kernel
theorem d_Mo_inferOne_375 : decode b_Mo_inferOne 375 = .ok (.invokevirtual 1275, 3) := by decide +kernel
theorem d_Mo_inferOne_378 : decode b_Mo_inferOne 378 = .ok (.ireturn, 1) := by decide +kernel
abbrev ru_Mo_inferOne : Room := { frames := 6, cells := 0, slots := 0, locals := 168 }
def wj_Mo_inferOne_345 (y : Ly) (Post : St → Int32 → Prop) (a0 : Nat) (s_j345 : St) (x4j345 : Int32) : Prop := Post s_j345 x4j345
def wj_Mo_inferOne_378 (y : Ly) (Post : St → Int32 → Prop) (a0 : Nat) (s_j378 : St) (z0j378 : Int32) : Prop := Post s_j378 z0j378
def wj_Mo_inferOne_304 (y : Ly) (Post : St → Int32 → Prop) (a0 : Nat) (s_j304 : St) (x1j304 : Int32) (x3j304 : Int32) (x4j304 : Int32) : Prop := ((0 < x4j304 → wj_Mo_inferOne_345 y Post a0 s_j304 x4j304) ∧ (¬ (0 < x4j304) → ((x3j304 = 23 → wj_Mo_inferOne_345 y Post a0 s_j304 x4j304) ∧ (¬ (x3j304 = 23) → ((x3j304 = 40 → wj_Mo_inferOne_345 y Post a0 s_j304 x4j304) ∧ (¬ (x3j304 = 40) → ((x3j304 = 56 → wj_Mo_inferOne_345 y Post a0 s_j304 x4j304) ∧ (¬ (x3j304 = 56) → ((x3j304 = 57 → wj_Mo_inferOne_345 y Post a0 s_j304 x4j304) ∧ (¬ (x3j304 = 57) → ((x3j304 = 58 → wj_Mo_inferOne_345 y Post a0 s_j304 x4j304) ∧ (¬ (x3j304 = 58) → ((¬ x3j304 = 59 → ((¬ (x1j304 + 1) = (sV s_j304 a0 101) → wu_Mo_join y (fun (s_22 : St) (r_21 : Int32) => wj_Mo_inferOne_378 y Post a0 s_22 r_21) s_j304 a0 (x1j304 + 1) a0 71 (sV s_j304 a0 72)) ∧ ((x1j304 + 1) = (sV s_j304 a0 101) → wj_Mo_inferOne_378 y Post a0 s_j304 35))) ∧ (x3j304 = 59 → wj_Mo_inferOne_345 y Post a0 s_j304 x4j304))))))))))))))
def wj_Mo_inferOne_188 (y : Ly) (Post : St → Int32 → Prop) (a0 : Nat) (s_j188 : St) (x1j188 : Int32) (x3j188 : Int32) : Prop := wu_Mo_inferHandlers y (fun (s_24 : St) (r_23 : Int32) => wj_Mo_inferOne_304 y Post a0 s_24 x1j188 x3j188 r_23) s_j188 a0 x1j188
def wb_Mo_inferOne_245 (y : Ly) (Post : St → Int32 → Prop) (K_245 : St → Int32 → Int32 → Int32 → Int32 → Int32 → Prop) (a0 : Nat) (s_h245 : St) (x1h245 : Int32) (x2h245 : Int32) (x3h245 : Int32) (x4h245 : Int32) (x5h245 : Int32) : Prop := ∃ b_25 : Nat, sO s_h245 a0 45 = some b_25 ∧ cl b_25 = 13 ∧ xA y s_h245 b_25 33 x2h245 (fun x_28 : Int32 => ((x_28 ≤ x5h245 → wj_Mo_inferOne_304 y Post a0 s_h245 x1h245 x3h245 x4h245) ∧ (¬ (x_28 ≤ x5h245) → ((¬ x4h245 = 0 → wj_Mo_inferOne_304 y Post a0 s_h245 x1h245 x3h245 x4h245) ∧ (x4h245 = 0 → ∃ b_29 : Nat, sO s_h245 a0 45 = some b_29 ∧ cl b_29 = 13 ∧ ∃ b_32 : Nat, sO s_h245 a0 45 = some b_32 ∧ cl b_32 = 13 ∧ xA y s_h245 b_32 32 x2h245 (fun x_35 : Int32 => xA y s_h245 b_29 36 (x_35 + x5h245) (fun x_36 : Int32 => wu_Mo_join y (fun (s_38 : St) (r_37 : Int32) => K_245 s_38 x1h245 x2h245 x3h245 r_37 (x5h245 + 1)) s_h245 a0 x_36 a0 71 (sV s_h245 a0 72))))))))
def wl_Mo_inferOne_245 (y : Ly) (Post : St → Int32 → Prop) (a0 : Nat) (s_h245 : St) (x1h245 : Int32) (x2h245 : Int32) (x3h245 : Int32) (x4h245 : Int32) (x5h245 : Int32) : Prop := ∃ (I : St → Int32 → Int32 → Int32 → Int32 → Int32 → Prop) (μ : St → Int32 → Int32 → Int32 → Int32 → Int32 → Nat), I s_h245 x1h245 x2h245 x3h245 x4h245 x5h245 ∧ ∀ (u : St) (t0 : Int32) (t1 : Int32) (t2 : Int32) (t3 : Int32) (t4 : Int32), I u t0 t1 t2 t3 t4 → wb_Mo_inferOne_245 y Post (fun z t0q t1q t2q t3q t4q => I z t0q t1q t2q t3q t4q ∧ μ z t0q t1q t2q t3q t4q < μ u t0 t1 t2 t3 t4) a0 u t0 t1 t2 t3 t4
def wj_Mo_inferOne_236 (y : Ly) (Post : St → Int32 → Prop) (a0 : Nat) (s_j236 : St) (x1j236 : Int32) (x2j236 : Int32) (x3j236 : Int32) (x4j236 : Int32) : Prop := ((¬ x3j236 = 40 → wj_Mo_inferOne_304 y Post a0 s_j236 x1j236 x3j236 x4j236) ∧ (x3j236 = 40 → wl_Mo_inferOne_245 y Post a0 s_j236 x1j236 x2j236 x3j236 x4j236 0))
def wj_Mo_inferOne_198 (y : Ly) (Post : St → Int32 → Prop) (a0 : Nat) (s_j198 : St) (x1j198 : Int32) (x2j198 : Int32) (x3j198 : Int32) (x4j198 : Int32) : Prop := ((x3j198 < 23 → wj_Mo_inferOne_236 y Post a0 s_j198 x1j198 x2j198 x3j198 x4j198) ∧ (¬ (x3j198 < 23) → ((39 < x3j198 → wj_Mo_inferOne_236 y Post a0 s_j198 x1j198 x2j198 x3j198 x4j198) ∧ (¬ (39 < x3j198) → ∃ b_39 : Nat, sO s_j198 a0 45 = some b_39 ∧ cl b_39 = 13 ∧ xA y s_j198 b_39 31 x2j198 (fun x_42 : Int32 => wu_Mo_join y (fun (s_44 : St) (r_43 : Int32) => wj_Mo_inferOne_304 y Post a0 s_44 x1j198 x3j198 r_43) s_j198 a0 x_42 a0 71 (sV s_j198 a0 72))))))
def wj_Mo_inferOne_116 (y : Ly) (Post : St → Int32 → Prop) (a0 : Nat) (s_j116 : St) (x1j116 : Int32) (x2j116 : Int32) (x3j116 : Int32) (z0j116 : Int32) : Prop := ((z0j116 ≤ 0 → wu_Mo_act y (fun (s_16 : St) => ∃ b_17 : Nat, sO s_16 a0 45 = some b_17 ∧ cl b_17 = 13 ∧ xA y s_16 b_17 21 (sV s_16 a0 75) (fun x_20 : Int32 => (((sV s_16 a0 72) ≤ x_20 → ((x3j116 = 5 → wj_Mo_inferOne_188 y Post a0 s_16 x1j116 x3j116) ∧ (¬ (x3j116 = 5) → ((x3j116 = 6 → wj_Mo_inferOne_188 y Post a0 s_16 x1j116 x3j116) ∧ (¬ (x3j116 = 6) → ((¬ x3j116 = 51 → wj_Mo_inferOne_198 y Post a0 s_16 x1j116 x2j116 x3j116 z0j116) ∧ (x3j116 = 51 → ∃ b_45 : Nat, sO s_16 a0 45 = some b_45 ∧ cl b_45 = 13 ∧ xA y s_16 b_45 32 x2j116 (fun x_48 : Int32 => ((¬ x_48 = (sV s_16 a0 6) → wj_Mo_inferOne_198 y Post a0 s_16 x1j116 x2j116 x3j116 z0j116) ∧ (x_48 = (sV s_16 a0 6) → wj_Mo_inferOne_188 y Post a0 s_16 x1j116 x3j116)))))))))) ∧ (¬ ((sV s_16 a0 72) ≤ x_20) → Post s_16 30)))) s_j116 a0 x3j116 x2j116 x1j116) ∧ (¬ (z0j116 ≤ 0) → Post s_j116 z0j116))
def wj_Mo_inferOne_98 (y : Ly) (Post : St → Int32 → Prop) (a0 : Nat) (s_j98 : St) (x1j98 : Int32) (x2j98 : Int32) (x3j98 : Int32) (z0j98 : Int32) : Prop := ((z0j98 ≤ 0 → wu_Mo_checkOwn y (fun (s_50 : St) (r_49 : Int32) => wj_Mo_inferOne_116 y Post a0 s_50 x1j98 x2j98 x3j98 r_49) s_j98 a0 x3j98 x2j98) ∧ (¬ (z0j98 ≤ 0) → wj_Mo_inferOne_116 y Post a0 s_j98 x1j98 x2j98 x3j98 z0j98))
def wu_Mo_inferOne (y : Ly) (Post : St → Int32 → Prop) (σ : St) (a0 : Nat) (v1 : Int32) : Prop := ∃ b_1 : Nat, sO σ a0 45 = some b_1 ∧ cl b_1 = 13 ∧ xA y σ b_1 23 (sV σ a0 75) (fun x_4 : Int32 => xA y σ a0 98 v1 (fun x_5 : Int32 => xP (uV σ a0 72 x_5) (fun s_6 : St => xC y s_6 a0 99 a0 70 .int (20 * v1) 0 (sV s_6 a0 102) (fun s_7 : St => xC y s_7 a0 100 a0 71 .int (28 * v1) 0 (sV s_7 a0 72) (fun s_8 : St => ∃ b_9 : Nat, sO s_8 a0 45 = some b_9 ∧ cl b_9 = 13 ∧ xA y s_8 b_9 30 (x_4 + v1) (fun x_12 : Int32 => wu_Mo_inferHandlers y (fun (s_14 : St) (r_13 : Int32) => ((r_13 ≤ 0 → wu_Mo_checkTaken y (fun (s_52 : St) (r_51 : Int32) => wj_Mo_inferOne_98 y Post a0 s_52 v1 (x_4 + v1) x_12 r_51) s_14 a0 x_12 (x_4 + v1)) ∧ (¬ (r_13 ≤ 0) → wj_Mo_inferOne_98 y Post a0 s_14 v1 (x_4 + v1) x_12 r_13))) s_8 a0 v1))))))
set_option maxHeartbeats 4000000 in
set_option maxRecDepth 100000 in
theorem cu_Mo_inferOne (l : Launch) (D : va_G) (g : Nat → ClassId) (ad : Nat → Nat) (y : Ly) (Post : St → Int32 → Prop) (σ : St) (a0 : Nat) (v1 : Int32) (sz : Nat) (h_a0 : cl a0 = 14) (h : wu_Mo_inferOne y Post σ a0 v1) : Met l y_Mo_inferOne (mw y_Mo_inferOne b_Mo_inferOne 6 (some .int)) ru_Mo_inferOne (PC g D [] [.ref (ad a0), .int v1] sz (ws g ad y σ)) (va_Qi (fun (r : Int32) (u : St) => Post u r) (QW D (va_A (ws g ad y σ) sz) (fun u => ws g ad y u)) (va_A (ws g ad y σ) sz)) 0 0 (va_A (ws g ad y σ) sz) := by
  refine ofI (by decide +kernel) (Nat.le_of_ble_eq_true rfl) ?_
  intro p e s m args below meth c A Q ls H locs G hsz hP hD hS hl hret
  subst hsz
  have hl : lv_has ls 6 [(0, .ref (ad a0)), (1, .int v1)] := hl
  unfold wu_Mo_inferOne at h
  refine lv_aload_n G.1 G.2.1 d_Mo_inferOne_0 rfl (lv_at hl 0 rfl) ?_
  obtain ⟨b_1, e_2, c_3, h⟩ := h
  refine ugf (v := .ref (ad b_1)) G hP h_a0 iMo rfl 45 (by decide) rfl q3109 rfl (by show va_rf ((sO σ a0 45).map ad) = _; rw [e_2]; rfl) d_Mo_inferOne_1 ?_
  refine ugfN (v := .ref (yP y b_1 23)) G hP c_3 iMw rfl 23 (by decide) rfl q2750 rfl rfl d_Mo_inferOne_4 ?_
  refine lv_aload_n G.1 G.2.1 d_Mo_inferOne_7 rfl (lv_at hl 0 rfl) ?_
  refine ugf (v := .int (sV σ a0 75)) G hP h_a0 iMo rfl 75 (by decide) rfl q3139 rfl rfl d_Mo_inferOne_8 ?_
  refine uiald G hP (kdp c_3 rfl) (typ c_3 rfl) h d_Mo_inferOne_11 (fun x_4 h => ?_)
  refine lv_iload_n G.1 G.2.1 d_Mo_inferOne_12 rfl (lv_at hl 1 rfl) ?_
  refine lv_iadd G.1 G.2.1 d_Mo_inferOne_13 ?_
  refine lv_istore_n (lv' := [(2, .int (x_4 + v1)), (0, .ref (ad a0)), (1, .int v1)]) G.1 G.2.1 d_Mo_inferOne_14 rfl hl (by decide) rfl (fun ls hl => ?_)
  refine lv_aload_n G.1 G.2.1 d_Mo_inferOne_15 rfl (lv_at hl 1 rfl) ?_
  refine lv_aload_n G.1 G.2.1 d_Mo_inferOne_16 rfl (lv_at hl 1 rfl) ?_
  refine W.eq (g2 := F0 m 17 ls [.ref (ad a0), .ref (ad a0)]) rfl ?_
  refine ugf (v := .ref (yP y a0 98)) G hP h_a0 iMo rfl 98 (by decide) rfl q3162 rfl rfl d_Mo_inferOne_17 ?_
  refine lv_iload_n G.1 G.2.1 d_Mo_inferOne_20 rfl (lv_at hl 2 rfl) ?_
  refine uiald G hP (kdp h_a0 rfl) (typ h_a0 rfl) h d_Mo_inferOne_21 (fun x_5 h => ?_)
  refine upf G hP hD hS h 72 putV h_a0 iMo tMo tMo_ok nMo rfl (by decide) rfl q3136 rfl rfl fV rfl rfl d_Mo_inferOne_22 (fun s_6 H locs h hP hD hS => ?_)
  refine lv_aload_n G.1 G.2.1 d_Mo_inferOne_25 rfl (lv_at hl 1 rfl) ?_
  refine ugf (v := .ref (yP y a0 99)) G hP h_a0 iMo rfl 99 (by decide) rfl q3163 rfl rfl d_Mo_inferOne_26 ?_
  refine lv_bipush (v := 20) G.1 G.2.1 d_Mo_inferOne_29 (by decide) ?_
  refine lv_iload_n G.1 G.2.1 d_Mo_inferOne_31 rfl (lv_at hl 2 rfl) ?_
  refine lv_imul G.1 G.2.1 d_Mo_inferOne_32 ?_
  refine lv_aload_n G.1 G.2.1 d_Mo_inferOne_33 rfl (lv_at hl 1 rfl) ?_
  refine ugf (v := .ref (yP y a0 70)) G hP h_a0 iMo rfl 70 (by decide) rfl q3134 rfl rfl d_Mo_inferOne_34 ?_
  refine lv_iconst (v := 0) G.1 G.2.1 d_Mo_inferOne_37 (by decide) ?_
  refine W.eq (g2 := F0 m 38 ls [.int 0, .ref (yP y a0 70), .int (20 * v1), .ref (yP y a0 99)]) rfl ?_
  refine lv_aload_n G.1 G.2.1 d_Mo_inferOne_38 rfl (lv_at hl 1 rfl) ?_
  refine ugf (v := .int (sV s_6 a0 102)) G hP h_a0 iMo rfl 102 (by decide) rfl q3166 rfl rfl d_Mo_inferOne_39 ?_
  refine ucpy G hP hD hS (kdp h_a0 rfl) (typ h_a0 rfl) (kdp h_a0 rfl) (typ h_a0 rfl) rfl rfl h hl.1 q2595 q488 q487 q338 (Nat.le_of_ble_eq_true rfl) (Nat.le_of_ble_eq_true rfl) d_Mo_inferOne_42 (fun s_7 H locs h hP hD hS => ?_)
  refine lv_aload_n G.1 G.2.1 d_Mo_inferOne_45 rfl (lv_at hl 1 rfl) ?_
  refine ugf (v := .ref (yP y a0 100)) G hP h_a0 iMo rfl 100 (by decide) rfl q3164 rfl rfl d_Mo_inferOne_46 ?_
  refine lv_bipush (v := 28) G.1 G.2.1 d_Mo_inferOne_49 (by decide) ?_
  refine lv_iload_n G.1 G.2.1 d_Mo_inferOne_51 rfl (lv_at hl 2 rfl) ?_
  refine lv_imul G.1 G.2.1 d_Mo_inferOne_52 ?_
  refine lv_aload_n G.1 G.2.1 d_Mo_inferOne_53 rfl (lv_at hl 1 rfl) ?_
  refine ugf (v := .ref (yP y a0 71)) G hP h_a0 iMo rfl 71 (by decide) rfl q3135 rfl rfl d_Mo_inferOne_54 ?_
  refine lv_iconst (v := 0) G.1 G.2.1 d_Mo_inferOne_57 (by decide) ?_
  refine lv_aload_n G.1 G.2.1 d_Mo_inferOne_58 rfl (lv_at hl 1 rfl) ?_
  refine W.eq (g2 := F0 m 59 ls [.ref (ad a0), .int 0, .ref (yP y a0 71), .int (28 * v1), .ref (yP y a0 100)]) rfl ?_
  refine ugf (v := .int (sV s_7 a0 72)) G hP h_a0 iMo rfl 72 (by decide) rfl q3136 rfl rfl d_Mo_inferOne_59 ?_
  refine ucpy G hP hD hS (kdp h_a0 rfl) (typ h_a0 rfl) (kdp h_a0 rfl) (typ h_a0 rfl) rfl rfl h hl.1 q2595 q488 q487 q338 (Nat.le_of_ble_eq_true rfl) (Nat.le_of_ble_eq_true rfl) d_Mo_inferOne_62 (fun s_8 H locs h hP hD hS => ?_)
  refine lv_aload_n G.1 G.2.1 d_Mo_inferOne_65 rfl (lv_at hl 1 rfl) ?_
  obtain ⟨b_9, e_10, c_11, h⟩ := h
  refine ugf (v := .ref (ad b_9)) G hP h_a0 iMo rfl 45 (by decide) rfl q3109 rfl (by show va_rf ((sO s_8 a0 45).map ad) = _; rw [e_10]; rfl) d_Mo_inferOne_66 ?_
  refine ugfN (v := .ref (yP y b_9 30)) G hP c_11 iMw rfl 30 (by decide) rfl q2764 rfl rfl d_Mo_inferOne_69 ?_
  refine lv_iload_n G.1 G.2.1 d_Mo_inferOne_72 rfl (lv_at hl 0 rfl) ?_
  refine ubald G hP (kdp c_11 rfl) (typ c_11 rfl) h d_Mo_inferOne_73 (fun x_12 h => ?_)
  refine lv_istore_n (lv' := [(3, .int x_12), (2, .int (x_4 + v1)), (0, .ref (ad a0)), (1, .int v1)]) G.1 G.2.1 d_Mo_inferOne_74 rfl hl (by decide) rfl (fun ls hl => ?_)
  refine lv_aload_n G.1 G.2.1 d_Mo_inferOne_75 rfl (lv_at hl 2 rfl) ?_
  refine lv_iload_n G.1 G.2.1 d_Mo_inferOne_76 rfl (lv_at hl 3 rfl) ?_
  refine ucVi (As := [.int v1]) (rest := []) G hP hD hS (cu_Mo_inferHandlers l D g ad y _ s_8 a0 v1 H.size h_a0 h) w9_Mo_inferHandlers q4129 ⟨Nat.le_of_ble_eq_true rfl, Nat.le_of_ble_eq_true rfl⟩ rfl rfl h_a0 (q := (RMo, TMo, 131)) rfl rfl hl.1 rfl (Nat.le_of_ble_eq_true rfl) rfl ⟨Nat.le_refl _, Nat.le_refl _⟩ d_Mo_inferOne_77 (fun r_13 s_14 H locs h hP hD hS => ?_)
  refine lv_istore (lv' := [(4, .int r_13), (3, .int x_12), (2, .int (x_4 + v1)), (0, .ref (ad a0)), (1, .int v1)]) G.1 G.2.1 d_Mo_inferOne_80 hl (by decide) rfl (fun ls hl => ?_)
  refine W.eq (g2 := F0 m 82 ls []) rfl ?_
  refine lv_iload G.1 G.2.1 d_Mo_inferOne_82 (lv_at hl 0 rfl) ?_
  have J_98 : ∀ (s_j98 : St) (x1j98 : Int32) (x2j98 : Int32) (x3j98 : Int32) (z0j98 : Int32) (H : Heap) (locs : List Loc), wj_Mo_inferOne_98 y Post a0 s_j98 x1j98 x2j98 x3j98 z0j98 → va_P D CL (ws g ad y s_j98) H → va_D A (ws g ad y s_j98) → va_S A s.heap H locs → ∀ ls, lv_has ls 6 [(0, .ref (ad a0)), (1, .int x1j98), (2, .int x2j98), (3, .int x3j98)] → W p l e ru_Mo_inferOne s m args below meth c H locs 0 0 Q (F0 m 98 ls [.int z0j98]) := by
    intro s_j98 x1j98 x2j98 x3j98 z0j98 H locs h hP hD hS ls hl
    unfold wj_Mo_inferOne_98 at h
    refine lv_istore (lv' := [(4, .int z0j98), (0, .ref (ad a0)), (1, .int x1j98), (2, .int x2j98), (3, .int x3j98)]) G.1 G.2.1 d_Mo_inferOne_98 hl (by decide) rfl (fun ls hl => ?_)
    refine lv_iload G.1 G.2.1 d_Mo_inferOne_100 (lv_at hl 0 rfl) ?_
    have J_116 : ∀ (s_j116 : St) (x1j116 : Int32) (x2j116 : Int32) (x3j116 : Int32) (z0j116 : Int32) (H : Heap) (locs : List Loc), wj_Mo_inferOne_116 y Post a0 s_j116 x1j116 x2j116 x3j116 z0j116 → va_P D CL (ws g ad y s_j116) H → va_D A (ws g ad y s_j116) → va_S A s.heap H locs → ∀ ls, lv_has ls 6 [(0, .ref (ad a0)), (1, .int x1j116), (2, .int x2j116), (3, .int x3j116)] → W p l e ru_Mo_inferOne s m args below meth c H locs 0 0 Q (F0 m 116 ls [.int z0j116]) := by
      intro s_j116 x1j116 x2j116 x3j116 z0j116 H locs h hP hD hS ls hl
      unfold wj_Mo_inferOne_116 at h
      refine lv_istore (lv' := [(4, .int z0j116), (0, .ref (ad a0)), (1, .int x1j116), (2, .int x2j116), (3, .int x3j116)]) G.1 G.2.1 d_Mo_inferOne_116 hl (by decide) rfl (fun ls hl => ?_)
      refine lv_iload G.1 G.2.1 d_Mo_inferOne_118 (lv_at hl 0 rfl) ?_
      refine lv_if_le (tgt := 126) G.1 G.2.1 d_Mo_inferOne_120 (by decide) (fun c120 => ?_) (fun c120 => ?_)
      · skip
        have h := h.1 c120
        refine lv_aload_n G.1 G.2.1 d_Mo_inferOne_126 rfl (lv_at hl 1 rfl) ?_
        refine lv_iload_n G.1 G.2.1 d_Mo_inferOne_127 rfl (lv_at hl 4 rfl) ?_
        refine lv_iload_n G.1 G.2.1 d_Mo_inferOne_128 rfl (lv_at hl 3 rfl) ?_
        refine lv_iload_n G.1 G.2.1 d_Mo_inferOne_129 rfl (lv_at hl 2 rfl) ?_
        refine ucVv (As := [.int x3j116, .int x2j116, .int x1j116]) (rest := []) G hP hD hS (cu_Mo_act l D g ad y _ s_j116 a0 x3j116 x2j116 x1j116 H.size h_a0 h) w9_Mo_act q3775 ⟨Nat.le_of_ble_eq_true rfl, Nat.le_of_ble_eq_true rfl⟩ rfl rfl h_a0 (q := (RMo, TMo, 131)) rfl rfl hl.1 rfl (Nat.le_of_ble_eq_true rfl) rfl ⟨Nat.le_refl _, Nat.le_refl _⟩ d_Mo_inferOne_130 (fun s_16 H locs h hP hD hS => ?_)
        refine lv_aload_n G.1 G.2.1 d_Mo_inferOne_133 rfl (lv_at hl 1 rfl) ?_
        refine ugf (v := .int (sV s_16 a0 72)) G hP h_a0 iMo rfl 72 (by decide) rfl q3136 rfl rfl d_Mo_inferOne_134 ?_
        refine lv_aload_n G.1 G.2.1 d_Mo_inferOne_137 rfl (lv_at hl 1 rfl) ?_
        refine W.eq (g2 := F0 m 138 ls [.ref (ad a0), .int (sV s_16 a0 72)]) rfl ?_
        obtain ⟨b_17, e_18, c_19, h⟩ := h
        refine ugf (v := .ref (ad b_17)) G hP h_a0 iMo rfl 45 (by decide) rfl q3109 rfl (by show va_rf ((sO s_16 a0 45).map ad) = _; rw [e_18]; rfl) d_Mo_inferOne_138 ?_
        refine ugfN (v := .ref (yP y b_17 21)) G hP c_19 iMw rfl 21 (by decide) rfl q2746 rfl rfl d_Mo_inferOne_141 ?_
        refine lv_aload_n G.1 G.2.1 d_Mo_inferOne_144 rfl (lv_at hl 1 rfl) ?_
        refine ugf (v := .int (sV s_16 a0 75)) G hP h_a0 iMo rfl 75 (by decide) rfl q3139 rfl rfl d_Mo_inferOne_145 ?_
        refine uiald G hP (kdp c_19 rfl) (typ c_19 rfl) h d_Mo_inferOne_148 (fun x_20 h => ?_)
        refine lv_icmp_le (tgt := 155) G.1 G.2.1 d_Mo_inferOne_149 (by decide) (fun c149 => ?_) (fun c149 => ?_)
        · skip
          have h := h.1 c149
          refine lv_iload_n G.1 G.2.1 d_Mo_inferOne_155 rfl (lv_at hl 4 rfl) ?_
          refine lv_iconst (v := 5) G.1 G.2.1 d_Mo_inferOne_156 (by decide) ?_
          have J_304 : ∀ (s_j304 : St) (x1j304 : Int32) (x3j304 : Int32) (x4j304 : Int32) (H : Heap) (locs : List Loc), wj_Mo_inferOne_304 y Post a0 s_j304 x1j304 x3j304 x4j304 → va_P D CL (ws g ad y s_j304) H → va_D A (ws g ad y s_j304) → va_S A s.heap H locs → ∀ ls, lv_has ls 6 [(0, .ref (ad a0)), (1, .int x1j304), (3, .int x3j304), (4, .int x4j304)] → W p l e ru_Mo_inferOne s m args below meth c H locs 0 0 Q (F0 m 304 ls []) := by
            intro s_j304 x1j304 x3j304 x4j304 H locs h hP hD hS ls hl
            unfold wj_Mo_inferOne_304 at h
            refine lv_iload G.1 G.2.1 d_Mo_inferOne_304 (lv_at hl 3 rfl) ?_
            have J_345 : ∀ (s_j345 : St) (x4j345 : Int32) (H : Heap) (locs : List Loc), wj_Mo_inferOne_345 y Post a0 s_j345 x4j345 → va_P D CL (ws g ad y s_j345) H → va_D A (ws g ad y s_j345) → va_S A s.heap H locs → ∀ ls, lv_has ls 6 [(4, .int x4j345)] → W p l e ru_Mo_inferOne s m args below meth c H locs 0 0 Q (F0 m 345 ls []) := by
              intro s_j345 x4j345 H locs h hP hD hS ls hl
              unfold wj_Mo_inferOne_345 at h
              refine lv_iload G.1 G.2.1 d_Mo_inferOne_345 (lv_at hl 0 rfl) ?_
              exact hret _ _ _ _ _ _ _ ls h hP hD hS (Nat.le_refl _) (Nat.le_refl _) d_Mo_inferOne_347
            refine lv_if_gt (tgt := 345) G.1 G.2.1 d_Mo_inferOne_306 (by decide) (fun c306 => ?_) (fun c306 => ?_)
            · skip
              have h := h.1 c306
              exact J_345 s_j304 x4j304 H locs h hP hD hS ls (lv_sub hl [3] rfl)
            · skip
              have h := h.2 c306
              refine lv_iload_n G.1 G.2.1 d_Mo_inferOne_309 rfl (lv_at hl 2 rfl) ?_
              refine lv_bipush (v := 23) G.1 G.2.1 d_Mo_inferOne_310 (by decide) ?_
              refine lv_icmp_eq (tgt := 345) G.1 G.2.1 d_Mo_inferOne_312 (by decide) (fun c312 => ?_) (fun c312 => ?_)
              · skip
                have h := h.1 c312
                exact J_345 s_j304 x4j304 H locs h hP hD hS ls (lv_sub hl [3] rfl)
              · skip
                have h := h.2 c312
                refine lv_iload_n G.1 G.2.1 d_Mo_inferOne_315 rfl (lv_at hl 2 rfl) ?_
                refine lv_bipush (v := 40) G.1 G.2.1 d_Mo_inferOne_316 (by decide) ?_
                refine lv_icmp_eq (tgt := 345) G.1 G.2.1 d_Mo_inferOne_318 (by decide) (fun c318 => ?_) (fun c318 => ?_)
                · skip
                  have h := h.1 c318
                  exact J_345 s_j304 x4j304 H locs h hP hD hS ls (lv_sub hl [3] rfl)
                · skip
                  have h := h.2 c318
                  refine lv_iload_n G.1 G.2.1 d_Mo_inferOne_321 rfl (lv_at hl 2 rfl) ?_
                  refine lv_bipush (v := 56) G.1 G.2.1 d_Mo_inferOne_322 (by decide) ?_
                  refine lv_icmp_eq (tgt := 345) G.1 G.2.1 d_Mo_inferOne_324 (by decide) (fun c324 => ?_) (fun c324 => ?_)
                  · skip
                    have h := h.1 c324
                    exact J_345 s_j304 x4j304 H locs h hP hD hS ls (lv_sub hl [3] rfl)
                  · skip
                    have h := h.2 c324
                    refine W.eq (g2 := F0 m 327 ls []) rfl ?_
                    refine lv_iload_n G.1 G.2.1 d_Mo_inferOne_327 rfl (lv_at hl 2 rfl) ?_
                    refine lv_bipush (v := 57) G.1 G.2.1 d_Mo_inferOne_328 (by decide) ?_
                    refine lv_icmp_eq (tgt := 345) G.1 G.2.1 d_Mo_inferOne_330 (by decide) (fun c330 => ?_) (fun c330 => ?_)
                    · skip
                      have h := h.1 c330
                      exact J_345 s_j304 x4j304 H locs h hP hD hS ls (lv_sub hl [3] rfl)
                    · skip
                      have h := h.2 c330
                      refine lv_iload_n G.1 G.2.1 d_Mo_inferOne_333 rfl (lv_at hl 2 rfl) ?_
                      refine lv_bipush (v := 58) G.1 G.2.1 d_Mo_inferOne_334 (by decide) ?_
                      refine lv_icmp_eq (tgt := 345) G.1 G.2.1 d_Mo_inferOne_336 (by decide) (fun c336 => ?_) (fun c336 => ?_)
                      · skip
                        have h := h.1 c336
                        exact J_345 s_j304 x4j304 H locs h hP hD hS ls (lv_sub hl [3] rfl)
                      · skip
                        have h := h.2 c336
                        refine lv_iload_n G.1 G.2.1 d_Mo_inferOne_339 rfl (lv_at hl 2 rfl) ?_
                        refine lv_bipush (v := 59) G.1 G.2.1 d_Mo_inferOne_340 (by decide) ?_
                        refine lv_icmp_ne (tgt := 348) G.1 G.2.1 d_Mo_inferOne_342 (by decide) (fun c342 => ?_) (fun c342 => ?_)
                        · skip
                          have h := h.1 c342
                          refine lv_iload_n G.1 G.2.1 d_Mo_inferOne_348 rfl (lv_at hl 1 rfl) ?_
                          refine lv_iconst (v := 1) G.1 G.2.1 d_Mo_inferOne_349 (by decide) ?_
                          refine lv_iadd G.1 G.2.1 d_Mo_inferOne_350 ?_
                          refine W.eq (g2 := F0 m 351 ls [.int (x1j304 + 1)]) rfl ?_
                          refine lv_aload_n G.1 G.2.1 d_Mo_inferOne_351 rfl (lv_at hl 0 rfl) ?_
                          refine ugf (v := .int (sV s_j304 a0 101)) G hP h_a0 iMo rfl 101 (by decide) rfl q3165 rfl rfl d_Mo_inferOne_352 ?_
                          have J_378 : ∀ (s_j378 : St) (z0j378 : Int32) (H : Heap) (locs : List Loc), wj_Mo_inferOne_378 y Post a0 s_j378 z0j378 → va_P D CL (ws g ad y s_j378) H → va_D A (ws g ad y s_j378) → va_S A s.heap H locs → ∀ ls, lv_has ls 6 [] → W p l e ru_Mo_inferOne s m args below meth c H locs 0 0 Q (F0 m 378 ls [.int z0j378]) := by
                            intro s_j378 z0j378 H locs h hP hD hS ls hl
                            unfold wj_Mo_inferOne_378 at h
                            exact hret _ _ _ _ _ _ _ ls h hP hD hS (Nat.le_refl _) (Nat.le_refl _) d_Mo_inferOne_378
                          refine lv_icmp_ne (tgt := 363) G.1 G.2.1 d_Mo_inferOne_355 (by decide) (fun c355 => ?_) (fun c355 => ?_)
                          · skip
                            have h := h.1 c355
                            refine lv_aload_n G.1 G.2.1 d_Mo_inferOne_363 rfl (lv_at hl 0 rfl) ?_
                            refine lv_iload_n G.1 G.2.1 d_Mo_inferOne_364 rfl (lv_at hl 1 rfl) ?_
                            refine lv_iconst (v := 1) G.1 G.2.1 d_Mo_inferOne_365 (by decide) ?_
                            refine lv_iadd G.1 G.2.1 d_Mo_inferOne_366 ?_
                            refine lv_aload_n G.1 G.2.1 d_Mo_inferOne_367 rfl (lv_at hl 0 rfl) ?_
                            refine ugf (v := .ref (yP y a0 71)) G hP h_a0 iMo rfl 71 (by decide) rfl q3135 rfl rfl d_Mo_inferOne_368 ?_
                            refine lv_aload_n G.1 G.2.1 d_Mo_inferOne_371 rfl (lv_at hl 0 rfl) ?_
                            refine ugf (v := .int (sV s_j304 a0 72)) G hP h_a0 iMo rfl 72 (by decide) rfl q3136 rfl rfl d_Mo_inferOne_372 ?_
                            refine ucVi (As := [.int (x1j304 + 1), .ref (yP y a0 71), .int (sV s_j304 a0 72)]) (rest := []) G hP hD hS (cu_Mo_join l D g ad y _ s_j304 a0 (x1j304 + 1) a0 71 (sV s_j304 a0 72) H.size h_a0 ⟨(kdp h_a0 rfl), (typ h_a0 rfl)⟩ h) w9_Mo_join q4133 ⟨Nat.le_of_ble_eq_true rfl, Nat.le_of_ble_eq_true rfl⟩ rfl rfl h_a0 (q := (RMo, TMo, 131)) rfl rfl hl.1 rfl (Nat.le_of_ble_eq_true rfl) rfl ⟨Nat.le_refl _, Nat.le_refl _⟩ d_Mo_inferOne_375 (fun r_21 s_22 H locs h hP hD hS => ?_)
                            exact J_378 s_22 r_21 H locs h hP hD hS ls (lv_sub hl [] rfl)
                          · skip
                            have h := h.2 c355
                            refine lv_bipush (v := 35) G.1 G.2.1 d_Mo_inferOne_358 (by decide) ?_
                            refine lv_goto (tgt := 378) G.1 G.2.1 d_Mo_inferOne_360 (by decide) ?_
                            exact J_378 s_j304 35 H locs h hP hD hS ls (lv_sub hl [] rfl)
                        · skip
                          have h := h.2 c342
                          exact J_345 s_j304 x4j304 H locs h hP hD hS ls (lv_sub hl [3] rfl)
          have J_188 : ∀ (s_j188 : St) (x1j188 : Int32) (x3j188 : Int32) (H : Heap) (locs : List Loc), wj_Mo_inferOne_188 y Post a0 s_j188 x1j188 x3j188 → va_P D CL (ws g ad y s_j188) H → va_D A (ws g ad y s_j188) → va_S A s.heap H locs → ∀ ls, lv_has ls 6 [(0, .ref (ad a0)), (1, .int x1j188), (3, .int x3j188)] → W p l e ru_Mo_inferOne s m args below meth c H locs 0 0 Q (F0 m 188 ls []) := by
            intro s_j188 x1j188 x3j188 H locs h hP hD hS ls hl
            unfold wj_Mo_inferOne_188 at h
            refine lv_aload_n G.1 G.2.1 d_Mo_inferOne_188 rfl (lv_at hl 0 rfl) ?_
            refine lv_iload_n G.1 G.2.1 d_Mo_inferOne_189 rfl (lv_at hl 1 rfl) ?_
            refine ucVi (As := [.int x1j188]) (rest := []) G hP hD hS (cu_Mo_inferHandlers l D g ad y _ s_j188 a0 x1j188 H.size h_a0 h) w9_Mo_inferHandlers q4129 ⟨Nat.le_of_ble_eq_true rfl, Nat.le_of_ble_eq_true rfl⟩ rfl rfl h_a0 (q := (RMo, TMo, 131)) rfl rfl hl.1 rfl (Nat.le_of_ble_eq_true rfl) rfl ⟨Nat.le_refl _, Nat.le_refl _⟩ d_Mo_inferOne_190 (fun r_23 s_24 H locs h hP hD hS => ?_)
            refine lv_istore (lv' := [(4, .int r_23), (0, .ref (ad a0)), (1, .int x1j188), (3, .int x3j188)]) G.1 G.2.1 d_Mo_inferOne_193 hl (by decide) rfl (fun ls hl => ?_)
            refine lv_goto (tgt := 304) G.1 G.2.1 d_Mo_inferOne_195 (by decide) ?_
            exact J_304 s_24 x1j188 x3j188 r_23 H locs h hP hD hS ls (lv_sub hl [1, 2, 3, 0] rfl)
          refine lv_icmp_eq (tgt := 188) G.1 G.2.1 d_Mo_inferOne_157 (by decide) (fun c157 => ?_) (fun c157 => ?_)
          · skip
            have h := h.1 c157
            exact J_188 s_16 x1j116 x3j116 H locs h hP hD hS ls (lv_sub hl [1, 2, 4] rfl)
          · skip
            have h := h.2 c157
            refine lv_iload_n G.1 G.2.1 d_Mo_inferOne_160 rfl (lv_at hl 4 rfl) ?_
            refine lv_bipush (v := 6) G.1 G.2.1 d_Mo_inferOne_161 (by decide) ?_
            refine lv_icmp_eq (tgt := 188) G.1 G.2.1 d_Mo_inferOne_163 (by decide) (fun c163 => ?_) (fun c163 => ?_)
            · skip
              have h := h.1 c163
              exact J_188 s_16 x1j116 x3j116 H locs h hP hD hS ls (lv_sub hl [1, 2, 4] rfl)
            · skip
              have h := h.2 c163
              refine W.eq (g2 := F0 m 166 ls []) rfl ?_
              refine lv_iload_n G.1 G.2.1 d_Mo_inferOne_166 rfl (lv_at hl 4 rfl) ?_
              refine lv_bipush (v := 51) G.1 G.2.1 d_Mo_inferOne_167 (by decide) ?_
              have J_198 : ∀ (s_j198 : St) (x1j198 : Int32) (x2j198 : Int32) (x3j198 : Int32) (x4j198 : Int32) (H : Heap) (locs : List Loc), wj_Mo_inferOne_198 y Post a0 s_j198 x1j198 x2j198 x3j198 x4j198 → va_P D CL (ws g ad y s_j198) H → va_D A (ws g ad y s_j198) → va_S A s.heap H locs → ∀ ls, lv_has ls 6 [(0, .ref (ad a0)), (1, .int x1j198), (2, .int x2j198), (3, .int x3j198), (4, .int x4j198)] → W p l e ru_Mo_inferOne s m args below meth c H locs 0 0 Q (F0 m 198 ls []) := by
                intro s_j198 x1j198 x2j198 x3j198 x4j198 H locs h hP hD hS ls hl
                unfold wj_Mo_inferOne_198 at h
                refine lv_iload_n G.1 G.2.1 d_Mo_inferOne_198 rfl (lv_at hl 3 rfl) ?_
                refine lv_bipush (v := 23) G.1 G.2.1 d_Mo_inferOne_199 (by decide) ?_
                have J_236 : ∀ (s_j236 : St) (x1j236 : Int32) (x2j236 : Int32) (x3j236 : Int32) (x4j236 : Int32) (H : Heap) (locs : List Loc), wj_Mo_inferOne_236 y Post a0 s_j236 x1j236 x2j236 x3j236 x4j236 → va_P D CL (ws g ad y s_j236) H → va_D A (ws g ad y s_j236) → va_S A s.heap H locs → ∀ ls, lv_has ls 6 [(0, .ref (ad a0)), (1, .int x1j236), (2, .int x2j236), (3, .int x3j236), (4, .int x4j236)] → W p l e ru_Mo_inferOne s m args below meth c H locs 0 0 Q (F0 m 236 ls []) := by
                  intro s_j236 x1j236 x2j236 x3j236 x4j236 H locs h hP hD hS ls hl
                  unfold wj_Mo_inferOne_236 at h
                  refine lv_iload_n G.1 G.2.1 d_Mo_inferOne_236 rfl (lv_at hl 3 rfl) ?_
                  refine lv_bipush (v := 40) G.1 G.2.1 d_Mo_inferOne_237 (by decide) ?_
                  refine lv_icmp_ne (tgt := 304) G.1 G.2.1 d_Mo_inferOne_239 (by decide) (fun c239 => ?_) (fun c239 => ?_)
                  · skip
                    have h := h.1 c239
                    exact J_304 s_j236 x1j236 x3j236 x4j236 H locs h hP hD hS ls (lv_sub hl [0, 1, 3, 4] rfl)
                  · skip
                    have h := h.2 c239
                    refine lv_iconst (v := 0) G.1 G.2.1 d_Mo_inferOne_242 (by decide) ?_
                    refine lv_istore (lv' := [(5, .int 0), (0, .ref (ad a0)), (1, .int x1j236), (2, .int x2j236), (3, .int x3j236), (4, .int x4j236)]) G.1 G.2.1 d_Mo_inferOne_243 hl (by decide) rfl (fun ls hl => ?_)
                    unfold wl_Mo_inferOne_245 at h
                    obtain ⟨I_245, μ_245, hI_245, hB_245⟩ := h
                    have L_245 : ∀ (n_245 : Nat) (s_h245 : St) (x1h245 : Int32) (x2h245 : Int32) (x3h245 : Int32) (x4h245 : Int32) (x5h245 : Int32), μ_245 s_h245 x1h245 x2h245 x3h245 x4h245 x5h245 < n_245 → I_245 s_h245 x1h245 x2h245 x3h245 x4h245 x5h245 → ∀ (H : Heap) (locs : List Loc), va_P D CL (ws g ad y s_h245) H → va_D A (ws g ad y s_h245) → va_S A s.heap H locs → ∀ ls, lv_has ls 6 [(0, .ref (ad a0)), (1, .int x1h245), (2, .int x2h245), (3, .int x3h245), (4, .int x4h245), (5, .int x5h245)] → W p l e ru_Mo_inferOne s m args below meth c H locs 0 0 Q (F0 m 245 ls []) := by
                      intro n_245
                      induction n_245 with
                      | zero => intro s_h245 x1h245 x2h245 x3h245 x4h245 x5h245 hμ; exact absurd hμ (Nat.not_lt_zero _)
                      | succ n_245 ih_245 =>
                        intro s_h245 x1h245 x2h245 x3h245 x4h245 x5h245 hμ_245 hJ H locs hP hD hS ls hl
                        obtain ⟨K_245, hK_245, h⟩ : ∃ K : St → Int32 → Int32 → Int32 → Int32 → Int32 → Prop, (∀ z (t0 : Int32) (t1 : Int32) (t2 : Int32) (t3 : Int32) (t4 : Int32), K z t0 t1 t2 t3 t4 → I_245 z t0 t1 t2 t3 t4 ∧ μ_245 z t0 t1 t2 t3 t4 < μ_245 s_h245 x1h245 x2h245 x3h245 x4h245 x5h245) ∧ wb_Mo_inferOne_245 y Post K a0 s_h245 x1h245 x2h245 x3h245 x4h245 x5h245 := ⟨_, fun _ _ _ _ _ _ h => h, hB_245 s_h245 x1h245 x2h245 x3h245 x4h245 x5h245 hJ⟩
                        unfold wb_Mo_inferOne_245 at h
                        refine lv_iload G.1 G.2.1 d_Mo_inferOne_245 (lv_at hl 5 rfl) ?_
                        refine lv_aload_n G.1 G.2.1 d_Mo_inferOne_247 rfl (lv_at hl 0 rfl) ?_
                        obtain ⟨b_25, e_26, c_27, h⟩ := h
                        refine ugf (v := .ref (ad b_25)) G hP h_a0 iMo rfl 45 (by decide) rfl q3109 rfl (by show va_rf ((sO s_h245 a0 45).map ad) = _; rw [e_26]; rfl) d_Mo_inferOne_248 ?_
                        refine ugfN (v := .ref (yP y b_25 33)) G hP c_27 iMw rfl 33 (by decide) rfl q2770 rfl rfl d_Mo_inferOne_251 ?_
                        refine lv_iload_n G.1 G.2.1 d_Mo_inferOne_254 rfl (lv_at hl 2 rfl) ?_
                        refine uiald G hP (kdp c_27 rfl) (typ c_27 rfl) h d_Mo_inferOne_255 (fun x_28 h => ?_)
                        refine lv_icmp_ge (tgt := 304) G.1 G.2.1 d_Mo_inferOne_256 (by decide) (fun c256 => ?_) (fun c256 => ?_)
                        · skip
                          have h := h.1 c256
                          exact J_304 s_h245 x1h245 x3h245 x4h245 H locs h hP hD hS ls (lv_sub hl [0, 1, 3, 4] rfl)
                        · skip
                          have h := h.2 c256
                          refine lv_iload G.1 G.2.1 d_Mo_inferOne_259 (lv_at hl 4 rfl) ?_
                          refine lv_if_ne (tgt := 304) G.1 G.2.1 d_Mo_inferOne_261 (by decide) (fun c261 => ?_) (fun c261 => ?_)
                          · skip
                            have h := h.1 c261
                            exact J_304 s_h245 x1h245 x3h245 x4h245 H locs h hP hD hS ls (lv_sub hl [0, 1, 3, 4] rfl)
                          · skip
                            have h := h.2 c261
                            refine lv_aload_n G.1 G.2.1 d_Mo_inferOne_264 rfl (lv_at hl 0 rfl) ?_
                            refine lv_aload_n G.1 G.2.1 d_Mo_inferOne_265 rfl (lv_at hl 0 rfl) ?_
                            refine W.eq (g2 := F0 m 266 ls [.ref (ad a0), .ref (ad a0)]) rfl ?_
                            obtain ⟨b_29, e_30, c_31, h⟩ := h
                            refine ugf (v := .ref (ad b_29)) G hP h_a0 iMo rfl 45 (by decide) rfl q3109 rfl (by show va_rf ((sO s_h245 a0 45).map ad) = _; rw [e_30]; rfl) d_Mo_inferOne_266 ?_
                            refine ugfN (v := .ref (yP y b_29 36)) G hP c_31 iMw rfl 36 (by decide) rfl q2775 rfl rfl d_Mo_inferOne_269 ?_
                            refine lv_aload_n G.1 G.2.1 d_Mo_inferOne_272 rfl (lv_at hl 0 rfl) ?_
                            obtain ⟨b_32, e_33, c_34, h⟩ := h
                            refine ugf (v := .ref (ad b_32)) G hP h_a0 iMo rfl 45 (by decide) rfl q3109 rfl (by show va_rf ((sO s_h245 a0 45).map ad) = _; rw [e_33]; rfl) d_Mo_inferOne_273 ?_
                            refine ugfN (v := .ref (yP y b_32 32)) G hP c_34 iMw rfl 32 (by decide) rfl q2768 rfl rfl d_Mo_inferOne_276 ?_
                            refine lv_iload_n G.1 G.2.1 d_Mo_inferOne_279 rfl (lv_at hl 2 rfl) ?_
                            refine uiald G hP (kdp c_34 rfl) (typ c_34 rfl) h d_Mo_inferOne_280 (fun x_35 h => ?_)
                            refine lv_iload G.1 G.2.1 d_Mo_inferOne_281 (lv_at hl 5 rfl) ?_
                            refine lv_iadd G.1 G.2.1 d_Mo_inferOne_283 ?_
                            refine uiald G hP (kdp c_31 rfl) (typ c_31 rfl) h d_Mo_inferOne_284 (fun x_36 h => ?_)
                            refine lv_aload_n G.1 G.2.1 d_Mo_inferOne_285 rfl (lv_at hl 0 rfl) ?_
                            refine ugf (v := .ref (yP y a0 71)) G hP h_a0 iMo rfl 71 (by decide) rfl q3135 rfl rfl d_Mo_inferOne_286 ?_
                            refine W.eq (g2 := F0 m 289 ls [.ref (yP y a0 71), .int x_36, .ref (ad a0)]) rfl ?_
                            refine lv_aload_n G.1 G.2.1 d_Mo_inferOne_289 rfl (lv_at hl 0 rfl) ?_
                            refine ugf (v := .int (sV s_h245 a0 72)) G hP h_a0 iMo rfl 72 (by decide) rfl q3136 rfl rfl d_Mo_inferOne_290 ?_
                            refine ucVi (As := [.int x_36, .ref (yP y a0 71), .int (sV s_h245 a0 72)]) (rest := []) G hP hD hS (cu_Mo_join l D g ad y _ s_h245 a0 x_36 a0 71 (sV s_h245 a0 72) H.size h_a0 ⟨(kdp h_a0 rfl), (typ h_a0 rfl)⟩ h) w9_Mo_join q4133 ⟨Nat.le_of_ble_eq_true rfl, Nat.le_of_ble_eq_true rfl⟩ rfl rfl h_a0 (q := (RMo, TMo, 131)) rfl rfl hl.1 rfl (Nat.le_of_ble_eq_true rfl) rfl ⟨Nat.le_refl _, Nat.le_refl _⟩ d_Mo_inferOne_293 (fun r_37 s_38 H locs h hP hD hS => ?_)
                            refine lv_istore (lv' := [(4, .int r_37), (0, .ref (ad a0)), (1, .int x1h245), (2, .int x2h245), (3, .int x3h245), (5, .int x5h245)]) G.1 G.2.1 d_Mo_inferOne_296 hl (by decide) rfl (fun ls hl => ?_)
                            refine lv_iinc (v := x5h245 + 1) (lv' := [(5, .int (x5h245 + 1)), (4, .int r_37), (0, .ref (ad a0)), (1, .int x1h245), (2, .int x2h245), (3, .int x3h245)]) G.1 G.2.1 d_Mo_inferOne_298 hl (k := 5) rfl rfl (by decide) rfl (fun ls hl => ?_)
                            refine lv_goto (tgt := 245) G.1 G.2.1 d_Mo_inferOne_301 (by decide) ?_
                            have h := hK_245 s_38 x1h245 x2h245 x3h245 r_37 (x5h245 + 1) h
                            exact ih_245 s_38 x1h245 x2h245 x3h245 r_37 (x5h245 + 1) (Nat.lt_of_lt_of_le h.2 (Nat.le_of_lt_succ hμ_245)) h.1 H locs hP hD hS ls (lv_sub hl [2, 3, 4, 5, 1, 0] rfl)
                    exact L_245 _ s_j236 x1j236 x2j236 x3j236 x4j236 0 (Nat.lt_succ_self _) hI_245 H locs hP hD hS ls (lv_sub hl [1, 2, 3, 4, 5, 0] rfl)
                refine lv_icmp_lt (tgt := 236) G.1 G.2.1 d_Mo_inferOne_201 (by decide) (fun c201 => ?_) (fun c201 => ?_)
                · skip
                  have h := h.1 c201
                  exact J_236 s_j198 x1j198 x2j198 x3j198 x4j198 H locs h hP hD hS ls (lv_sub hl [0, 1, 2, 3, 4] rfl)
                · skip
                  have h := h.2 c201
                  refine lv_iload_n G.1 G.2.1 d_Mo_inferOne_204 rfl (lv_at hl 3 rfl) ?_
                  refine lv_bipush (v := 39) G.1 G.2.1 d_Mo_inferOne_205 (by decide) ?_
                  refine lv_icmp_gt (tgt := 236) G.1 G.2.1 d_Mo_inferOne_207 (by decide) (fun c207 => ?_) (fun c207 => ?_)
                  · skip
                    have h := h.1 c207
                    exact J_236 s_j198 x1j198 x2j198 x3j198 x4j198 H locs h hP hD hS ls (lv_sub hl [0, 1, 2, 3, 4] rfl)
                  · skip
                    have h := h.2 c207
                    refine lv_aload_n G.1 G.2.1 d_Mo_inferOne_210 rfl (lv_at hl 0 rfl) ?_
                    refine lv_aload_n G.1 G.2.1 d_Mo_inferOne_211 rfl (lv_at hl 0 rfl) ?_
                    obtain ⟨b_39, e_40, c_41, h⟩ := h
                    refine ugf (v := .ref (ad b_39)) G hP h_a0 iMo rfl 45 (by decide) rfl q3109 rfl (by show va_rf ((sO s_j198 a0 45).map ad) = _; rw [e_40]; rfl) d_Mo_inferOne_212 ?_
                    refine ugfN (v := .ref (yP y b_39 31)) G hP c_41 iMw rfl 31 (by decide) rfl q2766 rfl rfl d_Mo_inferOne_215 ?_
                    refine lv_iload_n G.1 G.2.1 d_Mo_inferOne_218 rfl (lv_at hl 2 rfl) ?_
                    refine W.eq (g2 := F0 m 219 ls [.int x2j198, .ref (yP y b_39 31), .ref (ad a0)]) rfl ?_
                    refine uiald G hP (kdp c_41 rfl) (typ c_41 rfl) h d_Mo_inferOne_219 (fun x_42 h => ?_)
                    refine lv_aload_n G.1 G.2.1 d_Mo_inferOne_220 rfl (lv_at hl 0 rfl) ?_
                    refine ugf (v := .ref (yP y a0 71)) G hP h_a0 iMo rfl 71 (by decide) rfl q3135 rfl rfl d_Mo_inferOne_221 ?_
                    refine lv_aload_n G.1 G.2.1 d_Mo_inferOne_224 rfl (lv_at hl 0 rfl) ?_
                    refine ugf (v := .int (sV s_j198 a0 72)) G hP h_a0 iMo rfl 72 (by decide) rfl q3136 rfl rfl d_Mo_inferOne_225 ?_
                    refine ucVi (As := [.int x_42, .ref (yP y a0 71), .int (sV s_j198 a0 72)]) (rest := []) G hP hD hS (cu_Mo_join l D g ad y _ s_j198 a0 x_42 a0 71 (sV s_j198 a0 72) H.size h_a0 ⟨(kdp h_a0 rfl), (typ h_a0 rfl)⟩ h) w9_Mo_join q4133 ⟨Nat.le_of_ble_eq_true rfl, Nat.le_of_ble_eq_true rfl⟩ rfl rfl h_a0 (q := (RMo, TMo, 131)) rfl rfl hl.1 rfl (Nat.le_of_ble_eq_true rfl) rfl ⟨Nat.le_refl _, Nat.le_refl _⟩ d_Mo_inferOne_228 (fun r_43 s_44 H locs h hP hD hS => ?_)
                    refine lv_istore (lv' := [(4, .int r_43), (0, .ref (ad a0)), (1, .int x1j198), (2, .int x2j198), (3, .int x3j198)]) G.1 G.2.1 d_Mo_inferOne_231 hl (by decide) rfl (fun ls hl => ?_)
                    refine lv_goto (tgt := 304) G.1 G.2.1 d_Mo_inferOne_233 (by decide) ?_
                    exact J_304 s_44 x1j198 x3j198 r_43 H locs h hP hD hS ls (lv_sub hl [1, 2, 4, 0] rfl)
              refine lv_icmp_ne (tgt := 198) G.1 G.2.1 d_Mo_inferOne_169 (by decide) (fun c169 => ?_) (fun c169 => ?_)
              · skip
                have h := h.1 c169
                exact J_198 s_16 x1j116 x2j116 x3j116 z0j116 H locs h hP hD hS ls (lv_sub hl [1, 2, 3, 4, 0] rfl)
              · skip
                have h := h.2 c169
                refine lv_aload_n G.1 G.2.1 d_Mo_inferOne_172 rfl (lv_at hl 1 rfl) ?_
                obtain ⟨b_45, e_46, c_47, h⟩ := h
                refine ugf (v := .ref (ad b_45)) G hP h_a0 iMo rfl 45 (by decide) rfl q3109 rfl (by show va_rf ((sO s_16 a0 45).map ad) = _; rw [e_46]; rfl) d_Mo_inferOne_173 ?_
                refine ugfN (v := .ref (yP y b_45 32)) G hP c_47 iMw rfl 32 (by decide) rfl q2768 rfl rfl d_Mo_inferOne_176 ?_
                refine lv_iload_n G.1 G.2.1 d_Mo_inferOne_179 rfl (lv_at hl 3 rfl) ?_
                refine uiald G hP (kdp c_47 rfl) (typ c_47 rfl) h d_Mo_inferOne_180 (fun x_48 h => ?_)
                refine lv_aload_n G.1 G.2.1 d_Mo_inferOne_181 rfl (lv_at hl 1 rfl) ?_
                refine ugf (v := .int (sV s_16 a0 6)) G hP h_a0 iMo rfl 6 (by decide) rfl q3070 rfl rfl d_Mo_inferOne_182 ?_
                refine lv_icmp_ne (tgt := 198) G.1 G.2.1 d_Mo_inferOne_185 (by decide) (fun c185 => ?_) (fun c185 => ?_)
                · skip
                  have h := h.1 c185
                  exact J_198 s_16 x1j116 x2j116 x3j116 z0j116 H locs h hP hD hS ls (lv_sub hl [1, 2, 3, 4, 0] rfl)
                · skip
                  have h := h.2 c185
                  exact J_188 s_16 x1j116 x3j116 H locs h hP hD hS ls (lv_sub hl [1, 2, 4] rfl)
        · skip
          have h := h.2 c149
          refine lv_bipush (v := 30) G.1 G.2.1 d_Mo_inferOne_152 (by decide) ?_
          exact hret _ _ _ _ _ _ _ ls h hP hD hS (Nat.le_refl _) (Nat.le_refl _) d_Mo_inferOne_154
      · skip
        have h := h.2 c120
        refine lv_iload G.1 G.2.1 d_Mo_inferOne_123 (lv_at hl 0 rfl) ?_
        exact hret _ _ _ _ _ _ _ ls h hP hD hS (Nat.le_refl _) (Nat.le_refl _) d_Mo_inferOne_125
    refine lv_if_le (tgt := 110) G.1 G.2.1 d_Mo_inferOne_102 (by decide) (fun c102 => ?_) (fun c102 => ?_)
    · skip
      have h := h.1 c102
      refine lv_aload_n G.1 G.2.1 d_Mo_inferOne_110 rfl (lv_at hl 1 rfl) ?_
      refine lv_iload_n G.1 G.2.1 d_Mo_inferOne_111 rfl (lv_at hl 4 rfl) ?_
      refine lv_iload_n G.1 G.2.1 d_Mo_inferOne_112 rfl (lv_at hl 3 rfl) ?_
      refine ucVi (As := [.int x3j98, .int x2j98]) (rest := []) G hP hD hS (cu_Mo_checkOwn l D g ad y _ s_j98 a0 x3j98 x2j98 H.size h_a0 h) w9_Mo_checkOwn q3767 ⟨Nat.le_of_ble_eq_true rfl, Nat.le_of_ble_eq_true rfl⟩ rfl rfl h_a0 (q := (RMo, TMo, 131)) rfl rfl hl.1 rfl (Nat.le_of_ble_eq_true rfl) rfl ⟨Nat.le_refl _, Nat.le_refl _⟩ d_Mo_inferOne_113 (fun r_49 s_50 H locs h hP hD hS => ?_)
      exact J_116 s_50 x1j98 x2j98 x3j98 r_49 H locs h hP hD hS ls (lv_sub hl [1, 2, 3, 4] rfl)
    · skip
      have h := h.2 c102
      refine lv_iload G.1 G.2.1 d_Mo_inferOne_105 (lv_at hl 0 rfl) ?_
      refine lv_goto (tgt := 116) G.1 G.2.1 d_Mo_inferOne_107 (by decide) ?_
      exact J_116 s_j98 x1j98 x2j98 x3j98 z0j98 H locs h hP hD hS ls (lv_sub hl [1, 2, 3, 4] rfl)
  refine lv_if_le (tgt := 92) G.1 G.2.1 d_Mo_inferOne_84 (by decide) (fun c84 => ?_) (fun c84 => ?_)
  · skip
    have h := h.1 c84
    refine lv_aload_n G.1 G.2.1 d_Mo_inferOne_92 rfl (lv_at hl 3 rfl) ?_
    refine lv_iload_n G.1 G.2.1 d_Mo_inferOne_93 rfl (lv_at hl 1 rfl) ?_
    refine lv_iload_n G.1 G.2.1 d_Mo_inferOne_94 rfl (lv_at hl 2 rfl) ?_
    refine ucVi (As := [.int x_12, .int (x_4 + v1)]) (rest := []) G hP hD hS (cu_Mo_checkTaken l D g ad y _ s_14 a0 x_12 (x_4 + v1) H.size h_a0 h) w9_Mo_checkTaken q3749 ⟨Nat.le_of_ble_eq_true rfl, Nat.le_of_ble_eq_true rfl⟩ rfl rfl h_a0 (q := (RMo, TMo, 131)) rfl rfl hl.1 rfl (Nat.le_of_ble_eq_true rfl) rfl ⟨Nat.le_refl _, Nat.le_refl _⟩ d_Mo_inferOne_95 (fun r_51 s_52 H locs h hP hD hS => ?_)
    exact J_98 s_52 v1 (x_4 + v1) x_12 r_51 H locs h hP hD hS ls (lv_sub hl [3, 4, 2, 1] rfl)
  · skip
    have h := h.2 c84
    refine lv_iload G.1 G.2.1 d_Mo_inferOne_87 (lv_at hl 0 rfl) ?_
    refine lv_goto (tgt := 98) G.1 G.2.1 d_Mo_inferOne_89 (by decide) ?_
    exact J_98 s_14 v1 (x_4 + v1) x_12 r_13 H locs h hP hD hS ls (lv_sub hl [3, 4, 2, 1] rfl)
theorem q4125 : Cond.methodLink "ClassWorksModel" 1269 y_Mo_inferOne ∈ lw_ok := lw_okmem (List.mem_of_getElem? (i := 4125) (by decide +kernel)) rfl
theorem q4128 : Cond.code y_Mo_inferOne b_Mo_inferOne 6 (some .int) ∈ lw_ok := lw_okmem (List.mem_of_getElem? (i := 4128) (by decide +kernel)) rfl
theorem q4127 : Cond.instanceMethod y_Mo_inferOne ∈ lw_ok := lw_okmem (List.mem_of_getElem? (i := 4127) (by decide +kernel)) rfl
theorem q307 : Cond.selects y_Mo_inferOne.cls y_Mo_inferOne y_Mo_inferOne ∈ lw_ok := lw_okmem (List.mem_of_getElem? (i := 307) (by decide +kernel)) rfl
theorem w9_Mo_inferOne : CWv y_Mo_inferOne b_Mo_inferOne 6 (some .int) 1 ∧ Cond.instanceMethod y_Mo_inferOne ∈ lw_ok ∧ Cond.selects y_Mo_inferOne.cls y_Mo_inferOne y_Mo_inferOne ∈ lw_ok := ⟨⟨q4128, q348, by decide +kernel, by decide +kernel, by decide +kernel⟩, q4127, q307⟩
def y_Mo_infer : MethodName := ⟨"ClassWorksModel", "infer", "(II)I"⟩
abbrev b_Mo_infer : ByteArray := prog_14_method_173_code
theorem d_Mo_infer_0 : decode b_Mo_infer 0 = .ok (.aload_n 0, 1) := by decide +kernel
theorem d_Mo_infer_1 : decode b_Mo_infer 1 = .ok (.iload_n 1, 1) := by decide +kernel
theorem d_Mo_infer_2 : decode b_Mo_infer 2 = .ok (.iload_n 2, 1) := by decide +kernel
theorem d_Mo_infer_3 : decode b_Mo_infer 3 = .ok (.invokevirtual 795, 3) := by decide +kernel
theorem d_Mo_infer_6 : decode b_Mo_infer 6 = .ok (.aload_n 0, 1) := by decide +kernel
theorem d_Mo_infer_7 : decode b_Mo_infer 7 = .ok (.iconst 0, 1) := by decide +kernel
theorem d_Mo_infer_8 : decode b_Mo_infer 8 = .ok (.invokevirtual 805, 3) := by decide +kernel
theorem d_Mo_infer_11 : decode b_Mo_infer 11 = .ok (.aload_n 0, 1) := by decide +kernel
theorem d_Mo_infer_12 : decode b_Mo_infer 12 = .ok (.iconst 1, 1) := by decide +kernel
theorem d_Mo_infer_13 : decode b_Mo_infer 13 = .ok (.putfield 1266, 3) := by decide +kernel
theorem d_Mo_infer_16 : decode b_Mo_infer 16 = .ok (.iconst 0, 1) := by decide +kernel
theorem d_Mo_infer_17 : decode b_Mo_infer 17 = .ok (.istore_n 3, 1) := by decide +kernel
theorem d_Mo_infer_18 : decode b_Mo_infer 18 = .ok (.aload_n 0, 1) := by decide +kernel
theorem d_Mo_infer_19 : decode b_Mo_infer 19 = .ok (.getfield 1266, 3) := by decide +kernel
theorem d_Mo_infer_22 : decode b_Mo_infer 22 = .ok (.ifCond .eq 91, 3) := by decide +kernel
theorem d_Mo_infer_25 : decode b_Mo_infer 25 = .ok (.aload_n 0, 1) := by decide +kernel
theorem d_Mo_infer_26 : decode b_Mo_infer 26 = .ok (.iconst 0, 1) := by decide +kernel
theorem d_Mo_infer_27 : decode b_Mo_infer 27 = .ok (.putfield 1266, 3) := by decide +kernel
theorem d_Mo_infer_30 : decode b_Mo_infer 30 = .ok (.iconst 0, 1) := by decide +kernel
theorem d_Mo_infer_31 : decode b_Mo_infer 31 = .ok (.istore 4, 2) := by decide +kernel
theorem d_Mo_infer_33 : decode b_Mo_infer 33 = .ok (.iload 4, 2) := by decide +kernel
theorem d_Mo_infer_35 : decode b_Mo_infer 35 = .ok (.aload_n 0, 1) := by decide +kernel
theorem d_Mo_infer_36 : decode b_Mo_infer 36 = .ok (.getfield 1257, 3) := by decide +kernel
theorem d_Mo_infer_39 : decode b_Mo_infer 39 = .ok (.if_icmp .ge 45, 3) := by decide +kernel
theorem d_Mo_infer_42 : decode b_Mo_infer 42 = .ok (.aload_n 0, 1) := by decide +kernel
theorem d_Mo_infer_43 : decode b_Mo_infer 43 = .ok (.getfield 329, 3) := by decide +kernel
theorem d_Mo_infer_46 : decode b_Mo_infer 46 = .ok (.iload 4, 2) := by decide +kernel
theorem d_Mo_infer_48 : decode b_Mo_infer 48 = .ok (.baload, 1) := by decide +kernel
theorem d_Mo_infer_49 : decode b_Mo_infer 49 = .ok (.ifCond .eq 12, 3) := by decide +kernel
theorem d_Mo_infer_52 : decode b_Mo_infer 52 = .ok (.aload_n 0, 1) := by decide +kernel
theorem d_Mo_infer_53 : decode b_Mo_infer 53 = .ok (.iload 4, 2) := by decide +kernel
theorem d_Mo_infer_55 : decode b_Mo_infer 55 = .ok (.invokevirtual 1269, 3) := by decide +kernel
theorem d_Mo_infer_58 : decode b_Mo_infer 58 = .ok (.goto 4, 3) := by decide +kernel
theorem d_Mo_infer_61 : decode b_Mo_infer 61 = .ok (.iconst 0, 1) := by decide +kernel
theorem d_Mo_infer_62 : decode b_Mo_infer 62 = .ok (.istore 5, 2) := by decide +kernel
theorem d_Mo_infer_64 : decode b_Mo_infer 64 = .ok (.iload 5, 2) := by decide +kernel
theorem d_Mo_infer_66 : decode b_Mo_infer 66 = .ok (.ifCond .le 12, 3) := by decide +kernel
theorem d_Mo_infer_69 : decode b_Mo_infer 69 = .ok (.aload_n 0, 1) := by decide +kernel
theorem d_Mo_infer_70 : decode b_Mo_infer 70 = .ok (.iload 4, 2) := by decide +kernel
theorem d_Mo_infer_72 : decode b_Mo_infer 72 = .ok (.putfield 759, 3) := by decide +kernel
theorem d_Mo_infer_75 : decode b_Mo_infer 75 = .ok (.iload 5, 2) := by decide +kernel
theorem d_Mo_infer_77 : decode b_Mo_infer 77 = .ok (.ireturn, 1) := by decide +kernel
theorem d_Mo_infer_78 : decode b_Mo_infer 78 = .ok (.iinc 4 1, 3) := by decide +kernel
theorem d_Mo_infer_81 : decode b_Mo_infer 81 = .ok (.goto (-48), 3) := by decide +kernel
theorem d_Mo_infer_84 : decode b_Mo_infer 84 = .ok (.iload_n 3, 1) := by decide +kernel
theorem d_Mo_infer_85 : decode b_Mo_infer 85 = .ok (.aload_n 0, 1) := by decide +kernel
theorem d_Mo_infer_86 : decode b_Mo_infer 86 = .ok (.getfield 1266, 3) := by decide +kernel
theorem d_Mo_infer_89 : decode b_Mo_infer 89 = .ok (.ifCond .eq 7, 3) := by decide +kernel
theorem d_Mo_infer_92 : decode b_Mo_infer 92 = .ok (.iconst 1, 1) := by decide +kernel
theorem d_Mo_infer_93 : decode b_Mo_infer 93 = .ok (.goto 4, 3) := by decide +kernel
theorem d_Mo_infer_96 : decode b_Mo_infer 96 = .ok (.iconst 0, 1) := by decide +kernel
theorem d_Mo_infer_97 : decode b_Mo_infer 97 = .ok (.iadd, 1) := by decide +kernel
theorem d_Mo_infer_98 : decode b_Mo_infer 98 = .ok (.istore_n 3, 1) := by decide +kernel
theorem d_Mo_infer_99 : decode b_Mo_infer 99 = .ok (.iload_n 3, 1) := by decide +kernel
theorem d_Mo_infer_100 : decode b_Mo_infer 100 = .ok (.bipush 100, 2) := by decide +kernel
theorem d_Mo_infer_102 : decode b_Mo_infer 102 = .ok (.if_icmp .ne (-84), 3) := by decide +kernel
theorem d_Mo_infer_105 : decode b_Mo_infer 105 = .ok (.aload_n 0, 1) := by decide +kernel
theorem d_Mo_infer_106 : decode b_Mo_infer 106 = .ok (.iconst 0, 1) := by decide +kernel
theorem d_Mo_infer_107 : decode b_Mo_infer 107 = .ok (.putfield 759, 3) := by decide +kernel
theorem d_Mo_infer_110 : decode b_Mo_infer 110 = .ok (.bipush 44, 2) := by decide +kernel
theorem d_Mo_infer_112 : decode b_Mo_infer 112 = .ok (.ireturn, 1) := by decide +kernel
theorem d_Mo_infer_113 : decode b_Mo_infer 113 = .ok (.iconst 0, 1) := by decide +kernel
theorem d_Mo_infer_114 : decode b_Mo_infer 114 = .ok (.ireturn, 1) := by decide +kernel
abbrev ru_Mo_infer : Room := { frames := 7, cells := 0, slots := 0, locals := 193 }
def wj_Mo_infer_97 (y : Ly) (Post : St → Int32 → Prop) (K_18 : St → Int32 → Prop) (a0 : Nat) (s_j97 : St) (z0j97 : Int32) (z1j97 : Int32) : Prop := ((¬ (z0j97 + z1j97) = 100 → K_18 s_j97 (z0j97 + z1j97)) ∧ ((z0j97 + z1j97) = 100 → xP (uV s_j97 a0 74 0) (fun s_9 : St => Post s_9 44)))
def wj_Mo_infer_62 (y : Ly) (Post : St → Int32 → Prop) (K_18 : St → Int32 → Prop) (K_33 : St → Int32 → Int32 → Prop) (a0 : Nat) (s_j62 : St) (x3j62 : Int32) (x4j62 : Int32) (z0j62 : Int32) : Prop := ((z0j62 ≤ 0 → K_33 s_j62 x3j62 (x4j62 + 1)) ∧ (¬ (z0j62 ≤ 0) → xP (uV s_j62 a0 74 x4j62) (fun s_11 : St => Post s_11 z0j62)))
def wb_Mo_infer_33 (y : Ly) (Post : St → Int32 → Prop) (K_18 : St → Int32 → Prop) (K_33 : St → Int32 → Int32 → Prop) (a0 : Nat) (s_h33 : St) (x3h33 : Int32) (x4h33 : Int32) : Prop := (((sV s_h33 a0 101) ≤ x4h33 → (((sV s_h33 a0 103) = 0 → wj_Mo_infer_97 y Post K_18 a0 s_h33 x3h33 0) ∧ (¬ ((sV s_h33 a0 103) = 0) → wj_Mo_infer_97 y Post K_18 a0 s_h33 x3h33 1))) ∧ (¬ ((sV s_h33 a0 101) ≤ x4h33) → xA y s_h33 a0 97 x4h33 (fun x_10 : Int32 => ((x_10 = 0 → wj_Mo_infer_62 y Post K_18 K_33 a0 s_h33 x3h33 x4h33 0) ∧ (¬ (x_10 = 0) → wu_Mo_inferOne y (fun (s_13 : St) (r_12 : Int32) => wj_Mo_infer_62 y Post K_18 K_33 a0 s_13 x3h33 x4h33 r_12) s_h33 a0 x4h33)))))
def wl_Mo_infer_33 (y : Ly) (Post : St → Int32 → Prop) (K_18 : St → Int32 → Prop) (a0 : Nat) (s_h33 : St) (x3h33 : Int32) (x4h33 : Int32) : Prop := ∃ (I : St → Int32 → Int32 → Prop) (μ : St → Int32 → Int32 → Nat), I s_h33 x3h33 x4h33 ∧ ∀ (u : St) (t0 : Int32) (t1 : Int32), I u t0 t1 → wb_Mo_infer_33 y Post K_18 (fun z t0q t1q => I z t0q t1q ∧ μ z t0q t1q < μ u t0 t1) a0 u t0 t1
def wb_Mo_infer_18 (y : Ly) (Post : St → Int32 → Prop) (K_18 : St → Int32 → Prop) (a0 : Nat) (s_h18 : St) (x3h18 : Int32) : Prop := (((sV s_h18 a0 103) = 0 → Post s_h18 0) ∧ (¬ ((sV s_h18 a0 103) = 0) → nb 0 ∧ xP (uV s_h18 a0 103 0) (fun s_8 : St => wl_Mo_infer_33 y Post K_18 a0 s_8 x3h18 0)))
def wl_Mo_infer_18 (y : Ly) (Post : St → Int32 → Prop) (a0 : Nat) (s_h18 : St) (x3h18 : Int32) : Prop := ∃ (I : St → Int32 → Prop) (μ : St → Int32 → Nat), I s_h18 x3h18 ∧ ∀ (u : St) (t0 : Int32), I u t0 → wb_Mo_infer_18 y Post (fun z t0q => I z t0q ∧ μ z t0q < μ u t0) a0 u t0
def wu_Mo_infer (y : Ly) (Post : St → Int32 → Prop) (σ : St) (a0 : Nat) (v1 : Int32) (v2 : Int32) : Prop := wu_Mo_begin y (fun (s_2 : St) => wu_Mo_record y (fun (s_4 : St) => nb 1 ∧ xP (uV s_4 a0 103 1) (fun s_6 : St => wl_Mo_infer_18 y Post a0 s_6 0)) s_2 a0 0) σ a0 v1 v2
set_option maxHeartbeats 4000000 in
set_option maxRecDepth 100000 in
theorem cu_Mo_infer (l : Launch) (D : va_G) (g : Nat → ClassId) (ad : Nat → Nat) (y : Ly) (Post : St → Int32 → Prop) (σ : St) (a0 : Nat) (v1 : Int32) (v2 : Int32) (sz : Nat) (h_a0 : cl a0 = 14) (h : wu_Mo_infer y Post σ a0 v1 v2) : Met l y_Mo_infer (mw y_Mo_infer b_Mo_infer 6 (some .int)) ru_Mo_infer (PC g D [] [.ref (ad a0), .int v1, .int v2] sz (ws g ad y σ)) (va_Qi (fun (r : Int32) (u : St) => Post u r) (QW D (va_A (ws g ad y σ) sz) (fun u => ws g ad y u)) (va_A (ws g ad y σ) sz)) 0 0 (va_A (ws g ad y σ) sz) := by
  refine ofI (by decide +kernel) (Nat.le_of_ble_eq_true rfl) ?_
  intro p e s m args below meth c A Q ls H locs G hsz hP hD hS hl hret
  subst hsz
  have hl : lv_has ls 6 [(0, .ref (ad a0)), (1, .int v1), (2, .int v2)] := hl
  unfold wu_Mo_infer at h
  refine lv_aload_n G.1 G.2.1 d_Mo_infer_0 rfl (lv_at hl 0 rfl) ?_
  refine lv_iload_n G.1 G.2.1 d_Mo_infer_1 rfl (lv_at hl 1 rfl) ?_
  refine lv_iload_n G.1 G.2.1 d_Mo_infer_2 rfl (lv_at hl 2 rfl) ?_
  refine ucVv (As := [.int v1, .int v2]) (rest := []) G hP hD hS (cu_Mo_begin l D g ad y _ σ a0 v1 v2 H.size h_a0 h) w9_Mo_begin q3705 ⟨Nat.le_of_ble_eq_true rfl, Nat.le_of_ble_eq_true rfl⟩ rfl rfl h_a0 (q := (RMo, TMo, 131)) rfl rfl hl.1 rfl (Nat.le_of_ble_eq_true rfl) rfl ⟨Nat.le_refl _, Nat.le_refl _⟩ d_Mo_infer_3 (fun s_2 H locs h hP hD hS => ?_)
  refine lv_aload_n G.1 G.2.1 d_Mo_infer_6 rfl (lv_at hl 0 rfl) ?_
  refine lv_iconst (v := 0) G.1 G.2.1 d_Mo_infer_7 (by decide) ?_
  refine ucVv (As := [.int 0]) (rest := []) G hP hD hS (cu_Mo_record l D g ad y _ s_2 a0 0 H.size h_a0 h) w9_Mo_record q3741 ⟨Nat.le_of_ble_eq_true rfl, Nat.le_of_ble_eq_true rfl⟩ rfl rfl h_a0 (q := (RMo, TMo, 131)) rfl rfl hl.1 rfl (Nat.le_of_ble_eq_true rfl) rfl ⟨Nat.le_refl _, Nat.le_refl _⟩ d_Mo_infer_8 (fun s_4 H locs h hP hD hS => ?_)
  refine lv_aload_n G.1 G.2.1 d_Mo_infer_11 rfl (lv_at hl 0 rfl) ?_
  refine lv_iconst (v := 1) G.1 G.2.1 d_Mo_infer_12 (by decide) ?_
  obtain ⟨n_5, h⟩ := h
  refine upf G hP hD hS h 103 putV h_a0 iMo tMo tMo_ok nMo rfl (by decide) rfl q3167 rfl rfl fV (nb_n n_5) (nb_f n_5) d_Mo_infer_13 (fun s_6 H locs h hP hD hS => ?_)
  refine lv_iconst (v := 0) G.1 G.2.1 d_Mo_infer_16 (by decide) ?_
  refine W.eq (g2 := F0 m 17 ls [.int 0]) rfl ?_
  refine lv_istore_n (lv' := [(3, .int 0), (0, .ref (ad a0)), (1, .int v1), (2, .int v2)]) G.1 G.2.1 d_Mo_infer_17 rfl hl (by decide) rfl (fun ls hl => ?_)
  unfold wl_Mo_infer_18 at h
  obtain ⟨I_18, μ_18, hI_18, hB_18⟩ := h
  have L_18 : ∀ (n_18 : Nat) (s_h18 : St) (x3h18 : Int32), μ_18 s_h18 x3h18 < n_18 → I_18 s_h18 x3h18 → ∀ (H : Heap) (locs : List Loc), va_P D CL (ws g ad y s_h18) H → va_D A (ws g ad y s_h18) → va_S A s.heap H locs → ∀ ls, lv_has ls 6 [(0, .ref (ad a0)), (3, .int x3h18)] → W p l e ru_Mo_infer s m args below meth c H locs 0 0 Q (F0 m 18 ls []) := by
    intro n_18
    induction n_18 with
    | zero => intro s_h18 x3h18 hμ; exact absurd hμ (Nat.not_lt_zero _)
    | succ n_18 ih_18 =>
      intro s_h18 x3h18 hμ_18 hJ H locs hP hD hS ls hl
      obtain ⟨K_18, hK_18, h⟩ : ∃ K : St → Int32 → Prop, (∀ z (t0 : Int32), K z t0 → I_18 z t0 ∧ μ_18 z t0 < μ_18 s_h18 x3h18) ∧ wb_Mo_infer_18 y Post K a0 s_h18 x3h18 := ⟨_, fun _ _ h => h, hB_18 s_h18 x3h18 hJ⟩
      unfold wb_Mo_infer_18 at h
      refine lv_aload_n G.1 G.2.1 d_Mo_infer_18 rfl (lv_at hl 0 rfl) ?_
      refine ugf (v := .int (sV s_h18 a0 103)) G hP h_a0 iMo rfl 103 (by decide) rfl q3167 rfl rfl d_Mo_infer_19 ?_
      refine lv_if_eq (tgt := 113) G.1 G.2.1 d_Mo_infer_22 (by decide) (fun c22 => ?_) (fun c22 => ?_)
      · skip
        have h := h.1 c22
        refine lv_iconst (v := 0) G.1 G.2.1 d_Mo_infer_113 (by decide) ?_
        exact hret _ _ _ _ _ _ _ ls h hP hD hS (Nat.le_refl _) (Nat.le_refl _) d_Mo_infer_114
      · skip
        have h := h.2 c22
        refine lv_aload_n G.1 G.2.1 d_Mo_infer_25 rfl (lv_at hl 0 rfl) ?_
        refine lv_iconst (v := 0) G.1 G.2.1 d_Mo_infer_26 (by decide) ?_
        obtain ⟨n_7, h⟩ := h
        refine upf G hP hD hS h 103 putV h_a0 iMo tMo tMo_ok nMo rfl (by decide) rfl q3167 rfl rfl fV (nb_n n_7) (nb_f n_7) d_Mo_infer_27 (fun s_8 H locs h hP hD hS => ?_)
        refine lv_iconst (v := 0) G.1 G.2.1 d_Mo_infer_30 (by decide) ?_
        refine lv_istore (lv' := [(4, .int 0), (0, .ref (ad a0)), (3, .int x3h18)]) G.1 G.2.1 d_Mo_infer_31 hl (by decide) rfl (fun ls hl => ?_)
        unfold wl_Mo_infer_33 at h
        obtain ⟨I_33, μ_33, hI_33, hB_33⟩ := h
        have L_33 : ∀ (n_33 : Nat) (s_h33 : St) (x3h33 : Int32) (x4h33 : Int32), μ_33 s_h33 x3h33 x4h33 < n_33 → I_33 s_h33 x3h33 x4h33 → ∀ (H : Heap) (locs : List Loc), va_P D CL (ws g ad y s_h33) H → va_D A (ws g ad y s_h33) → va_S A s.heap H locs → ∀ ls, lv_has ls 6 [(0, .ref (ad a0)), (3, .int x3h33), (4, .int x4h33)] → W p l e ru_Mo_infer s m args below meth c H locs 0 0 Q (F0 m 33 ls []) := by
          intro n_33
          induction n_33 with
          | zero => intro s_h33 x3h33 x4h33 hμ; exact absurd hμ (Nat.not_lt_zero _)
          | succ n_33 ih_33 =>
            intro s_h33 x3h33 x4h33 hμ_33 hJ H locs hP hD hS ls hl
            obtain ⟨K_33, hK_33, h⟩ : ∃ K : St → Int32 → Int32 → Prop, (∀ z (t0 : Int32) (t1 : Int32), K z t0 t1 → I_33 z t0 t1 ∧ μ_33 z t0 t1 < μ_33 s_h33 x3h33 x4h33) ∧ wb_Mo_infer_33 y Post K_18 K a0 s_h33 x3h33 x4h33 := ⟨_, fun _ _ _ h => h, hB_33 s_h33 x3h33 x4h33 hJ⟩
            unfold wb_Mo_infer_33 at h
            refine lv_iload G.1 G.2.1 d_Mo_infer_33 (lv_at hl 2 rfl) ?_
            refine lv_aload_n G.1 G.2.1 d_Mo_infer_35 rfl (lv_at hl 0 rfl) ?_
            refine ugf (v := .int (sV s_h33 a0 101)) G hP h_a0 iMo rfl 101 (by decide) rfl q3165 rfl rfl d_Mo_infer_36 ?_
            refine lv_icmp_ge (tgt := 84) G.1 G.2.1 d_Mo_infer_39 (by decide) (fun c39 => ?_) (fun c39 => ?_)
            · skip
              have h := h.1 c39
              refine lv_iload_n G.1 G.2.1 d_Mo_infer_84 rfl (lv_at hl 1 rfl) ?_
              refine lv_aload_n G.1 G.2.1 d_Mo_infer_85 rfl (lv_at hl 0 rfl) ?_
              refine ugf (v := .int (sV s_h33 a0 103)) G hP h_a0 iMo rfl 103 (by decide) rfl q3167 rfl rfl d_Mo_infer_86 ?_
              have J_97 : ∀ (s_j97 : St) (z0j97 : Int32) (z1j97 : Int32) (H : Heap) (locs : List Loc), wj_Mo_infer_97 y Post K_18 a0 s_j97 z0j97 z1j97 → va_P D CL (ws g ad y s_j97) H → va_D A (ws g ad y s_j97) → va_S A s.heap H locs → ∀ ls, lv_has ls 6 [(0, .ref (ad a0))] → W p l e ru_Mo_infer s m args below meth c H locs 0 0 Q (F0 m 97 ls [.int z1j97, .int z0j97]) := by
                intro s_j97 z0j97 z1j97 H locs h hP hD hS ls hl
                unfold wj_Mo_infer_97 at h
                refine lv_iadd G.1 G.2.1 d_Mo_infer_97 ?_
                refine lv_istore_n (lv' := [(3, .int (z0j97 + z1j97)), (0, .ref (ad a0))]) G.1 G.2.1 d_Mo_infer_98 rfl hl (by decide) rfl (fun ls hl => ?_)
                refine lv_iload_n G.1 G.2.1 d_Mo_infer_99 rfl (lv_at hl 0 rfl) ?_
                refine lv_bipush (v := 100) G.1 G.2.1 d_Mo_infer_100 (by decide) ?_
                refine lv_icmp_ne (tgt := 18) G.1 G.2.1 d_Mo_infer_102 (by decide) (fun c102 => ?_) (fun c102 => ?_)
                · skip
                  have h := h.1 c102
                  have h := hK_18 s_j97 (z0j97 + z1j97) h
                  exact ih_18 s_j97 (z0j97 + z1j97) (Nat.lt_of_lt_of_le h.2 (Nat.le_of_lt_succ hμ_18)) h.1 H locs hP hD hS ls (lv_sub hl [1, 0] rfl)
                · skip
                  have h := h.2 c102
                  refine lv_aload_n G.1 G.2.1 d_Mo_infer_105 rfl (lv_at hl 1 rfl) ?_
                  refine lv_iconst (v := 0) G.1 G.2.1 d_Mo_infer_106 (by decide) ?_
                  refine upf G hP hD hS h 74 putV h_a0 iMo tMo tMo_ok nMo rfl (by decide) rfl q3138 rfl rfl fV rfl rfl d_Mo_infer_107 (fun s_9 H locs h hP hD hS => ?_)
                  refine lv_bipush (v := 44) G.1 G.2.1 d_Mo_infer_110 (by decide) ?_
                  exact hret _ _ _ _ _ _ _ ls h hP hD hS (Nat.le_refl _) (Nat.le_refl _) d_Mo_infer_112
              refine lv_if_eq (tgt := 96) G.1 G.2.1 d_Mo_infer_89 (by decide) (fun c89 => ?_) (fun c89 => ?_)
              · skip
                have h := h.1 c89
                refine lv_iconst (v := 0) G.1 G.2.1 d_Mo_infer_96 (by decide) ?_
                exact J_97 s_h33 x3h33 0 H locs h hP hD hS ls (lv_sub hl [0] rfl)
              · skip
                have h := h.2 c89
                refine lv_iconst (v := 1) G.1 G.2.1 d_Mo_infer_92 (by decide) ?_
                refine lv_goto (tgt := 97) G.1 G.2.1 d_Mo_infer_93 (by decide) ?_
                exact J_97 s_h33 x3h33 1 H locs h hP hD hS ls (lv_sub hl [0] rfl)
            · skip
              have h := h.2 c39
              refine lv_aload_n G.1 G.2.1 d_Mo_infer_42 rfl (lv_at hl 0 rfl) ?_
              refine ugf (v := .ref (yP y a0 97)) G hP h_a0 iMo rfl 97 (by decide) rfl q3161 rfl rfl d_Mo_infer_43 ?_
              refine lv_iload G.1 G.2.1 d_Mo_infer_46 (lv_at hl 2 rfl) ?_
              refine uzald G hP (kdp h_a0 rfl) (typ h_a0 rfl) h d_Mo_infer_48 (fun x_10 h => ?_)
              have J_62 : ∀ (s_j62 : St) (x3j62 : Int32) (x4j62 : Int32) (z0j62 : Int32) (H : Heap) (locs : List Loc), wj_Mo_infer_62 y Post K_18 K_33 a0 s_j62 x3j62 x4j62 z0j62 → va_P D CL (ws g ad y s_j62) H → va_D A (ws g ad y s_j62) → va_S A s.heap H locs → ∀ ls, lv_has ls 6 [(0, .ref (ad a0)), (3, .int x3j62), (4, .int x4j62)] → W p l e ru_Mo_infer s m args below meth c H locs 0 0 Q (F0 m 62 ls [.int z0j62]) := by
                intro s_j62 x3j62 x4j62 z0j62 H locs h hP hD hS ls hl
                unfold wj_Mo_infer_62 at h
                refine lv_istore (lv' := [(5, .int z0j62), (0, .ref (ad a0)), (3, .int x3j62), (4, .int x4j62)]) G.1 G.2.1 d_Mo_infer_62 hl (by decide) rfl (fun ls hl => ?_)
                refine lv_iload G.1 G.2.1 d_Mo_infer_64 (lv_at hl 0 rfl) ?_
                refine lv_if_le (tgt := 78) G.1 G.2.1 d_Mo_infer_66 (by decide) (fun c66 => ?_) (fun c66 => ?_)
                · skip
                  have h := h.1 c66
                  refine lv_iinc (v := x4j62 + 1) (lv' := [(4, .int (x4j62 + 1)), (5, .int z0j62), (0, .ref (ad a0)), (3, .int x3j62)]) G.1 G.2.1 d_Mo_infer_78 hl (k := 3) rfl rfl (by decide) rfl (fun ls hl => ?_)
                  refine lv_goto (tgt := 33) G.1 G.2.1 d_Mo_infer_81 (by decide) ?_
                  have h := hK_33 s_j62 x3j62 (x4j62 + 1) h
                  exact ih_33 s_j62 x3j62 (x4j62 + 1) (Nat.lt_of_lt_of_le h.2 (Nat.le_of_lt_succ hμ_33)) h.1 H locs hP hD hS ls (lv_sub hl [2, 3, 0] rfl)
                · skip
                  have h := h.2 c66
                  refine lv_aload_n G.1 G.2.1 d_Mo_infer_69 rfl (lv_at hl 1 rfl) ?_
                  refine lv_iload G.1 G.2.1 d_Mo_infer_70 (lv_at hl 3 rfl) ?_
                  refine upf G hP hD hS h 74 putV h_a0 iMo tMo tMo_ok nMo rfl (by decide) rfl q3138 rfl rfl fV rfl rfl d_Mo_infer_72 (fun s_11 H locs h hP hD hS => ?_)
                  refine lv_iload G.1 G.2.1 d_Mo_infer_75 (lv_at hl 0 rfl) ?_
                  exact hret _ _ _ _ _ _ _ ls h hP hD hS (Nat.le_refl _) (Nat.le_refl _) d_Mo_infer_77
              refine lv_if_eq (tgt := 61) G.1 G.2.1 d_Mo_infer_49 (by decide) (fun c49 => ?_) (fun c49 => ?_)
              · skip
                have h := h.1 c49
                refine lv_iconst (v := 0) G.1 G.2.1 d_Mo_infer_61 (by decide) ?_
                exact J_62 s_h33 x3h33 x4h33 0 H locs h hP hD hS ls (lv_sub hl [0, 1, 2] rfl)
              · skip
                have h := h.2 c49
                refine lv_aload_n G.1 G.2.1 d_Mo_infer_52 rfl (lv_at hl 0 rfl) ?_
                refine lv_iload G.1 G.2.1 d_Mo_infer_53 (lv_at hl 2 rfl) ?_
                refine W.eq (g2 := F0 m 55 ls [.int x4h33, .ref (ad a0)]) rfl ?_
                refine ucVi (As := [.int x4h33]) (rest := []) G hP hD hS (cu_Mo_inferOne l D g ad y _ s_h33 a0 x4h33 H.size h_a0 h) w9_Mo_inferOne q4125 ⟨Nat.le_of_ble_eq_true rfl, Nat.le_of_ble_eq_true rfl⟩ rfl rfl h_a0 (q := (RMo, TMo, 131)) rfl rfl hl.1 rfl (Nat.le_of_ble_eq_true rfl) rfl ⟨Nat.le_refl _, Nat.le_refl _⟩ d_Mo_infer_55 (fun r_12 s_13 H locs h hP hD hS => ?_)
                refine lv_goto (tgt := 62) G.1 G.2.1 d_Mo_infer_58 (by decide) ?_
                exact J_62 s_13 x3h33 x4h33 r_12 H locs h hP hD hS ls (lv_sub hl [0, 1, 2] rfl)
        exact L_33 _ s_8 x3h18 0 (Nat.lt_succ_self _) hI_33 H locs hP hD hS ls (lv_sub hl [1, 2, 0] rfl)
  exact L_18 _ s_6 0 (Nat.lt_succ_self _) hI_18 H locs hP hD hS ls (lv_sub hl [1, 0] rfl)
def y_Mo_toldKind : MethodName := ⟨"ClassWorksModel", "toldKind", "(I)I"⟩
abbrev b_Mo_toldKind : ByteArray := prog_14_method_171_code
theorem d_Mo_toldKind_0 : decode b_Mo_toldKind 0 = .ok (.iload_n 1, 1) := by decide +kernel
theorem d_Mo_toldKind_1 : decode b_Mo_toldKind 1 = .ok (.bipush 16, 2) := by decide +kernel
theorem d_Mo_toldKind_3 : decode b_Mo_toldKind 3 = .ok (.if_icmp .lt 26, 3) := by decide +kernel
theorem d_Mo_toldKind_6 : decode b_Mo_toldKind 6 = .ok (.aload_n 0, 1) := by decide +kernel
theorem d_Mo_toldKind_7 : decode b_Mo_toldKind 7 = .ok (.iload_n 1, 1) := by decide +kernel
theorem d_Mo_toldKind_8 : decode b_Mo_toldKind 8 = .ok (.bipush 16, 2) := by decide +kernel
theorem d_Mo_toldKind_10 : decode b_Mo_toldKind 10 = .ok (.isub, 1) := by decide +kernel
theorem d_Mo_toldKind_11 : decode b_Mo_toldKind 11 = .ok (.invokevirtual 601, 3) := by decide +kernel
theorem d_Mo_toldKind_14 : decode b_Mo_toldKind 14 = .ok (.istore_n 2, 1) := by decide +kernel
theorem d_Mo_toldKind_15 : decode b_Mo_toldKind 15 = .ok (.iload_n 2, 1) := by decide +kernel
theorem d_Mo_toldKind_16 : decode b_Mo_toldKind 16 = .ok (.ifCond .ge 8, 3) := by decide +kernel
theorem d_Mo_toldKind_19 : decode b_Mo_toldKind 19 = .ok (.bipush 99, 2) := by decide +kernel
theorem d_Mo_toldKind_21 : decode b_Mo_toldKind 21 = .ok (.goto 7, 3) := by decide +kernel
theorem d_Mo_toldKind_24 : decode b_Mo_toldKind 24 = .ok (.bipush 100, 2) := by decide +kernel
theorem d_Mo_toldKind_26 : decode b_Mo_toldKind 26 = .ok (.iload_n 2, 1) := by decide +kernel
theorem d_Mo_toldKind_27 : decode b_Mo_toldKind 27 = .ok (.iadd, 1) := by decide +kernel
theorem d_Mo_toldKind_28 : decode b_Mo_toldKind 28 = .ok (.ireturn, 1) := by decide +kernel
theorem d_Mo_toldKind_29 : decode b_Mo_toldKind 29 = .ok (.iload_n 1, 1) := by decide +kernel
theorem d_Mo_toldKind_30 : decode b_Mo_toldKind 30 = .ok (.ifCond .ge 7, 3) := by decide +kernel
theorem d_Mo_toldKind_33 : decode b_Mo_toldKind 33 = .ok (.iconst 5, 1) := by decide +kernel
theorem d_Mo_toldKind_34 : decode b_Mo_toldKind 34 = .ok (.goto 6, 3) := by decide +kernel
theorem d_Mo_toldKind_37 : decode b_Mo_toldKind 37 = .ok (.iload_n 1, 1) := by decide +kernel
theorem d_Mo_toldKind_38 : decode b_Mo_toldKind 38 = .ok (.iconst 1, 1) := by decide +kernel
theorem d_Mo_toldKind_39 : decode b_Mo_toldKind 39 = .ok (.isub, 1) := by decide +kernel
theorem d_Mo_toldKind_40 : decode b_Mo_toldKind 40 = .ok (.ireturn, 1) := by decide +kernel
abbrev ru_Mo_toldKind : Room := { frames := 1, cells := 0, slots := 0, locals := 22 }
def wj_Mo_toldKind_40 (y : Ly) (Post : St → Int32 → Prop) (a0 : Nat) (s_j40 : St) (z0j40 : Int32) : Prop := Post s_j40 z0j40
def wj_Mo_toldKind_28 (y : Ly) (Post : St → Int32 → Prop) (a0 : Nat) (s_j28 : St) (z0j28 : Int32) : Prop := Post s_j28 z0j28
def wu_Mo_toldKind (y : Ly) (Post : St → Int32 → Prop) (σ : St) (a0 : Nat) (v1 : Int32) : Prop := ((v1 < 16 → ((0 ≤ v1 → wj_Mo_toldKind_40 y Post a0 σ (v1 - 1)) ∧ (¬ (0 ≤ v1) → wj_Mo_toldKind_40 y Post a0 σ 5))) ∧ (¬ (v1 < 16) → wu_Mo_classOf y (fun (s_2 : St) (r_1 : Int32) => ((0 ≤ r_1 → wj_Mo_toldKind_28 y Post a0 s_2 (100 + r_1)) ∧ (¬ (0 ≤ r_1) → wj_Mo_toldKind_28 y Post a0 s_2 99))) σ a0 (v1 - 16)))
set_option maxHeartbeats 4000000 in
set_option maxRecDepth 100000 in
theorem cu_Mo_toldKind (l : Launch) (D : va_G) (g : Nat → ClassId) (ad : Nat → Nat) (y : Ly) (Post : St → Int32 → Prop) (σ : St) (a0 : Nat) (v1 : Int32) (sz : Nat) (h_a0 : cl a0 = 14) (h : wu_Mo_toldKind y Post σ a0 v1) : Met l y_Mo_toldKind (mw y_Mo_toldKind b_Mo_toldKind 3 (some .int)) ru_Mo_toldKind (PC g D [] [.ref (ad a0), .int v1] sz (ws g ad y σ)) (va_Qi (fun (r : Int32) (u : St) => Post u r) (QW D (va_A (ws g ad y σ) sz) (fun u => ws g ad y u)) (va_A (ws g ad y σ) sz)) 0 0 (va_A (ws g ad y σ) sz) := by
  refine ofI (by decide +kernel) (Nat.le_of_ble_eq_true rfl) ?_
  intro p e s m args below meth c A Q ls H locs G hsz hP hD hS hl hret
  subst hsz
  have hl : lv_has ls 3 [(0, .ref (ad a0)), (1, .int v1)] := hl
  unfold wu_Mo_toldKind at h
  refine lv_iload_n G.1 G.2.1 d_Mo_toldKind_0 rfl (lv_at hl 1 rfl) ?_
  refine lv_bipush (v := 16) G.1 G.2.1 d_Mo_toldKind_1 (by decide) ?_
  refine lv_icmp_lt (tgt := 29) G.1 G.2.1 d_Mo_toldKind_3 (by decide) (fun c3 => ?_) (fun c3 => ?_)
  · skip
    have h := h.1 c3
    refine lv_iload_n G.1 G.2.1 d_Mo_toldKind_29 rfl (lv_at hl 1 rfl) ?_
    have J_40 : ∀ (s_j40 : St) (z0j40 : Int32) (H : Heap) (locs : List Loc), wj_Mo_toldKind_40 y Post a0 s_j40 z0j40 → va_P D CL (ws g ad y s_j40) H → va_D A (ws g ad y s_j40) → va_S A s.heap H locs → ∀ ls, lv_has ls 3 [] → W p l e ru_Mo_toldKind s m args below meth c H locs 0 0 Q (F0 m 40 ls [.int z0j40]) := by
      intro s_j40 z0j40 H locs h hP hD hS ls hl
      unfold wj_Mo_toldKind_40 at h
      exact hret _ _ _ _ _ _ _ ls h hP hD hS (Nat.le_refl _) (Nat.le_refl _) d_Mo_toldKind_40
    refine lv_if_ge (tgt := 37) G.1 G.2.1 d_Mo_toldKind_30 (by decide) (fun c30 => ?_) (fun c30 => ?_)
    · skip
      have h := h.1 c30
      refine lv_iload_n G.1 G.2.1 d_Mo_toldKind_37 rfl (lv_at hl 1 rfl) ?_
      refine lv_iconst (v := 1) G.1 G.2.1 d_Mo_toldKind_38 (by decide) ?_
      refine lv_isub G.1 G.2.1 d_Mo_toldKind_39 ?_
      exact J_40 σ (v1 - 1) H locs h hP hD hS ls (lv_sub hl [] rfl)
    · skip
      have h := h.2 c30
      refine lv_iconst (v := 5) G.1 G.2.1 d_Mo_toldKind_33 (by decide) ?_
      refine lv_goto (tgt := 40) G.1 G.2.1 d_Mo_toldKind_34 (by decide) ?_
      exact J_40 σ 5 H locs h hP hD hS ls (lv_sub hl [] rfl)
  · skip
    have h := h.2 c3
    refine lv_aload_n G.1 G.2.1 d_Mo_toldKind_6 rfl (lv_at hl 0 rfl) ?_
    refine lv_iload_n G.1 G.2.1 d_Mo_toldKind_7 rfl (lv_at hl 1 rfl) ?_
    refine lv_bipush (v := 16) G.1 G.2.1 d_Mo_toldKind_8 (by decide) ?_
    refine lv_isub G.1 G.2.1 d_Mo_toldKind_10 ?_
    refine ucVi (As := [.int (v1 - 16)]) (rest := []) G hP hD hS (cu_Mo_classOf l D g ad y _ σ a0 (v1 - 16) H.size h_a0 h) w9_Mo_classOf q3571 ⟨Nat.le_of_ble_eq_true rfl, Nat.le_of_ble_eq_true rfl⟩ rfl rfl h_a0 (q := (RMo, TMo, 131)) rfl rfl hl.1 rfl (Nat.le_of_ble_eq_true rfl) rfl ⟨Nat.le_refl _, Nat.le_refl _⟩ d_Mo_toldKind_11 (fun r_1 s_2 H locs h hP hD hS => ?_)
    refine lv_istore_n (lv' := [(2, .int r_1), (0, .ref (ad a0)), (1, .int v1)]) G.1 G.2.1 d_Mo_toldKind_14 rfl hl (by decide) rfl (fun ls hl => ?_)
    refine lv_iload_n G.1 G.2.1 d_Mo_toldKind_15 rfl (lv_at hl 0 rfl) ?_
    have J_28 : ∀ (s_j28 : St) (z0j28 : Int32) (H : Heap) (locs : List Loc), wj_Mo_toldKind_28 y Post a0 s_j28 z0j28 → va_P D CL (ws g ad y s_j28) H → va_D A (ws g ad y s_j28) → va_S A s.heap H locs → ∀ ls, lv_has ls 3 [] → W p l e ru_Mo_toldKind s m args below meth c H locs 0 0 Q (F0 m 28 ls [.int z0j28]) := by
      intro s_j28 z0j28 H locs h hP hD hS ls hl
      unfold wj_Mo_toldKind_28 at h
      exact hret _ _ _ _ _ _ _ ls h hP hD hS (Nat.le_refl _) (Nat.le_refl _) d_Mo_toldKind_28
    refine lv_if_ge (tgt := 24) G.1 G.2.1 d_Mo_toldKind_16 (by decide) (fun c16 => ?_) (fun c16 => ?_)
    · skip
      have h := h.1 c16
      refine W.eq (g2 := F0 m 24 ls []) rfl ?_
      refine lv_bipush (v := 100) G.1 G.2.1 d_Mo_toldKind_24 (by decide) ?_
      refine lv_iload_n G.1 G.2.1 d_Mo_toldKind_26 rfl (lv_at hl 0 rfl) ?_
      refine lv_iadd G.1 G.2.1 d_Mo_toldKind_27 ?_
      exact J_28 s_2 (100 + r_1) H locs h hP hD hS ls (lv_sub hl [] rfl)
    · skip
      have h := h.2 c16
      refine W.eq (g2 := F0 m 19 ls []) rfl ?_
      refine lv_bipush (v := 99) G.1 G.2.1 d_Mo_toldKind_19 (by decide) ?_
      refine lv_goto (tgt := 28) G.1 G.2.1 d_Mo_toldKind_21 (by decide) ?_
      exact J_28 s_2 99 H locs h hP hD hS ls (lv_sub hl [] rfl)
theorem q4145 : Cond.methodLink "ClassWorksModel" 1263 y_Mo_toldKind ∈ lw_ok := lw_okmem (List.mem_of_getElem? (i := 4145) (by decide +kernel)) rfl
theorem q4148 : Cond.code y_Mo_toldKind b_Mo_toldKind 3 (some .int) ∈ lw_ok := lw_okmem (List.mem_of_getElem? (i := 4148) (by decide +kernel)) rfl
theorem q4147 : Cond.instanceMethod y_Mo_toldKind ∈ lw_ok := lw_okmem (List.mem_of_getElem? (i := 4147) (by decide +kernel)) rfl
theorem q312 : Cond.selects y_Mo_toldKind.cls y_Mo_toldKind y_Mo_toldKind ∈ lw_ok := lw_okmem (List.mem_of_getElem? (i := 312) (by decide +kernel)) rfl
theorem w9_Mo_toldKind : CWv y_Mo_toldKind b_Mo_toldKind 3 (some .int) 1 ∧ Cond.instanceMethod y_Mo_toldKind ∈ lw_ok ∧ Cond.selects y_Mo_toldKind.cls y_Mo_toldKind y_Mo_toldKind ∈ lw_ok := ⟨⟨q4148, q348, by decide +kernel, by decide +kernel, by decide +kernel⟩, q4147, q312⟩
theorem q3701 : Cond.methodLink "ClassWorksModel" 756 y_Mo_check ∈ lw_ok := lw_okmem (List.mem_of_getElem? (i := 3701) (by decide +kernel)) rfl
theorem q3704 : Cond.code y_Mo_check b_Mo_check 5 (some .int) ∈ lw_ok := lw_okmem (List.mem_of_getElem? (i := 3704) (by decide +kernel)) rfl
theorem q3703 : Cond.instanceMethod y_Mo_check ∈ lw_ok := lw_okmem (List.mem_of_getElem? (i := 3703) (by decide +kernel)) rfl
theorem q222 : Cond.selects y_Mo_check.cls y_Mo_check y_Mo_check ∈ lw_ok := lw_okmem (List.mem_of_getElem? (i := 222) (by decide +kernel)) rfl
theorem w9_Mo_check : CWv y_Mo_check b_Mo_check 5 (some .int) 2 ∧ Cond.instanceMethod y_Mo_check ∈ lw_ok ∧ Cond.selects y_Mo_check.cls y_Mo_check y_Mo_check ∈ lw_ok := ⟨⟨q3704, q348, by decide +kernel, by decide +kernel, by decide +kernel⟩, q3703, q222⟩
theorem q4121 : Cond.methodLink "ClassWorksModel" 1260 y_Mo_infer ∈ lw_ok := lw_okmem (List.mem_of_getElem? (i := 4121) (by decide +kernel)) rfl
theorem q4124 : Cond.code y_Mo_infer b_Mo_infer 6 (some .int) ∈ lw_ok := lw_okmem (List.mem_of_getElem? (i := 4124) (by decide +kernel)) rfl
theorem q4123 : Cond.instanceMethod y_Mo_infer ∈ lw_ok := lw_okmem (List.mem_of_getElem? (i := 4123) (by decide +kernel)) rfl
theorem q306 : Cond.selects y_Mo_infer.cls y_Mo_infer y_Mo_infer ∈ lw_ok := lw_okmem (List.mem_of_getElem? (i := 306) (by decide +kernel)) rfl
theorem w9_Mo_infer : CWv y_Mo_infer b_Mo_infer 6 (some .int) 2 ∧ Cond.instanceMethod y_Mo_infer ∈ lw_ok ∧ Cond.selects y_Mo_infer.cls y_Mo_infer y_Mo_infer ∈ lw_ok := ⟨⟨q4124, q348, by decide +kernel, by decide +kernel, by decide +kernel⟩, q4123, q306⟩
def y_Mo_kinds : MethodName := ⟨"ClassWorksModel", "kinds", "(IIIZ)I"⟩
abbrev b_Mo_kinds : ByteArray := prog_14_method_170_code
theorem d_Mo_kinds_0 : decode b_Mo_kinds 0 = .ok (.aload_n 0, 1) := by decide +kernel
theorem d_Mo_kinds_1 : decode b_Mo_kinds 1 = .ok (.iload_n 1, 1) := by decide +kernel
theorem d_Mo_kinds_2 : decode b_Mo_kinds 2 = .ok (.iload_n 2, 1) := by decide +kernel
theorem d_Mo_kinds_3 : decode b_Mo_kinds 3 = .ok (.invokevirtual 1129, 3) := by decide +kernel
theorem d_Mo_kinds_6 : decode b_Mo_kinds 6 = .ok (.ifCond .eq 41, 3) := by decide +kernel
theorem d_Mo_kinds_9 : decode b_Mo_kinds 9 = .ok (.iload_n 3, 1) := by decide +kernel
theorem d_Mo_kinds_10 : decode b_Mo_kinds 10 = .ok (.ifCond .lt 37, 3) := by decide +kernel
theorem d_Mo_kinds_13 : decode b_Mo_kinds 13 = .ok (.iload_n 3, 1) := by decide +kernel
theorem d_Mo_kinds_14 : decode b_Mo_kinds 14 = .ok (.aload_n 0, 1) := by decide +kernel
theorem d_Mo_kinds_15 : decode b_Mo_kinds 15 = .ok (.getfield 263, 3) := by decide +kernel
theorem d_Mo_kinds_18 : decode b_Mo_kinds 18 = .ok (.iload_n 1, 1) := by decide +kernel
theorem d_Mo_kinds_19 : decode b_Mo_kinds 19 = .ok (.aaload, 1) := by decide +kernel
theorem d_Mo_kinds_20 : decode b_Mo_kinds 20 = .ok (.getfield 438, 3) := by decide +kernel
theorem d_Mo_kinds_23 : decode b_Mo_kinds 23 = .ok (.iload_n 2, 1) := by decide +kernel
theorem d_Mo_kinds_24 : decode b_Mo_kinds 24 = .ok (.iaload, 1) := by decide +kernel
theorem d_Mo_kinds_25 : decode b_Mo_kinds 25 = .ok (.if_icmp .ge 22, 3) := by decide +kernel
theorem d_Mo_kinds_28 : decode b_Mo_kinds 28 = .ok (.aload_n 0, 1) := by decide +kernel
theorem d_Mo_kinds_29 : decode b_Mo_kinds 29 = .ok (.getfield 263, 3) := by decide +kernel
theorem d_Mo_kinds_32 : decode b_Mo_kinds 32 = .ok (.iload_n 1, 1) := by decide +kernel
theorem d_Mo_kinds_33 : decode b_Mo_kinds 33 = .ok (.aaload, 1) := by decide +kernel
theorem d_Mo_kinds_34 : decode b_Mo_kinds 34 = .ok (.getfield 465, 3) := by decide +kernel
theorem d_Mo_kinds_37 : decode b_Mo_kinds 37 = .ok (.bipush 12, 2) := by decide +kernel
theorem d_Mo_kinds_39 : decode b_Mo_kinds 39 = .ok (.iload_n 2, 1) := by decide +kernel
theorem d_Mo_kinds_40 : decode b_Mo_kinds 40 = .ok (.imul, 1) := by decide +kernel
theorem d_Mo_kinds_41 : decode b_Mo_kinds 41 = .ok (.iload_n 3, 1) := by decide +kernel
theorem d_Mo_kinds_42 : decode b_Mo_kinds 42 = .ok (.iadd, 1) := by decide +kernel
theorem d_Mo_kinds_43 : decode b_Mo_kinds 43 = .ok (.iaload, 1) := by decide +kernel
theorem d_Mo_kinds_44 : decode b_Mo_kinds 44 = .ok (.ifCond .ne 5, 3) := by decide +kernel
theorem d_Mo_kinds_47 : decode b_Mo_kinds 47 = .ok (.iconst (-1), 1) := by decide +kernel
theorem d_Mo_kinds_48 : decode b_Mo_kinds 48 = .ok (.ireturn, 1) := by decide +kernel
theorem d_Mo_kinds_49 : decode b_Mo_kinds 49 = .ok (.aload_n 0, 1) := by decide +kernel
theorem d_Mo_kinds_50 : decode b_Mo_kinds 50 = .ok (.aload_n 0, 1) := by decide +kernel
theorem d_Mo_kinds_51 : decode b_Mo_kinds 51 = .ok (.getfield 263, 3) := by decide +kernel
theorem d_Mo_kinds_54 : decode b_Mo_kinds 54 = .ok (.iload_n 1, 1) := by decide +kernel
theorem d_Mo_kinds_55 : decode b_Mo_kinds 55 = .ok (.aaload, 1) := by decide +kernel
theorem d_Mo_kinds_56 : decode b_Mo_kinds 56 = .ok (.putfield 522, 3) := by decide +kernel
theorem d_Mo_kinds_59 : decode b_Mo_kinds 59 = .ok (.bipush 12, 2) := by decide +kernel
theorem d_Mo_kinds_61 : decode b_Mo_kinds 61 = .ok (.iload_n 2, 1) := by decide +kernel
theorem d_Mo_kinds_62 : decode b_Mo_kinds 62 = .ok (.imul, 1) := by decide +kernel
theorem d_Mo_kinds_63 : decode b_Mo_kinds 63 = .ok (.iload_n 3, 1) := by decide +kernel
theorem d_Mo_kinds_64 : decode b_Mo_kinds 64 = .ok (.iadd, 1) := by decide +kernel
theorem d_Mo_kinds_65 : decode b_Mo_kinds 65 = .ok (.istore 5, 2) := by decide +kernel
theorem d_Mo_kinds_67 : decode b_Mo_kinds 67 = .ok (.aload_n 0, 1) := by decide +kernel
theorem d_Mo_kinds_68 : decode b_Mo_kinds 68 = .ok (.aload_n 0, 1) := by decide +kernel
theorem d_Mo_kinds_69 : decode b_Mo_kinds 69 = .ok (.getfield 522, 3) := by decide +kernel
theorem d_Mo_kinds_72 : decode b_Mo_kinds 72 = .ok (.getfield 465, 3) := by decide +kernel
theorem d_Mo_kinds_75 : decode b_Mo_kinds 75 = .ok (.iload 5, 2) := by decide +kernel
theorem d_Mo_kinds_77 : decode b_Mo_kinds 77 = .ok (.iaload, 1) := by decide +kernel
theorem d_Mo_kinds_78 : decode b_Mo_kinds 78 = .ok (.putfield 1257, 3) := by decide +kernel
theorem d_Mo_kinds_81 : decode b_Mo_kinds 81 = .ok (.aload_n 0, 1) := by decide +kernel
theorem d_Mo_kinds_82 : decode b_Mo_kinds 82 = .ok (.aload_n 0, 1) := by decide +kernel
theorem d_Mo_kinds_83 : decode b_Mo_kinds 83 = .ok (.getfield 522, 3) := by decide +kernel
theorem d_Mo_kinds_86 : decode b_Mo_kinds 86 = .ok (.getfield 459, 3) := by decide +kernel
theorem d_Mo_kinds_89 : decode b_Mo_kinds 89 = .ok (.iload 5, 2) := by decide +kernel
theorem d_Mo_kinds_91 : decode b_Mo_kinds 91 = .ok (.iaload, 1) := by decide +kernel
theorem d_Mo_kinds_92 : decode b_Mo_kinds 92 = .ok (.putfield 1254, 3) := by decide +kernel
theorem d_Mo_kinds_95 : decode b_Mo_kinds 95 = .ok (.iconst 0, 1) := by decide +kernel
theorem d_Mo_kinds_96 : decode b_Mo_kinds 96 = .ok (.istore 6, 2) := by decide +kernel
theorem d_Mo_kinds_98 : decode b_Mo_kinds 98 = .ok (.iload 6, 2) := by decide +kernel
theorem d_Mo_kinds_100 : decode b_Mo_kinds 100 = .ok (.aload_n 0, 1) := by decide +kernel
theorem d_Mo_kinds_101 : decode b_Mo_kinds 101 = .ok (.getfield 1257, 3) := by decide +kernel
theorem d_Mo_kinds_104 : decode b_Mo_kinds 104 = .ok (.if_icmp .ge 17, 3) := by decide +kernel
theorem d_Mo_kinds_107 : decode b_Mo_kinds 107 = .ok (.aload_n 0, 1) := by decide +kernel
theorem d_Mo_kinds_108 : decode b_Mo_kinds 108 = .ok (.getfield 329, 3) := by decide +kernel
theorem d_Mo_kinds_111 : decode b_Mo_kinds 111 = .ok (.iload 6, 2) := by decide +kernel
theorem d_Mo_kinds_113 : decode b_Mo_kinds 113 = .ok (.iconst 0, 1) := by decide +kernel
theorem d_Mo_kinds_114 : decode b_Mo_kinds 114 = .ok (.bastore, 1) := by decide +kernel
theorem d_Mo_kinds_115 : decode b_Mo_kinds 115 = .ok (.iinc 6 1, 3) := by decide +kernel
theorem d_Mo_kinds_118 : decode b_Mo_kinds 118 = .ok (.goto (-20), 3) := by decide +kernel
theorem d_Mo_kinds_121 : decode b_Mo_kinds 121 = .ok (.iload 4, 2) := by decide +kernel
theorem d_Mo_kinds_123 : decode b_Mo_kinds 123 = .ok (.ifCond .eq 15, 3) := by decide +kernel
theorem d_Mo_kinds_126 : decode b_Mo_kinds 126 = .ok (.aload_n 0, 1) := by decide +kernel
theorem d_Mo_kinds_127 : decode b_Mo_kinds 127 = .ok (.iload_n 2, 1) := by decide +kernel
theorem d_Mo_kinds_128 : decode b_Mo_kinds 128 = .ok (.iload 5, 2) := by decide +kernel
theorem d_Mo_kinds_130 : decode b_Mo_kinds 130 = .ok (.invokevirtual 1260, 3) := by decide +kernel
theorem d_Mo_kinds_133 : decode b_Mo_kinds 133 = .ok (.istore 6, 2) := by decide +kernel
theorem d_Mo_kinds_135 : decode b_Mo_kinds 135 = .ok (.goto 22, 3) := by decide +kernel
theorem d_Mo_kinds_138 : decode b_Mo_kinds 138 = .ok (.aload_n 0, 1) := by decide +kernel
theorem d_Mo_kinds_139 : decode b_Mo_kinds 139 = .ok (.iconst 1, 1) := by decide +kernel
theorem d_Mo_kinds_140 : decode b_Mo_kinds 140 = .ok (.putfield 802, 3) := by decide +kernel
theorem d_Mo_kinds_143 : decode b_Mo_kinds 143 = .ok (.aload_n 0, 1) := by decide +kernel
theorem d_Mo_kinds_144 : decode b_Mo_kinds 144 = .ok (.iload_n 2, 1) := by decide +kernel
theorem d_Mo_kinds_145 : decode b_Mo_kinds 145 = .ok (.iload 5, 2) := by decide +kernel
theorem d_Mo_kinds_147 : decode b_Mo_kinds 147 = .ok (.invokevirtual 756, 3) := by decide +kernel
theorem d_Mo_kinds_150 : decode b_Mo_kinds 150 = .ok (.istore 6, 2) := by decide +kernel
theorem d_Mo_kinds_152 : decode b_Mo_kinds 152 = .ok (.aload_n 0, 1) := by decide +kernel
theorem d_Mo_kinds_153 : decode b_Mo_kinds 153 = .ok (.iconst 0, 1) := by decide +kernel
theorem d_Mo_kinds_154 : decode b_Mo_kinds 154 = .ok (.putfield 802, 3) := by decide +kernel
theorem d_Mo_kinds_157 : decode b_Mo_kinds 157 = .ok (.iconst 0, 1) := by decide +kernel
theorem d_Mo_kinds_158 : decode b_Mo_kinds 158 = .ok (.istore 7, 2) := by decide +kernel
theorem d_Mo_kinds_160 : decode b_Mo_kinds 160 = .ok (.iload 7, 2) := by decide +kernel
theorem d_Mo_kinds_162 : decode b_Mo_kinds 162 = .ok (.aload_n 0, 1) := by decide +kernel
theorem d_Mo_kinds_163 : decode b_Mo_kinds 163 = .ok (.getfield 1257, 3) := by decide +kernel
theorem d_Mo_kinds_166 : decode b_Mo_kinds 166 = .ok (.if_icmp .ge 128, 3) := by decide +kernel
theorem d_Mo_kinds_169 : decode b_Mo_kinds 169 = .ok (.iconst 0, 1) := by decide +kernel
theorem d_Mo_kinds_170 : decode b_Mo_kinds 170 = .ok (.istore 8, 2) := by decide +kernel
theorem d_Mo_kinds_172 : decode b_Mo_kinds 172 = .ok (.iload 8, 2) := by decide +kernel
theorem d_Mo_kinds_174 : decode b_Mo_kinds 174 = .ok (.aload_n 0, 1) := by decide +kernel
theorem d_Mo_kinds_175 : decode b_Mo_kinds 175 = .ok (.getfield 1254, 3) := by decide +kernel
theorem d_Mo_kinds_178 : decode b_Mo_kinds 178 = .ok (.if_icmp .ge 49, 3) := by decide +kernel
theorem d_Mo_kinds_181 : decode b_Mo_kinds 181 = .ok (.aload_n 0, 1) := by decide +kernel
theorem d_Mo_kinds_182 : decode b_Mo_kinds 182 = .ok (.getfield 329, 3) := by decide +kernel
theorem d_Mo_kinds_185 : decode b_Mo_kinds 185 = .ok (.iload 7, 2) := by decide +kernel
theorem d_Mo_kinds_187 : decode b_Mo_kinds 187 = .ok (.baload, 1) := by decide +kernel
theorem d_Mo_kinds_188 : decode b_Mo_kinds 188 = .ok (.ifCond .eq 39, 3) := by decide +kernel
theorem d_Mo_kinds_191 : decode b_Mo_kinds 191 = .ok (.aload_n 0, 1) := by decide +kernel
theorem d_Mo_kinds_192 : decode b_Mo_kinds 192 = .ok (.getfield 335, 3) := by decide +kernel
theorem d_Mo_kinds_195 : decode b_Mo_kinds 195 = .ok (.bipush 20, 2) := by decide +kernel
theorem d_Mo_kinds_197 : decode b_Mo_kinds 197 = .ok (.iload 7, 2) := by decide +kernel
theorem d_Mo_kinds_199 : decode b_Mo_kinds 199 = .ok (.imul, 1) := by decide +kernel
theorem d_Mo_kinds_200 : decode b_Mo_kinds 200 = .ok (.iload 8, 2) := by decide +kernel
theorem d_Mo_kinds_202 : decode b_Mo_kinds 202 = .ok (.iadd, 1) := by decide +kernel
theorem d_Mo_kinds_203 : decode b_Mo_kinds 203 = .ok (.aload_n 0, 1) := by decide +kernel
theorem d_Mo_kinds_204 : decode b_Mo_kinds 204 = .ok (.aload_n 0, 1) := by decide +kernel
theorem d_Mo_kinds_205 : decode b_Mo_kinds 205 = .ok (.getfield 335, 3) := by decide +kernel
theorem d_Mo_kinds_208 : decode b_Mo_kinds 208 = .ok (.bipush 20, 2) := by decide +kernel
theorem d_Mo_kinds_210 : decode b_Mo_kinds 210 = .ok (.iload 7, 2) := by decide +kernel
theorem d_Mo_kinds_212 : decode b_Mo_kinds 212 = .ok (.imul, 1) := by decide +kernel
theorem d_Mo_kinds_213 : decode b_Mo_kinds 213 = .ok (.iload 8, 2) := by decide +kernel
theorem d_Mo_kinds_215 : decode b_Mo_kinds 215 = .ok (.iadd, 1) := by decide +kernel
theorem d_Mo_kinds_216 : decode b_Mo_kinds 216 = .ok (.iaload, 1) := by decide +kernel
theorem d_Mo_kinds_217 : decode b_Mo_kinds 217 = .ok (.invokevirtual 1263, 3) := by decide +kernel
theorem d_Mo_kinds_220 : decode b_Mo_kinds 220 = .ok (.iastore, 1) := by decide +kernel
theorem d_Mo_kinds_221 : decode b_Mo_kinds 221 = .ok (.iinc 8 1, 3) := by decide +kernel
theorem d_Mo_kinds_224 : decode b_Mo_kinds 224 = .ok (.goto (-52), 3) := by decide +kernel
theorem d_Mo_kinds_227 : decode b_Mo_kinds 227 = .ok (.iconst 0, 1) := by decide +kernel
theorem d_Mo_kinds_228 : decode b_Mo_kinds 228 = .ok (.istore 8, 2) := by decide +kernel
theorem d_Mo_kinds_230 : decode b_Mo_kinds 230 = .ok (.aload_n 0, 1) := by decide +kernel
theorem d_Mo_kinds_231 : decode b_Mo_kinds 231 = .ok (.getfield 329, 3) := by decide +kernel
theorem d_Mo_kinds_234 : decode b_Mo_kinds 234 = .ok (.iload 7, 2) := by decide +kernel
theorem d_Mo_kinds_236 : decode b_Mo_kinds 236 = .ok (.baload, 1) := by decide +kernel
theorem d_Mo_kinds_237 : decode b_Mo_kinds 237 = .ok (.ifCond .eq 51, 3) := by decide +kernel
theorem d_Mo_kinds_240 : decode b_Mo_kinds 240 = .ok (.iload 8, 2) := by decide +kernel
theorem d_Mo_kinds_242 : decode b_Mo_kinds 242 = .ok (.aload_n 0, 1) := by decide +kernel
theorem d_Mo_kinds_243 : decode b_Mo_kinds 243 = .ok (.getfield 332, 3) := by decide +kernel
theorem d_Mo_kinds_246 : decode b_Mo_kinds 246 = .ok (.iload 7, 2) := by decide +kernel
theorem d_Mo_kinds_248 : decode b_Mo_kinds 248 = .ok (.iaload, 1) := by decide +kernel
theorem d_Mo_kinds_249 : decode b_Mo_kinds 249 = .ok (.if_icmp .ge 39, 3) := by decide +kernel
theorem d_Mo_kinds_252 : decode b_Mo_kinds 252 = .ok (.aload_n 0, 1) := by decide +kernel
theorem d_Mo_kinds_253 : decode b_Mo_kinds 253 = .ok (.getfield 338, 3) := by decide +kernel
theorem d_Mo_kinds_256 : decode b_Mo_kinds 256 = .ok (.bipush 28, 2) := by decide +kernel
theorem d_Mo_kinds_258 : decode b_Mo_kinds 258 = .ok (.iload 7, 2) := by decide +kernel
theorem d_Mo_kinds_260 : decode b_Mo_kinds 260 = .ok (.imul, 1) := by decide +kernel
theorem d_Mo_kinds_261 : decode b_Mo_kinds 261 = .ok (.iload 8, 2) := by decide +kernel
theorem d_Mo_kinds_263 : decode b_Mo_kinds 263 = .ok (.iadd, 1) := by decide +kernel
theorem d_Mo_kinds_264 : decode b_Mo_kinds 264 = .ok (.aload_n 0, 1) := by decide +kernel
theorem d_Mo_kinds_265 : decode b_Mo_kinds 265 = .ok (.aload_n 0, 1) := by decide +kernel
theorem d_Mo_kinds_266 : decode b_Mo_kinds 266 = .ok (.getfield 338, 3) := by decide +kernel
theorem d_Mo_kinds_269 : decode b_Mo_kinds 269 = .ok (.bipush 28, 2) := by decide +kernel
theorem d_Mo_kinds_271 : decode b_Mo_kinds 271 = .ok (.iload 7, 2) := by decide +kernel
theorem d_Mo_kinds_273 : decode b_Mo_kinds 273 = .ok (.imul, 1) := by decide +kernel
theorem d_Mo_kinds_274 : decode b_Mo_kinds 274 = .ok (.iload 8, 2) := by decide +kernel
theorem d_Mo_kinds_276 : decode b_Mo_kinds 276 = .ok (.iadd, 1) := by decide +kernel
theorem d_Mo_kinds_277 : decode b_Mo_kinds 277 = .ok (.iaload, 1) := by decide +kernel
theorem d_Mo_kinds_278 : decode b_Mo_kinds 278 = .ok (.invokevirtual 1263, 3) := by decide +kernel
theorem d_Mo_kinds_281 : decode b_Mo_kinds 281 = .ok (.iastore, 1) := by decide +kernel
theorem d_Mo_kinds_282 : decode b_Mo_kinds 282 = .ok (.iinc 8 1, 3) := by decide +kernel
theorem d_Mo_kinds_285 : decode b_Mo_kinds 285 = .ok (.goto (-55), 3) := by decide +kernel
theorem d_Mo_kinds_288 : decode b_Mo_kinds 288 = .ok (.iinc 7 1, 3) := by decide +kernel
theorem d_Mo_kinds_291 : decode b_Mo_kinds 291 = .ok (.goto (-131), 3) := by decide +kernel
theorem d_Mo_kinds_294 : decode b_Mo_kinds 294 = .ok (.iload 6, 2) := by decide +kernel
theorem d_Mo_kinds_296 : decode b_Mo_kinds 296 = .ok (.ifCond .ne 7, 3) := by decide +kernel
theorem d_Mo_kinds_299 : decode b_Mo_kinds 299 = .ok (.iconst 0, 1) := by decide +kernel
theorem d_Mo_kinds_300 : decode b_Mo_kinds 300 = .ok (.goto 14, 3) := by decide +kernel
theorem d_Mo_kinds_303 : decode b_Mo_kinds 303 = .ok (.sipush 1000, 3) := by decide +kernel
theorem d_Mo_kinds_306 : decode b_Mo_kinds 306 = .ok (.iload 6, 2) := by decide +kernel
theorem d_Mo_kinds_308 : decode b_Mo_kinds 308 = .ok (.imul, 1) := by decide +kernel
theorem d_Mo_kinds_309 : decode b_Mo_kinds 309 = .ok (.aload_n 0, 1) := by decide +kernel
theorem d_Mo_kinds_310 : decode b_Mo_kinds 310 = .ok (.getfield 759, 3) := by decide +kernel
theorem d_Mo_kinds_313 : decode b_Mo_kinds 313 = .ok (.iadd, 1) := by decide +kernel
theorem d_Mo_kinds_314 : decode b_Mo_kinds 314 = .ok (.ireturn, 1) := by decide +kernel
abbrev ru_Mo_kinds : Room := { frames := 8, cells := 0, slots := 0, locals := 218 }
def wj_Mo_kinds_47 (y : Ly) (Post : St → Int32 → Prop) (a0 : Nat) (s_j47 : St) : Prop := Post s_j47 (-1)
def wj_Mo_kinds_314 (y : Ly) (Post : St → Int32 → Prop) (a0 : Nat) (s_j314 : St) (z0j314 : Int32) : Prop := Post s_j314 z0j314
def wj_Mo_kinds_288 (y : Ly) (Post : St → Int32 → Prop) (K_160 : St → Int32 → Int32 → Prop) (a0 : Nat) (s_j288 : St) (x6j288 : Int32) (x7j288 : Int32) : Prop := K_160 s_j288 x6j288 (x7j288 + 1)
def wb_Mo_kinds_230 (y : Ly) (Post : St → Int32 → Prop) (K_160 : St → Int32 → Int32 → Prop) (K_230 : St → Int32 → Int32 → Int32 → Prop) (a0 : Nat) (s_h230 : St) (x6h230 : Int32) (x7h230 : Int32) (x8h230 : Int32) : Prop := xA y s_h230 a0 97 x7h230 (fun x_22 : Int32 => ((x_22 = 0 → wj_Mo_kinds_288 y Post K_160 a0 s_h230 x6h230 x7h230) ∧ (¬ (x_22 = 0) → xA y s_h230 a0 98 x7h230 (fun x_23 : Int32 => ((x_23 ≤ x8h230 → wj_Mo_kinds_288 y Post K_160 a0 s_h230 x6h230 x7h230) ∧ (¬ (x_23 ≤ x8h230) → xA y s_h230 a0 100 ((28 * x7h230) + x8h230) (fun x_24 : Int32 => wu_Mo_toldKind y (fun (s_26 : St) (r_25 : Int32) => xS y s_26 a0 100 ((28 * x7h230) + x8h230) r_25 (fun s_27 : St => K_230 s_27 x6h230 x7h230 (x8h230 + 1))) s_h230 a0 x_24)))))))
def wl_Mo_kinds_230 (y : Ly) (Post : St → Int32 → Prop) (K_160 : St → Int32 → Int32 → Prop) (a0 : Nat) (s_h230 : St) (x6h230 : Int32) (x7h230 : Int32) (x8h230 : Int32) : Prop := ∃ (I : St → Int32 → Int32 → Int32 → Prop) (μ : St → Int32 → Int32 → Int32 → Nat), I s_h230 x6h230 x7h230 x8h230 ∧ ∀ (u : St) (t0 : Int32) (t1 : Int32) (t2 : Int32), I u t0 t1 t2 → wb_Mo_kinds_230 y Post K_160 (fun z t0q t1q t2q => I z t0q t1q t2q ∧ μ z t0q t1q t2q < μ u t0 t1 t2) a0 u t0 t1 t2
def wj_Mo_kinds_227 (y : Ly) (Post : St → Int32 → Prop) (K_160 : St → Int32 → Int32 → Prop) (a0 : Nat) (s_j227 : St) (x6j227 : Int32) (x7j227 : Int32) : Prop := wl_Mo_kinds_230 y Post K_160 a0 s_j227 x6j227 x7j227 0
def wb_Mo_kinds_172 (y : Ly) (Post : St → Int32 → Prop) (K_160 : St → Int32 → Int32 → Prop) (K_172 : St → Int32 → Int32 → Int32 → Prop) (a0 : Nat) (s_h172 : St) (x6h172 : Int32) (x7h172 : Int32) (x8h172 : Int32) : Prop := (((sV s_h172 a0 102) ≤ x8h172 → wj_Mo_kinds_227 y Post K_160 a0 s_h172 x6h172 x7h172) ∧ (¬ ((sV s_h172 a0 102) ≤ x8h172) → xA y s_h172 a0 97 x7h172 (fun x_28 : Int32 => ((x_28 = 0 → wj_Mo_kinds_227 y Post K_160 a0 s_h172 x6h172 x7h172) ∧ (¬ (x_28 = 0) → xA y s_h172 a0 99 ((20 * x7h172) + x8h172) (fun x_29 : Int32 => wu_Mo_toldKind y (fun (s_31 : St) (r_30 : Int32) => xS y s_31 a0 99 ((20 * x7h172) + x8h172) r_30 (fun s_32 : St => K_172 s_32 x6h172 x7h172 (x8h172 + 1))) s_h172 a0 x_29))))))
def wl_Mo_kinds_172 (y : Ly) (Post : St → Int32 → Prop) (K_160 : St → Int32 → Int32 → Prop) (a0 : Nat) (s_h172 : St) (x6h172 : Int32) (x7h172 : Int32) (x8h172 : Int32) : Prop := ∃ (I : St → Int32 → Int32 → Int32 → Prop) (μ : St → Int32 → Int32 → Int32 → Nat), I s_h172 x6h172 x7h172 x8h172 ∧ ∀ (u : St) (t0 : Int32) (t1 : Int32) (t2 : Int32), I u t0 t1 t2 → wb_Mo_kinds_172 y Post K_160 (fun z t0q t1q t2q => I z t0q t1q t2q ∧ μ z t0q t1q t2q < μ u t0 t1 t2) a0 u t0 t1 t2
def wb_Mo_kinds_160 (y : Ly) (Post : St → Int32 → Prop) (K_160 : St → Int32 → Int32 → Prop) (a0 : Nat) (s_h160 : St) (x6h160 : Int32) (x7h160 : Int32) : Prop := (((sV s_h160 a0 101) ≤ x7h160 → ((¬ x6h160 = 0 → wj_Mo_kinds_314 y Post a0 s_h160 ((1000 * x6h160) + (sV s_h160 a0 74))) ∧ (x6h160 = 0 → wj_Mo_kinds_314 y Post a0 s_h160 0))) ∧ (¬ ((sV s_h160 a0 101) ≤ x7h160) → wl_Mo_kinds_172 y Post K_160 a0 s_h160 x6h160 x7h160 0))
def wl_Mo_kinds_160 (y : Ly) (Post : St → Int32 → Prop) (a0 : Nat) (s_h160 : St) (x6h160 : Int32) (x7h160 : Int32) : Prop := ∃ (I : St → Int32 → Int32 → Prop) (μ : St → Int32 → Int32 → Nat), I s_h160 x6h160 x7h160 ∧ ∀ (u : St) (t0 : Int32) (t1 : Int32), I u t0 t1 → wb_Mo_kinds_160 y Post (fun z t0q t1q => I z t0q t1q ∧ μ z t0q t1q < μ u t0 t1) a0 u t0 t1
def wj_Mo_kinds_157 (y : Ly) (Post : St → Int32 → Prop) (a0 : Nat) (s_j157 : St) (x6j157 : Int32) : Prop := wl_Mo_kinds_160 y Post a0 s_j157 x6j157 0
def wb_Mo_kinds_98 (y : Ly) (Post : St → Int32 → Prop) (K_98 : St → Int32 → Int32 → Int32 → Int32 → Prop) (a0 : Nat) (s_h98 : St) (x2h98 : Int32) (x4h98 : Int32) (x5h98 : Int32) (x6h98 : Int32) : Prop := (((sV s_h98 a0 101) ≤ x6h98 → ((x4h98 = 0 → nb 1 ∧ xP (uV s_h98 a0 77 1) (fun s_34 : St => wu_Mo_check y (fun (s_36 : St) (r_35 : Int32) => nb 0 ∧ xP (uV s_36 a0 77 0) (fun s_38 : St => wj_Mo_kinds_157 y Post a0 s_38 r_35)) s_34 a0 x2h98 x5h98)) ∧ (¬ (x4h98 = 0) → wu_Mo_infer y (fun (s_40 : St) (r_39 : Int32) => wj_Mo_kinds_157 y Post a0 s_40 r_39) s_h98 a0 x2h98 x5h98))) ∧ (¬ ((sV s_h98 a0 101) ≤ x6h98) → xS y s_h98 a0 97 x6h98 (vp_nar .boolean 0) (fun s_41 : St => K_98 s_41 x2h98 x4h98 x5h98 (x6h98 + 1))))
def wl_Mo_kinds_98 (y : Ly) (Post : St → Int32 → Prop) (a0 : Nat) (s_h98 : St) (x2h98 : Int32) (x4h98 : Int32) (x5h98 : Int32) (x6h98 : Int32) : Prop := ∃ (I : St → Int32 → Int32 → Int32 → Int32 → Prop) (μ : St → Int32 → Int32 → Int32 → Int32 → Nat), I s_h98 x2h98 x4h98 x5h98 x6h98 ∧ ∀ (u : St) (t0 : Int32) (t1 : Int32) (t2 : Int32) (t3 : Int32), I u t0 t1 t2 t3 → wb_Mo_kinds_98 y Post (fun z t0q t1q t2q t3q => I z t0q t1q t2q t3q ∧ μ z t0q t1q t2q t3q < μ u t0 t1 t2 t3) a0 u t0 t1 t2 t3
def wu_Mo_kinds (y : Ly) (Post : St → Int32 → Prop) (σ : St) (a0 : Nat) (v1 : Int32) (v2 : Int32) (v3 : Int32) (v4 : Int32) : Prop := wu_Mo_isClass y (fun (s_2 : St) (r_1 : Int32) => ((r_1 = 0 → wj_Mo_kinds_47 y Post a0 s_2) ∧ (¬ (r_1 = 0) → ((v3 < 0 → wj_Mo_kinds_47 y Post a0 s_2) ∧ (¬ (v3 < 0) → xQ y a0 44 v1 (fun b_3 : Nat => xA y s_2 b_3 9 v2 (fun x_5 : Int32 => ((x_5 ≤ v3 → wj_Mo_kinds_47 y Post a0 s_2) ∧ (¬ (x_5 ≤ v3) → xQ y a0 44 v1 (fun b_6 : Nat => xA y s_2 b_6 24 ((12 * v2) + v3) (fun x_8 : Int32 => ((¬ x_8 = 0 → xQ y a0 44 v1 (fun b_9 : Nat => xP (uO s_2 a0 45 (some b_9)) (fun s_11 : St => ∃ b_12 : Nat, sO s_11 a0 45 = some b_12 ∧ cl b_12 = 13 ∧ xA y s_11 b_12 24 ((12 * v2) + v3) (fun x_15 : Int32 => xP (uV s_11 a0 101 x_15) (fun s_16 : St => ∃ b_17 : Nat, sO s_16 a0 45 = some b_17 ∧ cl b_17 = 13 ∧ xA y s_16 b_17 22 ((12 * v2) + v3) (fun x_20 : Int32 => xP (uV s_16 a0 102 x_20) (fun s_21 : St => wl_Mo_kinds_98 y Post a0 s_21 v2 v4 ((12 * v2) + v3) 0))))))) ∧ (x_8 = 0 → wj_Mo_kinds_47 y Post a0 s_2))))))))))))) σ a0 v1 v2
set_option maxHeartbeats 4000000 in
set_option maxRecDepth 100000 in
theorem cu_Mo_kinds (l : Launch) (D : va_G) (g : Nat → ClassId) (ad : Nat → Nat) (y : Ly) (Post : St → Int32 → Prop) (σ : St) (a0 : Nat) (v1 : Int32) (v2 : Int32) (v3 : Int32) (v4 : Int32) (sz : Nat) (h_a0 : cl a0 = 14) (h : wu_Mo_kinds y Post σ a0 v1 v2 v3 v4) : Met l y_Mo_kinds (mw y_Mo_kinds b_Mo_kinds 9 (some .int)) ru_Mo_kinds (PC g D [] [.ref (ad a0), .int v1, .int v2, .int v3, .int v4] sz (ws g ad y σ)) (va_Qi (fun (r : Int32) (u : St) => Post u r) (QW D (va_A (ws g ad y σ) sz) (fun u => ws g ad y u)) (va_A (ws g ad y σ) sz)) 0 0 (va_A (ws g ad y σ) sz) := by
  refine ofI (by decide +kernel) (Nat.le_of_ble_eq_true rfl) ?_
  intro p e s m args below meth c A Q ls H locs G hsz hP hD hS hl hret
  subst hsz
  have hl : lv_has ls 9 [(0, .ref (ad a0)), (1, .int v1), (2, .int v2), (3, .int v3), (4, .int v4)] := hl
  unfold wu_Mo_kinds at h
  refine lv_aload_n G.1 G.2.1 d_Mo_kinds_0 rfl (lv_at hl 0 rfl) ?_
  refine lv_iload_n G.1 G.2.1 d_Mo_kinds_1 rfl (lv_at hl 1 rfl) ?_
  refine lv_iload_n G.1 G.2.1 d_Mo_kinds_2 rfl (lv_at hl 2 rfl) ?_
  refine ucVi (As := [.int v1, .int v2]) (rest := []) G hP hD hS (cu_Mo_isClass l D g ad y _ σ a0 v1 v2 H.size h_a0 h) w9_Mo_isClass q3661 ⟨Nat.le_of_ble_eq_true rfl, Nat.le_of_ble_eq_true rfl⟩ rfl rfl h_a0 (q := (RMo, TMo, 131)) rfl rfl hl.1 rfl (Nat.le_of_ble_eq_true rfl) rfl ⟨Nat.le_refl _, Nat.le_refl _⟩ d_Mo_kinds_3 (fun r_1 s_2 H locs h hP hD hS => ?_)
  have J_47 : ∀ (s_j47 : St) (H : Heap) (locs : List Loc), wj_Mo_kinds_47 y Post a0 s_j47 → va_P D CL (ws g ad y s_j47) H → va_D A (ws g ad y s_j47) → va_S A s.heap H locs → ∀ ls, lv_has ls 9 [] → W p l e ru_Mo_kinds s m args below meth c H locs 0 0 Q (F0 m 47 ls []) := by
    intro s_j47 H locs h hP hD hS ls hl
    unfold wj_Mo_kinds_47 at h
    refine lv_iconst (v := (-1)) G.1 G.2.1 d_Mo_kinds_47 (by decide) ?_
    exact hret _ _ _ _ _ _ _ ls h hP hD hS (Nat.le_refl _) (Nat.le_refl _) d_Mo_kinds_48
  refine lv_if_eq (tgt := 47) G.1 G.2.1 d_Mo_kinds_6 (by decide) (fun c6 => ?_) (fun c6 => ?_)
  · skip
    have h := h.1 c6
    exact J_47 s_2 H locs h hP hD hS ls (lv_sub hl [] rfl)
  · skip
    have h := h.2 c6
    refine lv_iload_n G.1 G.2.1 d_Mo_kinds_9 rfl (lv_at hl 3 rfl) ?_
    refine lv_if_lt (tgt := 47) G.1 G.2.1 d_Mo_kinds_10 (by decide) (fun c10 => ?_) (fun c10 => ?_)
    · skip
      have h := h.1 c10
      exact J_47 s_2 H locs h hP hD hS ls (lv_sub hl [] rfl)
    · skip
      have h := h.2 c10
      refine lv_iload_n G.1 G.2.1 d_Mo_kinds_13 rfl (lv_at hl 3 rfl) ?_
      refine lv_aload_n G.1 G.2.1 d_Mo_kinds_14 rfl (lv_at hl 0 rfl) ?_
      refine ugf (v := .ref (yP y a0 44)) G hP h_a0 iMo rfl 44 (by decide) rfl q3108 rfl rfl d_Mo_kinds_15 ?_
      refine lv_iload_n G.1 G.2.1 d_Mo_kinds_18 rfl (lv_at hl 1 rfl) ?_
      refine W.eq (g2 := F0 m 19 ls [.int v1, .ref (yP y a0 44), .int v3]) rfl ?_
      refine uqald G hP (kdp h_a0 rfl) (typ h_a0 rfl) rfl h d_Mo_kinds_19 (fun b_3 n_4 h => ?_)
      refine ugfN (v := .ref (yP y b_3 9)) G hP (oa_14 h_a0 n_4) iMw rfl 9 (by decide) rfl q2722 rfl rfl d_Mo_kinds_20 ?_
      refine lv_iload_n G.1 G.2.1 d_Mo_kinds_23 rfl (lv_at hl 2 rfl) ?_
      refine uiald G hP (kdp (oa_14 h_a0 n_4) rfl) (typ (oa_14 h_a0 n_4) rfl) h d_Mo_kinds_24 (fun x_5 h => ?_)
      refine lv_icmp_ge (tgt := 47) G.1 G.2.1 d_Mo_kinds_25 (by decide) (fun c25 => ?_) (fun c25 => ?_)
      · skip
        have h := h.1 c25
        exact J_47 s_2 H locs h hP hD hS ls (lv_sub hl [] rfl)
      · skip
        have h := h.2 c25
        refine lv_aload_n G.1 G.2.1 d_Mo_kinds_28 rfl (lv_at hl 0 rfl) ?_
        refine ugf (v := .ref (yP y a0 44)) G hP h_a0 iMo rfl 44 (by decide) rfl q3108 rfl rfl d_Mo_kinds_29 ?_
        refine lv_iload_n G.1 G.2.1 d_Mo_kinds_32 rfl (lv_at hl 1 rfl) ?_
        refine uqald G hP (kdp h_a0 rfl) (typ h_a0 rfl) rfl h d_Mo_kinds_33 (fun b_6 n_7 h => ?_)
        refine ugfN (v := .ref (yP y b_6 24)) G hP (oa_14 h_a0 n_7) iMw rfl 24 (by decide) rfl q2752 rfl rfl d_Mo_kinds_34 ?_
        refine lv_bipush (v := 12) G.1 G.2.1 d_Mo_kinds_37 (by decide) ?_
        refine lv_iload_n G.1 G.2.1 d_Mo_kinds_39 rfl (lv_at hl 2 rfl) ?_
        refine W.eq (g2 := F0 m 40 ls [.int v2, .int 12, .ref (yP y b_6 24)]) rfl ?_
        refine lv_imul G.1 G.2.1 d_Mo_kinds_40 ?_
        refine lv_iload_n G.1 G.2.1 d_Mo_kinds_41 rfl (lv_at hl 3 rfl) ?_
        refine lv_iadd G.1 G.2.1 d_Mo_kinds_42 ?_
        refine uiald G hP (kdp (oa_14 h_a0 n_7) rfl) (typ (oa_14 h_a0 n_7) rfl) h d_Mo_kinds_43 (fun x_8 h => ?_)
        refine lv_if_ne (tgt := 49) G.1 G.2.1 d_Mo_kinds_44 (by decide) (fun c44 => ?_) (fun c44 => ?_)
        · skip
          have h := h.1 c44
          refine lv_aload_n G.1 G.2.1 d_Mo_kinds_49 rfl (lv_at hl 0 rfl) ?_
          refine lv_aload_n G.1 G.2.1 d_Mo_kinds_50 rfl (lv_at hl 0 rfl) ?_
          refine ugf (v := .ref (yP y a0 44)) G hP h_a0 iMo rfl 44 (by decide) rfl q3108 rfl rfl d_Mo_kinds_51 ?_
          refine lv_iload_n G.1 G.2.1 d_Mo_kinds_54 rfl (lv_at hl 1 rfl) ?_
          refine uqald G hP (kdp h_a0 rfl) (typ h_a0 rfl) rfl h d_Mo_kinds_55 (fun b_9 n_10 h => ?_)
          refine upf G hP hD hS h 45 putO h_a0 iMo tMo tMo_ok nMo rfl (by decide) rfl q3109 rfl rfl fO rfl rfl d_Mo_kinds_56 (fun s_11 H locs h hP hD hS => ?_)
          refine lv_bipush (v := 12) G.1 G.2.1 d_Mo_kinds_59 (by decide) ?_
          refine W.eq (g2 := F0 m 61 ls [.int 12]) rfl ?_
          refine lv_iload_n G.1 G.2.1 d_Mo_kinds_61 rfl (lv_at hl 2 rfl) ?_
          refine lv_imul G.1 G.2.1 d_Mo_kinds_62 ?_
          refine lv_iload_n G.1 G.2.1 d_Mo_kinds_63 rfl (lv_at hl 3 rfl) ?_
          refine lv_iadd G.1 G.2.1 d_Mo_kinds_64 ?_
          refine lv_istore (lv' := [(5, .int ((12 * v2) + v3)), (0, .ref (ad a0)), (1, .int v1), (2, .int v2), (3, .int v3), (4, .int v4)]) G.1 G.2.1 d_Mo_kinds_65 hl (by decide) rfl (fun ls hl => ?_)
          refine lv_aload_n G.1 G.2.1 d_Mo_kinds_67 rfl (lv_at hl 1 rfl) ?_
          refine lv_aload_n G.1 G.2.1 d_Mo_kinds_68 rfl (lv_at hl 1 rfl) ?_
          obtain ⟨b_12, e_13, c_14, h⟩ := h
          refine ugf (v := .ref (ad b_12)) G hP h_a0 iMo rfl 45 (by decide) rfl q3109 rfl (by show va_rf ((sO s_11 a0 45).map ad) = _; rw [e_13]; rfl) d_Mo_kinds_69 ?_
          refine ugfN (v := .ref (yP y b_12 24)) G hP c_14 iMw rfl 24 (by decide) rfl q2752 rfl rfl d_Mo_kinds_72 ?_
          refine lv_iload G.1 G.2.1 d_Mo_kinds_75 (lv_at hl 0 rfl) ?_
          refine uiald G hP (kdp c_14 rfl) (typ c_14 rfl) h d_Mo_kinds_77 (fun x_15 h => ?_)
          refine upf G hP hD hS h 101 putV h_a0 iMo tMo tMo_ok nMo rfl (by decide) rfl q3165 rfl rfl fV rfl rfl d_Mo_kinds_78 (fun s_16 H locs h hP hD hS => ?_)
          refine W.eq (g2 := F0 m 81 ls []) rfl ?_
          refine lv_aload_n G.1 G.2.1 d_Mo_kinds_81 rfl (lv_at hl 1 rfl) ?_
          refine lv_aload_n G.1 G.2.1 d_Mo_kinds_82 rfl (lv_at hl 1 rfl) ?_
          obtain ⟨b_17, e_18, c_19, h⟩ := h
          refine ugf (v := .ref (ad b_17)) G hP h_a0 iMo rfl 45 (by decide) rfl q3109 rfl (by show va_rf ((sO s_16 a0 45).map ad) = _; rw [e_18]; rfl) d_Mo_kinds_83 ?_
          refine ugfN (v := .ref (yP y b_17 22)) G hP c_19 iMw rfl 22 (by decide) rfl q2748 rfl rfl d_Mo_kinds_86 ?_
          refine lv_iload G.1 G.2.1 d_Mo_kinds_89 (lv_at hl 0 rfl) ?_
          refine uiald G hP (kdp c_19 rfl) (typ c_19 rfl) h d_Mo_kinds_91 (fun x_20 h => ?_)
          refine upf G hP hD hS h 102 putV h_a0 iMo tMo tMo_ok nMo rfl (by decide) rfl q3166 rfl rfl fV rfl rfl d_Mo_kinds_92 (fun s_21 H locs h hP hD hS => ?_)
          refine lv_iconst (v := 0) G.1 G.2.1 d_Mo_kinds_95 (by decide) ?_
          refine lv_istore (lv' := [(6, .int 0), (5, .int ((12 * v2) + v3)), (0, .ref (ad a0)), (1, .int v1), (2, .int v2), (3, .int v3), (4, .int v4)]) G.1 G.2.1 d_Mo_kinds_96 hl (by decide) rfl (fun ls hl => ?_)
          unfold wl_Mo_kinds_98 at h
          obtain ⟨I_98, μ_98, hI_98, hB_98⟩ := h
          have L_98 : ∀ (n_98 : Nat) (s_h98 : St) (x2h98 : Int32) (x4h98 : Int32) (x5h98 : Int32) (x6h98 : Int32), μ_98 s_h98 x2h98 x4h98 x5h98 x6h98 < n_98 → I_98 s_h98 x2h98 x4h98 x5h98 x6h98 → ∀ (H : Heap) (locs : List Loc), va_P D CL (ws g ad y s_h98) H → va_D A (ws g ad y s_h98) → va_S A s.heap H locs → ∀ ls, lv_has ls 9 [(0, .ref (ad a0)), (2, .int x2h98), (4, .int x4h98), (5, .int x5h98), (6, .int x6h98)] → W p l e ru_Mo_kinds s m args below meth c H locs 0 0 Q (F0 m 98 ls []) := by
            intro n_98
            induction n_98 with
            | zero => intro s_h98 x2h98 x4h98 x5h98 x6h98 hμ; exact absurd hμ (Nat.not_lt_zero _)
            | succ n_98 ih_98 =>
              intro s_h98 x2h98 x4h98 x5h98 x6h98 hμ_98 hJ H locs hP hD hS ls hl
              obtain ⟨K_98, hK_98, h⟩ : ∃ K : St → Int32 → Int32 → Int32 → Int32 → Prop, (∀ z (t0 : Int32) (t1 : Int32) (t2 : Int32) (t3 : Int32), K z t0 t1 t2 t3 → I_98 z t0 t1 t2 t3 ∧ μ_98 z t0 t1 t2 t3 < μ_98 s_h98 x2h98 x4h98 x5h98 x6h98) ∧ wb_Mo_kinds_98 y Post K a0 s_h98 x2h98 x4h98 x5h98 x6h98 := ⟨_, fun _ _ _ _ _ h => h, hB_98 s_h98 x2h98 x4h98 x5h98 x6h98 hJ⟩
              unfold wb_Mo_kinds_98 at h
              refine lv_iload G.1 G.2.1 d_Mo_kinds_98 (lv_at hl 4 rfl) ?_
              refine lv_aload_n G.1 G.2.1 d_Mo_kinds_100 rfl (lv_at hl 0 rfl) ?_
              refine ugf (v := .int (sV s_h98 a0 101)) G hP h_a0 iMo rfl 101 (by decide) rfl q3165 rfl rfl d_Mo_kinds_101 ?_
              refine lv_icmp_ge (tgt := 121) G.1 G.2.1 d_Mo_kinds_104 (by decide) (fun c104 => ?_) (fun c104 => ?_)
              · skip
                have h := h.1 c104
                refine lv_iload G.1 G.2.1 d_Mo_kinds_121 (lv_at hl 2 rfl) ?_
                have J_157 : ∀ (s_j157 : St) (x6j157 : Int32) (H : Heap) (locs : List Loc), wj_Mo_kinds_157 y Post a0 s_j157 x6j157 → va_P D CL (ws g ad y s_j157) H → va_D A (ws g ad y s_j157) → va_S A s.heap H locs → ∀ ls, lv_has ls 9 [(0, .ref (ad a0)), (6, .int x6j157)] → W p l e ru_Mo_kinds s m args below meth c H locs 0 0 Q (F0 m 157 ls []) := by
                  intro s_j157 x6j157 H locs h hP hD hS ls hl
                  unfold wj_Mo_kinds_157 at h
                  refine lv_iconst (v := 0) G.1 G.2.1 d_Mo_kinds_157 (by decide) ?_
                  refine lv_istore (lv' := [(7, .int 0), (0, .ref (ad a0)), (6, .int x6j157)]) G.1 G.2.1 d_Mo_kinds_158 hl (by decide) rfl (fun ls hl => ?_)
                  unfold wl_Mo_kinds_160 at h
                  obtain ⟨I_160, μ_160, hI_160, hB_160⟩ := h
                  have L_160 : ∀ (n_160 : Nat) (s_h160 : St) (x6h160 : Int32) (x7h160 : Int32), μ_160 s_h160 x6h160 x7h160 < n_160 → I_160 s_h160 x6h160 x7h160 → ∀ (H : Heap) (locs : List Loc), va_P D CL (ws g ad y s_h160) H → va_D A (ws g ad y s_h160) → va_S A s.heap H locs → ∀ ls, lv_has ls 9 [(0, .ref (ad a0)), (6, .int x6h160), (7, .int x7h160)] → W p l e ru_Mo_kinds s m args below meth c H locs 0 0 Q (F0 m 160 ls []) := by
                    intro n_160
                    induction n_160 with
                    | zero => intro s_h160 x6h160 x7h160 hμ; exact absurd hμ (Nat.not_lt_zero _)
                    | succ n_160 ih_160 =>
                      intro s_h160 x6h160 x7h160 hμ_160 hJ H locs hP hD hS ls hl
                      obtain ⟨K_160, hK_160, h⟩ : ∃ K : St → Int32 → Int32 → Prop, (∀ z (t0 : Int32) (t1 : Int32), K z t0 t1 → I_160 z t0 t1 ∧ μ_160 z t0 t1 < μ_160 s_h160 x6h160 x7h160) ∧ wb_Mo_kinds_160 y Post K a0 s_h160 x6h160 x7h160 := ⟨_, fun _ _ _ h => h, hB_160 s_h160 x6h160 x7h160 hJ⟩
                      unfold wb_Mo_kinds_160 at h
                      refine lv_iload G.1 G.2.1 d_Mo_kinds_160 (lv_at hl 2 rfl) ?_
                      refine lv_aload_n G.1 G.2.1 d_Mo_kinds_162 rfl (lv_at hl 0 rfl) ?_
                      refine ugf (v := .int (sV s_h160 a0 101)) G hP h_a0 iMo rfl 101 (by decide) rfl q3165 rfl rfl d_Mo_kinds_163 ?_
                      refine lv_icmp_ge (tgt := 294) G.1 G.2.1 d_Mo_kinds_166 (by decide) (fun c166 => ?_) (fun c166 => ?_)
                      · skip
                        have h := h.1 c166
                        refine lv_iload G.1 G.2.1 d_Mo_kinds_294 (lv_at hl 1 rfl) ?_
                        have J_314 : ∀ (s_j314 : St) (z0j314 : Int32) (H : Heap) (locs : List Loc), wj_Mo_kinds_314 y Post a0 s_j314 z0j314 → va_P D CL (ws g ad y s_j314) H → va_D A (ws g ad y s_j314) → va_S A s.heap H locs → ∀ ls, lv_has ls 9 [] → W p l e ru_Mo_kinds s m args below meth c H locs 0 0 Q (F0 m 314 ls [.int z0j314]) := by
                          intro s_j314 z0j314 H locs h hP hD hS ls hl
                          unfold wj_Mo_kinds_314 at h
                          exact hret _ _ _ _ _ _ _ ls h hP hD hS (Nat.le_refl _) (Nat.le_refl _) d_Mo_kinds_314
                        refine lv_if_ne (tgt := 303) G.1 G.2.1 d_Mo_kinds_296 (by decide) (fun c296 => ?_) (fun c296 => ?_)
                        · skip
                          have h := h.1 c296
                          refine lv_sipush (v := 1000) G.1 G.2.1 d_Mo_kinds_303 (by decide) ?_
                          refine lv_iload G.1 G.2.1 d_Mo_kinds_306 (lv_at hl 1 rfl) ?_
                          refine lv_imul G.1 G.2.1 d_Mo_kinds_308 ?_
                          refine lv_aload_n G.1 G.2.1 d_Mo_kinds_309 rfl (lv_at hl 0 rfl) ?_
                          refine ugf (v := .int (sV s_h160 a0 74)) G hP h_a0 iMo rfl 74 (by decide) rfl q3138 rfl rfl d_Mo_kinds_310 ?_
                          refine W.eq (g2 := F0 m 313 ls [.int (sV s_h160 a0 74), .int (1000 * x6h160)]) rfl ?_
                          refine lv_iadd G.1 G.2.1 d_Mo_kinds_313 ?_
                          exact J_314 s_h160 ((1000 * x6h160) + (sV s_h160 a0 74)) H locs h hP hD hS ls (lv_sub hl [] rfl)
                        · skip
                          have h := h.2 c296
                          refine lv_iconst (v := 0) G.1 G.2.1 d_Mo_kinds_299 (by decide) ?_
                          refine lv_goto (tgt := 314) G.1 G.2.1 d_Mo_kinds_300 (by decide) ?_
                          exact J_314 s_h160 0 H locs h hP hD hS ls (lv_sub hl [] rfl)
                      · skip
                        have h := h.2 c166
                        refine lv_iconst (v := 0) G.1 G.2.1 d_Mo_kinds_169 (by decide) ?_
                        refine lv_istore (lv' := [(8, .int 0), (0, .ref (ad a0)), (6, .int x6h160), (7, .int x7h160)]) G.1 G.2.1 d_Mo_kinds_170 hl (by decide) rfl (fun ls hl => ?_)
                        unfold wl_Mo_kinds_172 at h
                        obtain ⟨I_172, μ_172, hI_172, hB_172⟩ := h
                        have L_172 : ∀ (n_172 : Nat) (s_h172 : St) (x6h172 : Int32) (x7h172 : Int32) (x8h172 : Int32), μ_172 s_h172 x6h172 x7h172 x8h172 < n_172 → I_172 s_h172 x6h172 x7h172 x8h172 → ∀ (H : Heap) (locs : List Loc), va_P D CL (ws g ad y s_h172) H → va_D A (ws g ad y s_h172) → va_S A s.heap H locs → ∀ ls, lv_has ls 9 [(0, .ref (ad a0)), (6, .int x6h172), (7, .int x7h172), (8, .int x8h172)] → W p l e ru_Mo_kinds s m args below meth c H locs 0 0 Q (F0 m 172 ls []) := by
                          intro n_172
                          induction n_172 with
                          | zero => intro s_h172 x6h172 x7h172 x8h172 hμ; exact absurd hμ (Nat.not_lt_zero _)
                          | succ n_172 ih_172 =>
                            intro s_h172 x6h172 x7h172 x8h172 hμ_172 hJ H locs hP hD hS ls hl
                            obtain ⟨K_172, hK_172, h⟩ : ∃ K : St → Int32 → Int32 → Int32 → Prop, (∀ z (t0 : Int32) (t1 : Int32) (t2 : Int32), K z t0 t1 t2 → I_172 z t0 t1 t2 ∧ μ_172 z t0 t1 t2 < μ_172 s_h172 x6h172 x7h172 x8h172) ∧ wb_Mo_kinds_172 y Post K_160 K a0 s_h172 x6h172 x7h172 x8h172 := ⟨_, fun _ _ _ _ h => h, hB_172 s_h172 x6h172 x7h172 x8h172 hJ⟩
                            unfold wb_Mo_kinds_172 at h
                            refine lv_iload G.1 G.2.1 d_Mo_kinds_172 (lv_at hl 3 rfl) ?_
                            refine lv_aload_n G.1 G.2.1 d_Mo_kinds_174 rfl (lv_at hl 0 rfl) ?_
                            refine ugf (v := .int (sV s_h172 a0 102)) G hP h_a0 iMo rfl 102 (by decide) rfl q3166 rfl rfl d_Mo_kinds_175 ?_
                            have J_227 : ∀ (s_j227 : St) (x6j227 : Int32) (x7j227 : Int32) (H : Heap) (locs : List Loc), wj_Mo_kinds_227 y Post K_160 a0 s_j227 x6j227 x7j227 → va_P D CL (ws g ad y s_j227) H → va_D A (ws g ad y s_j227) → va_S A s.heap H locs → ∀ ls, lv_has ls 9 [(0, .ref (ad a0)), (6, .int x6j227), (7, .int x7j227)] → W p l e ru_Mo_kinds s m args below meth c H locs 0 0 Q (F0 m 227 ls []) := by
                              intro s_j227 x6j227 x7j227 H locs h hP hD hS ls hl
                              unfold wj_Mo_kinds_227 at h
                              refine lv_iconst (v := 0) G.1 G.2.1 d_Mo_kinds_227 (by decide) ?_
                              refine lv_istore (lv' := [(8, .int 0), (0, .ref (ad a0)), (6, .int x6j227), (7, .int x7j227)]) G.1 G.2.1 d_Mo_kinds_228 hl (by decide) rfl (fun ls hl => ?_)
                              unfold wl_Mo_kinds_230 at h
                              obtain ⟨I_230, μ_230, hI_230, hB_230⟩ := h
                              have L_230 : ∀ (n_230 : Nat) (s_h230 : St) (x6h230 : Int32) (x7h230 : Int32) (x8h230 : Int32), μ_230 s_h230 x6h230 x7h230 x8h230 < n_230 → I_230 s_h230 x6h230 x7h230 x8h230 → ∀ (H : Heap) (locs : List Loc), va_P D CL (ws g ad y s_h230) H → va_D A (ws g ad y s_h230) → va_S A s.heap H locs → ∀ ls, lv_has ls 9 [(0, .ref (ad a0)), (6, .int x6h230), (7, .int x7h230), (8, .int x8h230)] → W p l e ru_Mo_kinds s m args below meth c H locs 0 0 Q (F0 m 230 ls []) := by
                                intro n_230
                                induction n_230 with
                                | zero => intro s_h230 x6h230 x7h230 x8h230 hμ; exact absurd hμ (Nat.not_lt_zero _)
                                | succ n_230 ih_230 =>
                                  intro s_h230 x6h230 x7h230 x8h230 hμ_230 hJ H locs hP hD hS ls hl
                                  obtain ⟨K_230, hK_230, h⟩ : ∃ K : St → Int32 → Int32 → Int32 → Prop, (∀ z (t0 : Int32) (t1 : Int32) (t2 : Int32), K z t0 t1 t2 → I_230 z t0 t1 t2 ∧ μ_230 z t0 t1 t2 < μ_230 s_h230 x6h230 x7h230 x8h230) ∧ wb_Mo_kinds_230 y Post K_160 K a0 s_h230 x6h230 x7h230 x8h230 := ⟨_, fun _ _ _ _ h => h, hB_230 s_h230 x6h230 x7h230 x8h230 hJ⟩
                                  unfold wb_Mo_kinds_230 at h
                                  refine lv_aload_n G.1 G.2.1 d_Mo_kinds_230 rfl (lv_at hl 0 rfl) ?_
                                  refine ugf (v := .ref (yP y a0 97)) G hP h_a0 iMo rfl 97 (by decide) rfl q3161 rfl rfl d_Mo_kinds_231 ?_
                                  refine lv_iload G.1 G.2.1 d_Mo_kinds_234 (lv_at hl 2 rfl) ?_
                                  refine uzald G hP (kdp h_a0 rfl) (typ h_a0 rfl) h d_Mo_kinds_236 (fun x_22 h => ?_)
                                  have J_288 : ∀ (s_j288 : St) (x6j288 : Int32) (x7j288 : Int32) (H : Heap) (locs : List Loc), wj_Mo_kinds_288 y Post K_160 a0 s_j288 x6j288 x7j288 → va_P D CL (ws g ad y s_j288) H → va_D A (ws g ad y s_j288) → va_S A s.heap H locs → ∀ ls, lv_has ls 9 [(0, .ref (ad a0)), (6, .int x6j288), (7, .int x7j288)] → W p l e ru_Mo_kinds s m args below meth c H locs 0 0 Q (F0 m 288 ls []) := by
                                    intro s_j288 x6j288 x7j288 H locs h hP hD hS ls hl
                                    unfold wj_Mo_kinds_288 at h
                                    refine lv_iinc (v := x7j288 + 1) (lv' := [(7, .int (x7j288 + 1)), (0, .ref (ad a0)), (6, .int x6j288)]) G.1 G.2.1 d_Mo_kinds_288 hl (k := 2) rfl rfl (by decide) rfl (fun ls hl => ?_)
                                    refine lv_goto (tgt := 160) G.1 G.2.1 d_Mo_kinds_291 (by decide) ?_
                                    have h := hK_160 s_j288 x6j288 (x7j288 + 1) h
                                    exact ih_160 s_j288 x6j288 (x7j288 + 1) (Nat.lt_of_lt_of_le h.2 (Nat.le_of_lt_succ hμ_160)) h.1 H locs hP hD hS ls (lv_sub hl [1, 2, 0] rfl)
                                  refine lv_if_eq (tgt := 288) G.1 G.2.1 d_Mo_kinds_237 (by decide) (fun c237 => ?_) (fun c237 => ?_)
                                  · skip
                                    have h := h.1 c237
                                    exact J_288 s_h230 x6h230 x7h230 H locs h hP hD hS ls (lv_sub hl [0, 1, 2] rfl)
                                  · skip
                                    have h := h.2 c237
                                    refine lv_iload G.1 G.2.1 d_Mo_kinds_240 (lv_at hl 3 rfl) ?_
                                    refine lv_aload_n G.1 G.2.1 d_Mo_kinds_242 rfl (lv_at hl 0 rfl) ?_
                                    refine ugf (v := .ref (yP y a0 98)) G hP h_a0 iMo rfl 98 (by decide) rfl q3162 rfl rfl d_Mo_kinds_243 ?_
                                    refine lv_iload G.1 G.2.1 d_Mo_kinds_246 (lv_at hl 2 rfl) ?_
                                    refine uiald G hP (kdp h_a0 rfl) (typ h_a0 rfl) h d_Mo_kinds_248 (fun x_23 h => ?_)
                                    refine lv_icmp_ge (tgt := 288) G.1 G.2.1 d_Mo_kinds_249 (by decide) (fun c249 => ?_) (fun c249 => ?_)
                                    · skip
                                      have h := h.1 c249
                                      exact J_288 s_h230 x6h230 x7h230 H locs h hP hD hS ls (lv_sub hl [0, 1, 2] rfl)
                                    · skip
                                      have h := h.2 c249
                                      refine W.eq (g2 := F0 m 252 ls []) rfl ?_
                                      refine lv_aload_n G.1 G.2.1 d_Mo_kinds_252 rfl (lv_at hl 0 rfl) ?_
                                      refine ugf (v := .ref (yP y a0 100)) G hP h_a0 iMo rfl 100 (by decide) rfl q3164 rfl rfl d_Mo_kinds_253 ?_
                                      refine lv_bipush (v := 28) G.1 G.2.1 d_Mo_kinds_256 (by decide) ?_
                                      refine lv_iload G.1 G.2.1 d_Mo_kinds_258 (lv_at hl 2 rfl) ?_
                                      refine lv_imul G.1 G.2.1 d_Mo_kinds_260 ?_
                                      refine lv_iload G.1 G.2.1 d_Mo_kinds_261 (lv_at hl 3 rfl) ?_
                                      refine lv_iadd G.1 G.2.1 d_Mo_kinds_263 ?_
                                      refine lv_aload_n G.1 G.2.1 d_Mo_kinds_264 rfl (lv_at hl 0 rfl) ?_
                                      refine lv_aload_n G.1 G.2.1 d_Mo_kinds_265 rfl (lv_at hl 0 rfl) ?_
                                      refine ugf (v := .ref (yP y a0 100)) G hP h_a0 iMo rfl 100 (by decide) rfl q3164 rfl rfl d_Mo_kinds_266 ?_
                                      refine lv_bipush (v := 28) G.1 G.2.1 d_Mo_kinds_269 (by decide) ?_
                                      refine lv_iload G.1 G.2.1 d_Mo_kinds_271 (lv_at hl 2 rfl) ?_
                                      refine W.eq (g2 := F0 m 273 ls [.int x7h230, .int 28, .ref (yP y a0 100), .ref (ad a0), .int ((28 * x7h230) + x8h230), .ref (yP y a0 100)]) rfl ?_
                                      refine lv_imul G.1 G.2.1 d_Mo_kinds_273 ?_
                                      refine lv_iload G.1 G.2.1 d_Mo_kinds_274 (lv_at hl 3 rfl) ?_
                                      refine lv_iadd G.1 G.2.1 d_Mo_kinds_276 ?_
                                      refine uiald G hP (kdp h_a0 rfl) (typ h_a0 rfl) h d_Mo_kinds_277 (fun x_24 h => ?_)
                                      refine ucVi (As := [.int x_24]) (rest := [.int ((28 * x7h230) + x8h230), .ref (yP y a0 100)]) G hP hD hS (cu_Mo_toldKind l D g ad y _ s_h230 a0 x_24 H.size h_a0 h) w9_Mo_toldKind q4145 ⟨Nat.le_of_ble_eq_true rfl, Nat.le_of_ble_eq_true rfl⟩ rfl rfl h_a0 (q := (RMo, TMo, 131)) rfl rfl hl.1 rfl (Nat.le_of_ble_eq_true rfl) rfl ⟨Nat.le_refl _, Nat.le_refl _⟩ d_Mo_kinds_278 (fun r_25 s_26 H locs h hP hD hS => ?_)
                                      refine uiast G hP hD hS (kdp h_a0 rfl) (typ h_a0 rfl) h d_Mo_kinds_281 (fun s_27 H locs h hP hD hS => ?_)
                                      refine lv_iinc (v := x8h230 + 1) (lv' := [(8, .int (x8h230 + 1)), (0, .ref (ad a0)), (6, .int x6h230), (7, .int x7h230)]) G.1 G.2.1 d_Mo_kinds_282 hl (k := 3) rfl rfl (by decide) rfl (fun ls hl => ?_)
                                      refine lv_goto (tgt := 230) G.1 G.2.1 d_Mo_kinds_285 (by decide) ?_
                                      have h := hK_230 s_27 x6h230 x7h230 (x8h230 + 1) h
                                      exact ih_230 s_27 x6h230 x7h230 (x8h230 + 1) (Nat.lt_of_lt_of_le h.2 (Nat.le_of_lt_succ hμ_230)) h.1 H locs hP hD hS ls (lv_sub hl [1, 2, 3, 0] rfl)
                              exact L_230 _ s_j227 x6j227 x7j227 0 (Nat.lt_succ_self _) hI_230 H locs hP hD hS ls (lv_sub hl [1, 2, 3, 0] rfl)
                            refine lv_icmp_ge (tgt := 227) G.1 G.2.1 d_Mo_kinds_178 (by decide) (fun c178 => ?_) (fun c178 => ?_)
                            · skip
                              have h := h.1 c178
                              exact J_227 s_h172 x6h172 x7h172 H locs h hP hD hS ls (lv_sub hl [0, 1, 2] rfl)
                            · skip
                              have h := h.2 c178
                              refine lv_aload_n G.1 G.2.1 d_Mo_kinds_181 rfl (lv_at hl 0 rfl) ?_
                              refine ugf (v := .ref (yP y a0 97)) G hP h_a0 iMo rfl 97 (by decide) rfl q3161 rfl rfl d_Mo_kinds_182 ?_
                              refine lv_iload G.1 G.2.1 d_Mo_kinds_185 (lv_at hl 2 rfl) ?_
                              refine uzald G hP (kdp h_a0 rfl) (typ h_a0 rfl) h d_Mo_kinds_187 (fun x_28 h => ?_)
                              refine lv_if_eq (tgt := 227) G.1 G.2.1 d_Mo_kinds_188 (by decide) (fun c188 => ?_) (fun c188 => ?_)
                              · skip
                                have h := h.1 c188
                                exact J_227 s_h172 x6h172 x7h172 H locs h hP hD hS ls (lv_sub hl [0, 1, 2] rfl)
                              · skip
                                have h := h.2 c188
                                refine lv_aload_n G.1 G.2.1 d_Mo_kinds_191 rfl (lv_at hl 0 rfl) ?_
                                refine ugf (v := .ref (yP y a0 99)) G hP h_a0 iMo rfl 99 (by decide) rfl q3163 rfl rfl d_Mo_kinds_192 ?_
                                refine W.eq (g2 := F0 m 195 ls [.ref (yP y a0 99)]) rfl ?_
                                refine lv_bipush (v := 20) G.1 G.2.1 d_Mo_kinds_195 (by decide) ?_
                                refine lv_iload G.1 G.2.1 d_Mo_kinds_197 (lv_at hl 2 rfl) ?_
                                refine lv_imul G.1 G.2.1 d_Mo_kinds_199 ?_
                                refine lv_iload G.1 G.2.1 d_Mo_kinds_200 (lv_at hl 3 rfl) ?_
                                refine lv_iadd G.1 G.2.1 d_Mo_kinds_202 ?_
                                refine lv_aload_n G.1 G.2.1 d_Mo_kinds_203 rfl (lv_at hl 0 rfl) ?_
                                refine lv_aload_n G.1 G.2.1 d_Mo_kinds_204 rfl (lv_at hl 0 rfl) ?_
                                refine ugf (v := .ref (yP y a0 99)) G hP h_a0 iMo rfl 99 (by decide) rfl q3163 rfl rfl d_Mo_kinds_205 ?_
                                refine lv_bipush (v := 20) G.1 G.2.1 d_Mo_kinds_208 (by decide) ?_
                                refine lv_iload G.1 G.2.1 d_Mo_kinds_210 (lv_at hl 2 rfl) ?_
                                refine lv_imul G.1 G.2.1 d_Mo_kinds_212 ?_
                                refine lv_iload G.1 G.2.1 d_Mo_kinds_213 (lv_at hl 3 rfl) ?_
                                refine W.eq (g2 := F0 m 215 ls [.int x8h172, .int (20 * x7h172), .ref (yP y a0 99), .ref (ad a0), .int ((20 * x7h172) + x8h172), .ref (yP y a0 99)]) rfl ?_
                                refine lv_iadd G.1 G.2.1 d_Mo_kinds_215 ?_
                                refine uiald G hP (kdp h_a0 rfl) (typ h_a0 rfl) h d_Mo_kinds_216 (fun x_29 h => ?_)
                                refine ucVi (As := [.int x_29]) (rest := [.int ((20 * x7h172) + x8h172), .ref (yP y a0 99)]) G hP hD hS (cu_Mo_toldKind l D g ad y _ s_h172 a0 x_29 H.size h_a0 h) w9_Mo_toldKind q4145 ⟨Nat.le_of_ble_eq_true rfl, Nat.le_of_ble_eq_true rfl⟩ rfl rfl h_a0 (q := (RMo, TMo, 131)) rfl rfl hl.1 rfl (Nat.le_of_ble_eq_true rfl) rfl ⟨Nat.le_refl _, Nat.le_refl _⟩ d_Mo_kinds_217 (fun r_30 s_31 H locs h hP hD hS => ?_)
                                refine uiast G hP hD hS (kdp h_a0 rfl) (typ h_a0 rfl) h d_Mo_kinds_220 (fun s_32 H locs h hP hD hS => ?_)
                                refine lv_iinc (v := x8h172 + 1) (lv' := [(8, .int (x8h172 + 1)), (0, .ref (ad a0)), (6, .int x6h172), (7, .int x7h172)]) G.1 G.2.1 d_Mo_kinds_221 hl (k := 3) rfl rfl (by decide) rfl (fun ls hl => ?_)
                                refine lv_goto (tgt := 172) G.1 G.2.1 d_Mo_kinds_224 (by decide) ?_
                                have h := hK_172 s_32 x6h172 x7h172 (x8h172 + 1) h
                                exact ih_172 s_32 x6h172 x7h172 (x8h172 + 1) (Nat.lt_of_lt_of_le h.2 (Nat.le_of_lt_succ hμ_172)) h.1 H locs hP hD hS ls (lv_sub hl [1, 2, 3, 0] rfl)
                        exact L_172 _ s_h160 x6h160 x7h160 0 (Nat.lt_succ_self _) hI_172 H locs hP hD hS ls (lv_sub hl [1, 2, 3, 0] rfl)
                  exact L_160 _ s_j157 x6j157 0 (Nat.lt_succ_self _) hI_160 H locs hP hD hS ls (lv_sub hl [1, 2, 0] rfl)
                refine lv_if_eq (tgt := 138) G.1 G.2.1 d_Mo_kinds_123 (by decide) (fun c123 => ?_) (fun c123 => ?_)
                · skip
                  have h := h.1 c123
                  refine lv_aload_n G.1 G.2.1 d_Mo_kinds_138 rfl (lv_at hl 0 rfl) ?_
                  refine lv_iconst (v := 1) G.1 G.2.1 d_Mo_kinds_139 (by decide) ?_
                  obtain ⟨n_33, h⟩ := h
                  refine upf G hP hD hS h 77 putV h_a0 iMo tMo tMo_ok nMo rfl (by decide) rfl q3141 rfl rfl fV (nb_n n_33) (nb_f n_33) d_Mo_kinds_140 (fun s_34 H locs h hP hD hS => ?_)
                  refine lv_aload_n G.1 G.2.1 d_Mo_kinds_143 rfl (lv_at hl 0 rfl) ?_
                  refine lv_iload_n G.1 G.2.1 d_Mo_kinds_144 rfl (lv_at hl 1 rfl) ?_
                  refine W.eq (g2 := F0 m 145 ls [.int x2h98, .ref (ad a0)]) rfl ?_
                  refine lv_iload G.1 G.2.1 d_Mo_kinds_145 (lv_at hl 3 rfl) ?_
                  refine ucVi (As := [.int x2h98, .int x5h98]) (rest := []) G hP hD hS (cu_Mo_check l D g ad y _ s_34 a0 x2h98 x5h98 H.size h_a0 h) w9_Mo_check q3701 ⟨Nat.le_of_ble_eq_true rfl, Nat.le_of_ble_eq_true rfl⟩ rfl rfl h_a0 (q := (RMo, TMo, 131)) rfl rfl hl.1 rfl (Nat.le_of_ble_eq_true rfl) rfl ⟨Nat.le_refl _, Nat.le_refl _⟩ d_Mo_kinds_147 (fun r_35 s_36 H locs h hP hD hS => ?_)
                  refine lv_istore (lv' := [(6, .int r_35), (0, .ref (ad a0)), (2, .int x2h98), (4, .int x4h98), (5, .int x5h98)]) G.1 G.2.1 d_Mo_kinds_150 hl (by decide) rfl (fun ls hl => ?_)
                  refine lv_aload_n G.1 G.2.1 d_Mo_kinds_152 rfl (lv_at hl 1 rfl) ?_
                  refine lv_iconst (v := 0) G.1 G.2.1 d_Mo_kinds_153 (by decide) ?_
                  obtain ⟨n_37, h⟩ := h
                  refine upf G hP hD hS h 77 putV h_a0 iMo tMo tMo_ok nMo rfl (by decide) rfl q3141 rfl rfl fV (nb_n n_37) (nb_f n_37) d_Mo_kinds_154 (fun s_38 H locs h hP hD hS => ?_)
                  exact J_157 s_38 r_35 H locs h hP hD hS ls (lv_sub hl [1, 0] rfl)
                · skip
                  have h := h.2 c123
                  refine lv_aload_n G.1 G.2.1 d_Mo_kinds_126 rfl (lv_at hl 0 rfl) ?_
                  refine lv_iload_n G.1 G.2.1 d_Mo_kinds_127 rfl (lv_at hl 1 rfl) ?_
                  refine lv_iload G.1 G.2.1 d_Mo_kinds_128 (lv_at hl 3 rfl) ?_
                  refine ucVi (As := [.int x2h98, .int x5h98]) (rest := []) G hP hD hS (cu_Mo_infer l D g ad y _ s_h98 a0 x2h98 x5h98 H.size h_a0 h) w9_Mo_infer q4121 ⟨Nat.le_of_ble_eq_true rfl, Nat.le_of_ble_eq_true rfl⟩ rfl rfl h_a0 (q := (RMo, TMo, 131)) rfl rfl hl.1 rfl (Nat.le_of_ble_eq_true rfl) rfl ⟨Nat.le_refl _, Nat.le_refl _⟩ d_Mo_kinds_130 (fun r_39 s_40 H locs h hP hD hS => ?_)
                  refine lv_istore (lv' := [(6, .int r_39), (0, .ref (ad a0)), (2, .int x2h98), (4, .int x4h98), (5, .int x5h98)]) G.1 G.2.1 d_Mo_kinds_133 hl (by decide) rfl (fun ls hl => ?_)
                  refine W.eq (g2 := F0 m 135 ls []) rfl ?_
                  refine lv_goto (tgt := 157) G.1 G.2.1 d_Mo_kinds_135 (by decide) ?_
                  exact J_157 s_40 r_39 H locs h hP hD hS ls (lv_sub hl [1, 0] rfl)
              · skip
                have h := h.2 c104
                refine lv_aload_n G.1 G.2.1 d_Mo_kinds_107 rfl (lv_at hl 0 rfl) ?_
                refine ugf (v := .ref (yP y a0 97)) G hP h_a0 iMo rfl 97 (by decide) rfl q3161 rfl rfl d_Mo_kinds_108 ?_
                refine lv_iload G.1 G.2.1 d_Mo_kinds_111 (lv_at hl 4 rfl) ?_
                refine lv_iconst (v := 0) G.1 G.2.1 d_Mo_kinds_113 (by decide) ?_
                refine uzast G hP hD hS (kdp h_a0 rfl) (typ h_a0 rfl) h d_Mo_kinds_114 (fun s_41 H locs h hP hD hS => ?_)
                refine lv_iinc (v := x6h98 + 1) (lv' := [(6, .int (x6h98 + 1)), (0, .ref (ad a0)), (2, .int x2h98), (4, .int x4h98), (5, .int x5h98)]) G.1 G.2.1 d_Mo_kinds_115 hl (k := 4) rfl rfl (by decide) rfl (fun ls hl => ?_)
                refine lv_goto (tgt := 98) G.1 G.2.1 d_Mo_kinds_118 (by decide) ?_
                have h := hK_98 s_41 x2h98 x4h98 x5h98 (x6h98 + 1) h
                exact ih_98 s_41 x2h98 x4h98 x5h98 (x6h98 + 1) (Nat.lt_of_lt_of_le h.2 (Nat.le_of_lt_succ hμ_98)) h.1 H locs hP hD hS ls (lv_sub hl [1, 2, 3, 4, 0] rfl)
          exact L_98 _ s_21 v2 v4 ((12 * v2) + v3) 0 (Nat.lt_succ_self _) hI_98 H locs hP hD hS ls (lv_sub hl [2, 4, 6, 1, 0] rfl)
        · skip
          have h := h.2 c44
          exact J_47 s_2 H locs h hP hD hS ls (lv_sub hl [] rfl)
