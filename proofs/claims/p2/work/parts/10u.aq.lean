def y_Mo_kind : MethodName := ⟨"ClassWorksModel", "kind", "(II)I"⟩
abbrev b_Mo_kind : ByteArray := prog_14_method_172_code
theorem d_Mo_kind_0 : decode b_Mo_kind 0 = .ok (.iload_n 1, 1) := by decide +kernel
theorem d_Mo_kind_1 : decode b_Mo_kind 1 = .ok (.ifCond .lt 31, 3) := by decide +kernel
theorem d_Mo_kind_4 : decode b_Mo_kind 4 = .ok (.iload_n 1, 1) := by decide +kernel
theorem d_Mo_kind_5 : decode b_Mo_kind 5 = .ok (.aload_n 0, 1) := by decide +kernel
theorem d_Mo_kind_6 : decode b_Mo_kind 6 = .ok (.getfield 1257, 3) := by decide +kernel
theorem d_Mo_kind_9 : decode b_Mo_kind 9 = .ok (.if_icmp .ge 23, 3) := by decide +kernel
theorem d_Mo_kind_12 : decode b_Mo_kind 12 = .ok (.aload_n 0, 1) := by decide +kernel
theorem d_Mo_kind_13 : decode b_Mo_kind 13 = .ok (.getfield 329, 3) := by decide +kernel
theorem d_Mo_kind_16 : decode b_Mo_kind 16 = .ok (.iload_n 1, 1) := by decide +kernel
theorem d_Mo_kind_17 : decode b_Mo_kind 17 = .ok (.baload, 1) := by decide +kernel
theorem d_Mo_kind_18 : decode b_Mo_kind 18 = .ok (.ifCond .eq 14, 3) := by decide +kernel
theorem d_Mo_kind_21 : decode b_Mo_kind 21 = .ok (.iload_n 2, 1) := by decide +kernel
theorem d_Mo_kind_22 : decode b_Mo_kind 22 = .ok (.iconst (-1), 1) := by decide +kernel
theorem d_Mo_kind_23 : decode b_Mo_kind 23 = .ok (.if_icmp .lt 9, 3) := by decide +kernel
theorem d_Mo_kind_26 : decode b_Mo_kind 26 = .ok (.iload_n 2, 1) := by decide +kernel
theorem d_Mo_kind_27 : decode b_Mo_kind 27 = .ok (.bipush 40, 2) := by decide +kernel
theorem d_Mo_kind_29 : decode b_Mo_kind 29 = .ok (.if_icmp .lt 5, 3) := by decide +kernel
theorem d_Mo_kind_32 : decode b_Mo_kind 32 = .ok (.iconst (-1), 1) := by decide +kernel
theorem d_Mo_kind_33 : decode b_Mo_kind 33 = .ok (.ireturn, 1) := by decide +kernel
theorem d_Mo_kind_34 : decode b_Mo_kind 34 = .ok (.iload_n 2, 1) := by decide +kernel
theorem d_Mo_kind_35 : decode b_Mo_kind 35 = .ok (.ifCond .ge 10, 3) := by decide +kernel
theorem d_Mo_kind_38 : decode b_Mo_kind 38 = .ok (.aload_n 0, 1) := by decide +kernel
theorem d_Mo_kind_39 : decode b_Mo_kind 39 = .ok (.getfield 332, 3) := by decide +kernel
theorem d_Mo_kind_42 : decode b_Mo_kind 42 = .ok (.iload_n 1, 1) := by decide +kernel
theorem d_Mo_kind_43 : decode b_Mo_kind 43 = .ok (.iaload, 1) := by decide +kernel
theorem d_Mo_kind_44 : decode b_Mo_kind 44 = .ok (.ireturn, 1) := by decide +kernel
theorem d_Mo_kind_45 : decode b_Mo_kind 45 = .ok (.iload_n 2, 1) := by decide +kernel
theorem d_Mo_kind_46 : decode b_Mo_kind 46 = .ok (.bipush 20, 2) := by decide +kernel
theorem d_Mo_kind_48 : decode b_Mo_kind 48 = .ok (.if_icmp .ge 27, 3) := by decide +kernel
theorem d_Mo_kind_51 : decode b_Mo_kind 51 = .ok (.iload_n 2, 1) := by decide +kernel
theorem d_Mo_kind_52 : decode b_Mo_kind 52 = .ok (.aload_n 0, 1) := by decide +kernel
theorem d_Mo_kind_53 : decode b_Mo_kind 53 = .ok (.getfield 1254, 3) := by decide +kernel
theorem d_Mo_kind_56 : decode b_Mo_kind 56 = .ok (.if_icmp .ge 17, 3) := by decide +kernel
theorem d_Mo_kind_59 : decode b_Mo_kind 59 = .ok (.aload_n 0, 1) := by decide +kernel
theorem d_Mo_kind_60 : decode b_Mo_kind 60 = .ok (.getfield 335, 3) := by decide +kernel
theorem d_Mo_kind_63 : decode b_Mo_kind 63 = .ok (.bipush 20, 2) := by decide +kernel
theorem d_Mo_kind_65 : decode b_Mo_kind 65 = .ok (.iload_n 1, 1) := by decide +kernel
theorem d_Mo_kind_66 : decode b_Mo_kind 66 = .ok (.imul, 1) := by decide +kernel
theorem d_Mo_kind_67 : decode b_Mo_kind 67 = .ok (.iload_n 2, 1) := by decide +kernel
theorem d_Mo_kind_68 : decode b_Mo_kind 68 = .ok (.iadd, 1) := by decide +kernel
theorem d_Mo_kind_69 : decode b_Mo_kind 69 = .ok (.iaload, 1) := by decide +kernel
theorem d_Mo_kind_70 : decode b_Mo_kind 70 = .ok (.goto 4, 3) := by decide +kernel
theorem d_Mo_kind_73 : decode b_Mo_kind 73 = .ok (.iconst (-1), 1) := by decide +kernel
theorem d_Mo_kind_74 : decode b_Mo_kind 74 = .ok (.ireturn, 1) := by decide +kernel
theorem d_Mo_kind_75 : decode b_Mo_kind 75 = .ok (.iload_n 2, 1) := by decide +kernel
theorem d_Mo_kind_76 : decode b_Mo_kind 76 = .ok (.bipush 20, 2) := by decide +kernel
theorem d_Mo_kind_78 : decode b_Mo_kind 78 = .ok (.isub, 1) := by decide +kernel
theorem d_Mo_kind_79 : decode b_Mo_kind 79 = .ok (.aload_n 0, 1) := by decide +kernel
theorem d_Mo_kind_80 : decode b_Mo_kind 80 = .ok (.getfield 332, 3) := by decide +kernel
theorem d_Mo_kind_83 : decode b_Mo_kind 83 = .ok (.iload_n 1, 1) := by decide +kernel
theorem d_Mo_kind_84 : decode b_Mo_kind 84 = .ok (.iaload, 1) := by decide +kernel
theorem d_Mo_kind_85 : decode b_Mo_kind 85 = .ok (.if_icmp .ge 20, 3) := by decide +kernel
theorem d_Mo_kind_88 : decode b_Mo_kind 88 = .ok (.aload_n 0, 1) := by decide +kernel
theorem d_Mo_kind_89 : decode b_Mo_kind 89 = .ok (.getfield 338, 3) := by decide +kernel
theorem d_Mo_kind_92 : decode b_Mo_kind 92 = .ok (.bipush 28, 2) := by decide +kernel
theorem d_Mo_kind_94 : decode b_Mo_kind 94 = .ok (.iload_n 1, 1) := by decide +kernel
theorem d_Mo_kind_95 : decode b_Mo_kind 95 = .ok (.imul, 1) := by decide +kernel
theorem d_Mo_kind_96 : decode b_Mo_kind 96 = .ok (.iload_n 2, 1) := by decide +kernel
theorem d_Mo_kind_97 : decode b_Mo_kind 97 = .ok (.iadd, 1) := by decide +kernel
theorem d_Mo_kind_98 : decode b_Mo_kind 98 = .ok (.bipush 20, 2) := by decide +kernel
theorem d_Mo_kind_100 : decode b_Mo_kind 100 = .ok (.isub, 1) := by decide +kernel
theorem d_Mo_kind_101 : decode b_Mo_kind 101 = .ok (.iaload, 1) := by decide +kernel
theorem d_Mo_kind_102 : decode b_Mo_kind 102 = .ok (.goto 4, 3) := by decide +kernel
theorem d_Mo_kind_105 : decode b_Mo_kind 105 = .ok (.iconst (-1), 1) := by decide +kernel
theorem d_Mo_kind_106 : decode b_Mo_kind 106 = .ok (.ireturn, 1) := by decide +kernel
abbrev ru_Mo_kind : Room := { frames := 0, cells := 0, slots := 0, locals := 0 }
def wj_Mo_kind_32 (y : Ly) (Post : St → Int32 → Prop) (a0 : Nat) (s_j32 : St) : Prop := Post s_j32 (-1)
def wj_Mo_kind_106 (y : Ly) (Post : St → Int32 → Prop) (a0 : Nat) (s_j106 : St) (z0j106 : Int32) : Prop := Post s_j106 z0j106
def wj_Mo_kind_74 (y : Ly) (Post : St → Int32 → Prop) (a0 : Nat) (s_j74 : St) (z0j74 : Int32) : Prop := Post s_j74 z0j74
def wu_Mo_kind (y : Ly) (Post : St → Int32 → Prop) (σ : St) (a0 : Nat) (v1 : Int32) (v2 : Int32) : Prop := ((v1 < 0 → wj_Mo_kind_32 y Post a0 σ) ∧ (¬ (v1 < 0) → (((sV σ a0 101) ≤ v1 → wj_Mo_kind_32 y Post a0 σ) ∧ (¬ ((sV σ a0 101) ≤ v1) → xA y σ a0 97 v1 (fun x_1 : Int32 => ((x_1 = 0 → wj_Mo_kind_32 y Post a0 σ) ∧ (¬ (x_1 = 0) → ((v2 < (-1) → wj_Mo_kind_32 y Post a0 σ) ∧ (¬ (v2 < (-1)) → ((v2 < 40 → ((0 ≤ v2 → ((20 ≤ v2 → xA y σ a0 98 v1 (fun x_2 : Int32 => ((x_2 ≤ (v2 - 20) → wj_Mo_kind_106 y Post a0 σ (-1)) ∧ (¬ (x_2 ≤ (v2 - 20)) → xA y σ a0 100 (((28 * v1) + v2) - 20) (fun x_3 : Int32 => wj_Mo_kind_106 y Post a0 σ x_3))))) ∧ (¬ (20 ≤ v2) → (((sV σ a0 102) ≤ v2 → wj_Mo_kind_74 y Post a0 σ (-1)) ∧ (¬ ((sV σ a0 102) ≤ v2) → xA y σ a0 99 ((20 * v1) + v2) (fun x_4 : Int32 => wj_Mo_kind_74 y Post a0 σ x_4)))))) ∧ (¬ (0 ≤ v2) → xA y σ a0 98 v1 (fun x_5 : Int32 => Post σ x_5)))) ∧ (¬ (v2 < 40) → wj_Mo_kind_32 y Post a0 σ)))))))))))
set_option maxHeartbeats 4000000 in
set_option maxRecDepth 100000 in
theorem cu_Mo_kind (l : Launch) (D : va_G) (g : Nat → ClassId) (ad : Nat → Nat) (y : Ly) (Post : St → Int32 → Prop) (σ : St) (a0 : Nat) (v1 : Int32) (v2 : Int32) (sz : Nat) (h_a0 : cl a0 = 14) (h : wu_Mo_kind y Post σ a0 v1 v2) : Met l y_Mo_kind (mw y_Mo_kind b_Mo_kind 3 (some .int)) ru_Mo_kind (PC g D [] [.ref (ad a0), .int v1, .int v2] sz (ws g ad y σ)) (va_Qi (fun (r : Int32) (u : St) => Post u r) (QW D (va_A (ws g ad y σ) sz) (fun u => ws g ad y u)) (va_A (ws g ad y σ) sz)) 0 0 (va_A (ws g ad y σ) sz) := by
  refine ofI (by decide +kernel) (Nat.le_of_ble_eq_true rfl) ?_
  intro p e s m args below meth c A Q ls H locs G hsz hP hD hS hl hret
  subst hsz
  have hl : lv_has ls 3 [(0, .ref (ad a0)), (1, .int v1), (2, .int v2)] := hl
  unfold wu_Mo_kind at h
  refine lv_iload_n G.1 G.2.1 d_Mo_kind_0 rfl (lv_at hl 1 rfl) ?_
  have J_32 : ∀ (s_j32 : St) (H : Heap) (locs : List Loc), wj_Mo_kind_32 y Post a0 s_j32 → va_P D CL (ws g ad y s_j32) H → va_D A (ws g ad y s_j32) → va_S A s.heap H locs → ∀ ls, lv_has ls 3 [] → W p l e ru_Mo_kind s m args below meth c H locs 0 0 Q (F0 m 32 ls []) := by
    intro s_j32 H locs h hP hD hS ls hl
    unfold wj_Mo_kind_32 at h
    refine lv_iconst (v := (-1)) G.1 G.2.1 d_Mo_kind_32 (by decide) ?_
    exact hret _ _ _ _ _ _ _ ls h hP hD hS (Nat.le_refl _) (Nat.le_refl _) d_Mo_kind_33
  refine lv_if_lt (tgt := 32) G.1 G.2.1 d_Mo_kind_1 (by decide) (fun c1 => ?_) (fun c1 => ?_)
  · skip
    have h := h.1 c1
    exact J_32 σ H locs h hP hD hS ls (lv_sub hl [] rfl)
  · skip
    have h := h.2 c1
    refine lv_iload_n G.1 G.2.1 d_Mo_kind_4 rfl (lv_at hl 1 rfl) ?_
    refine lv_aload_n G.1 G.2.1 d_Mo_kind_5 rfl (lv_at hl 0 rfl) ?_
    refine ugf (v := .int (sV σ a0 101)) G hP h_a0 iMo rfl 101 (by decide) rfl q3165 rfl rfl d_Mo_kind_6 ?_
    refine lv_icmp_ge (tgt := 32) G.1 G.2.1 d_Mo_kind_9 (by decide) (fun c9 => ?_) (fun c9 => ?_)
    · skip
      have h := h.1 c9
      exact J_32 σ H locs h hP hD hS ls (lv_sub hl [] rfl)
    · skip
      have h := h.2 c9
      refine lv_aload_n G.1 G.2.1 d_Mo_kind_12 rfl (lv_at hl 0 rfl) ?_
      refine ugf (v := .ref (yP y a0 97)) G hP h_a0 iMo rfl 97 (by decide) rfl q3161 rfl rfl d_Mo_kind_13 ?_
      refine lv_iload_n G.1 G.2.1 d_Mo_kind_16 rfl (lv_at hl 1 rfl) ?_
      refine uzald G hP (kdp h_a0 rfl) (typ h_a0 rfl) h d_Mo_kind_17 (fun x_1 h => ?_)
      refine lv_if_eq (tgt := 32) G.1 G.2.1 d_Mo_kind_18 (by decide) (fun c18 => ?_) (fun c18 => ?_)
      · skip
        have h := h.1 c18
        exact J_32 σ H locs h hP hD hS ls (lv_sub hl [] rfl)
      · skip
        have h := h.2 c18
        refine W.eq (g2 := F0 m 21 ls []) rfl ?_
        refine lv_iload_n G.1 G.2.1 d_Mo_kind_21 rfl (lv_at hl 2 rfl) ?_
        refine lv_iconst (v := (-1)) G.1 G.2.1 d_Mo_kind_22 (by decide) ?_
        refine lv_icmp_lt (tgt := 32) G.1 G.2.1 d_Mo_kind_23 (by decide) (fun c23 => ?_) (fun c23 => ?_)
        · skip
          have h := h.1 c23
          exact J_32 σ H locs h hP hD hS ls (lv_sub hl [] rfl)
        · skip
          have h := h.2 c23
          refine lv_iload_n G.1 G.2.1 d_Mo_kind_26 rfl (lv_at hl 2 rfl) ?_
          refine lv_bipush (v := 40) G.1 G.2.1 d_Mo_kind_27 (by decide) ?_
          refine lv_icmp_lt (tgt := 34) G.1 G.2.1 d_Mo_kind_29 (by decide) (fun c29 => ?_) (fun c29 => ?_)
          · skip
            have h := h.1 c29
            refine lv_iload_n G.1 G.2.1 d_Mo_kind_34 rfl (lv_at hl 2 rfl) ?_
            refine lv_if_ge (tgt := 45) G.1 G.2.1 d_Mo_kind_35 (by decide) (fun c35 => ?_) (fun c35 => ?_)
            · skip
              have h := h.1 c35
              refine lv_iload_n G.1 G.2.1 d_Mo_kind_45 rfl (lv_at hl 2 rfl) ?_
              refine lv_bipush (v := 20) G.1 G.2.1 d_Mo_kind_46 (by decide) ?_
              refine lv_icmp_ge (tgt := 75) G.1 G.2.1 d_Mo_kind_48 (by decide) (fun c48 => ?_) (fun c48 => ?_)
              · skip
                have h := h.1 c48
                refine lv_iload_n G.1 G.2.1 d_Mo_kind_75 rfl (lv_at hl 2 rfl) ?_
                refine W.eq (g2 := F0 m 76 ls [.int v2]) rfl ?_
                refine lv_bipush (v := 20) G.1 G.2.1 d_Mo_kind_76 (by decide) ?_
                refine lv_isub G.1 G.2.1 d_Mo_kind_78 ?_
                refine lv_aload_n G.1 G.2.1 d_Mo_kind_79 rfl (lv_at hl 0 rfl) ?_
                refine ugf (v := .ref (yP y a0 98)) G hP h_a0 iMo rfl 98 (by decide) rfl q3162 rfl rfl d_Mo_kind_80 ?_
                refine lv_iload_n G.1 G.2.1 d_Mo_kind_83 rfl (lv_at hl 1 rfl) ?_
                refine uiald G hP (kdp h_a0 rfl) (typ h_a0 rfl) h d_Mo_kind_84 (fun x_2 h => ?_)
                have J_106 : ∀ (s_j106 : St) (z0j106 : Int32) (H : Heap) (locs : List Loc), wj_Mo_kind_106 y Post a0 s_j106 z0j106 → va_P D CL (ws g ad y s_j106) H → va_D A (ws g ad y s_j106) → va_S A s.heap H locs → ∀ ls, lv_has ls 3 [] → W p l e ru_Mo_kind s m args below meth c H locs 0 0 Q (F0 m 106 ls [.int z0j106]) := by
                  intro s_j106 z0j106 H locs h hP hD hS ls hl
                  unfold wj_Mo_kind_106 at h
                  exact hret _ _ _ _ _ _ _ ls h hP hD hS (Nat.le_refl _) (Nat.le_refl _) d_Mo_kind_106
                refine lv_icmp_ge (tgt := 105) G.1 G.2.1 d_Mo_kind_85 (by decide) (fun c85 => ?_) (fun c85 => ?_)
                · skip
                  have h := h.1 c85
                  refine lv_iconst (v := (-1)) G.1 G.2.1 d_Mo_kind_105 (by decide) ?_
                  exact J_106 σ (-1) H locs h hP hD hS ls (lv_sub hl [] rfl)
                · skip
                  have h := h.2 c85
                  refine lv_aload_n G.1 G.2.1 d_Mo_kind_88 rfl (lv_at hl 0 rfl) ?_
                  refine ugf (v := .ref (yP y a0 100)) G hP h_a0 iMo rfl 100 (by decide) rfl q3164 rfl rfl d_Mo_kind_89 ?_
                  refine lv_bipush (v := 28) G.1 G.2.1 d_Mo_kind_92 (by decide) ?_
                  refine lv_iload_n G.1 G.2.1 d_Mo_kind_94 rfl (lv_at hl 1 rfl) ?_
                  refine lv_imul G.1 G.2.1 d_Mo_kind_95 ?_
                  refine W.eq (g2 := F0 m 96 ls [.int (28 * v1), .ref (yP y a0 100)]) rfl ?_
                  refine lv_iload_n G.1 G.2.1 d_Mo_kind_96 rfl (lv_at hl 2 rfl) ?_
                  refine lv_iadd G.1 G.2.1 d_Mo_kind_97 ?_
                  refine lv_bipush (v := 20) G.1 G.2.1 d_Mo_kind_98 (by decide) ?_
                  refine lv_isub G.1 G.2.1 d_Mo_kind_100 ?_
                  refine uiald G hP (kdp h_a0 rfl) (typ h_a0 rfl) h d_Mo_kind_101 (fun x_3 h => ?_)
                  refine lv_goto (tgt := 106) G.1 G.2.1 d_Mo_kind_102 (by decide) ?_
                  exact J_106 σ x_3 H locs h hP hD hS ls (lv_sub hl [] rfl)
              · skip
                have h := h.2 c48
                refine lv_iload_n G.1 G.2.1 d_Mo_kind_51 rfl (lv_at hl 2 rfl) ?_
                refine W.eq (g2 := F0 m 52 ls [.int v2]) rfl ?_
                refine lv_aload_n G.1 G.2.1 d_Mo_kind_52 rfl (lv_at hl 0 rfl) ?_
                refine ugf (v := .int (sV σ a0 102)) G hP h_a0 iMo rfl 102 (by decide) rfl q3166 rfl rfl d_Mo_kind_53 ?_
                have J_74 : ∀ (s_j74 : St) (z0j74 : Int32) (H : Heap) (locs : List Loc), wj_Mo_kind_74 y Post a0 s_j74 z0j74 → va_P D CL (ws g ad y s_j74) H → va_D A (ws g ad y s_j74) → va_S A s.heap H locs → ∀ ls, lv_has ls 3 [] → W p l e ru_Mo_kind s m args below meth c H locs 0 0 Q (F0 m 74 ls [.int z0j74]) := by
                  intro s_j74 z0j74 H locs h hP hD hS ls hl
                  unfold wj_Mo_kind_74 at h
                  exact hret _ _ _ _ _ _ _ ls h hP hD hS (Nat.le_refl _) (Nat.le_refl _) d_Mo_kind_74
                refine lv_icmp_ge (tgt := 73) G.1 G.2.1 d_Mo_kind_56 (by decide) (fun c56 => ?_) (fun c56 => ?_)
                · skip
                  have h := h.1 c56
                  refine lv_iconst (v := (-1)) G.1 G.2.1 d_Mo_kind_73 (by decide) ?_
                  exact J_74 σ (-1) H locs h hP hD hS ls (lv_sub hl [] rfl)
                · skip
                  have h := h.2 c56
                  refine lv_aload_n G.1 G.2.1 d_Mo_kind_59 rfl (lv_at hl 0 rfl) ?_
                  refine ugf (v := .ref (yP y a0 99)) G hP h_a0 iMo rfl 99 (by decide) rfl q3163 rfl rfl d_Mo_kind_60 ?_
                  refine lv_bipush (v := 20) G.1 G.2.1 d_Mo_kind_63 (by decide) ?_
                  refine lv_iload_n G.1 G.2.1 d_Mo_kind_65 rfl (lv_at hl 1 rfl) ?_
                  refine lv_imul G.1 G.2.1 d_Mo_kind_66 ?_
                  refine lv_iload_n G.1 G.2.1 d_Mo_kind_67 rfl (lv_at hl 2 rfl) ?_
                  refine lv_iadd G.1 G.2.1 d_Mo_kind_68 ?_
                  refine uiald G hP (kdp h_a0 rfl) (typ h_a0 rfl) h d_Mo_kind_69 (fun x_4 h => ?_)
                  refine lv_goto (tgt := 74) G.1 G.2.1 d_Mo_kind_70 (by decide) ?_
                  exact J_74 σ x_4 H locs h hP hD hS ls (lv_sub hl [] rfl)
            · skip
              have h := h.2 c35
              refine lv_aload_n G.1 G.2.1 d_Mo_kind_38 rfl (lv_at hl 0 rfl) ?_
              refine ugf (v := .ref (yP y a0 98)) G hP h_a0 iMo rfl 98 (by decide) rfl q3162 rfl rfl d_Mo_kind_39 ?_
              refine lv_iload_n G.1 G.2.1 d_Mo_kind_42 rfl (lv_at hl 1 rfl) ?_
              refine uiald G hP (kdp h_a0 rfl) (typ h_a0 rfl) h d_Mo_kind_43 (fun x_5 h => ?_)
              refine W.eq (g2 := F0 m 44 ls [.int x_5]) rfl ?_
              exact hret _ _ _ _ _ _ _ ls h hP hD hS (Nat.le_refl _) (Nat.le_refl _) d_Mo_kind_44
          · skip
            have h := h.2 c29
            exact J_32 σ H locs h hP hD hS ls (lv_sub hl [] rfl)
def y_Mo_addReached : MethodName := ⟨"ClassWorksModel", "addReached", "(I)V"⟩
abbrev b_Mo_addReached : ByteArray := prog_14_method_182_code
theorem q3172 : Cond.fieldLink "ClassWorksModel" 353 "ClassWorksModel" "reachedSeen" "[Z" ∈ lw_ok := lw_okmem (List.mem_of_getElem? (i := 3172) (by decide +kernel)) rfl
theorem q3171 : Cond.fieldLink "ClassWorksModel" 350 "ClassWorksModel" "reachedMethods" "[I" ∈ lw_ok := lw_okmem (List.mem_of_getElem? (i := 3171) (by decide +kernel)) rfl
theorem q3173 : Cond.fieldLink "ClassWorksModel" 1288 "ClassWorksModel" "reachedCount" "I" ∈ lw_ok := lw_okmem (List.mem_of_getElem? (i := 3173) (by decide +kernel)) rfl
theorem d_Mo_addReached_0 : decode b_Mo_addReached 0 = .ok (.iload_n 1, 1) := by decide +kernel
theorem d_Mo_addReached_1 : decode b_Mo_addReached 1 = .ok (.bipush 12, 2) := by decide +kernel
theorem d_Mo_addReached_3 : decode b_Mo_addReached 3 = .ok (.idiv, 1) := by decide +kernel
theorem d_Mo_addReached_4 : decode b_Mo_addReached 4 = .ok (.bipush 21, 2) := by decide +kernel
theorem d_Mo_addReached_6 : decode b_Mo_addReached 6 = .ok (.if_icmp .lt 39, 3) := by decide +kernel
theorem d_Mo_addReached_9 : decode b_Mo_addReached 9 = .ok (.aload_n 0, 1) := by decide +kernel
theorem d_Mo_addReached_10 : decode b_Mo_addReached 10 = .ok (.getfield 353, 3) := by decide +kernel
theorem d_Mo_addReached_13 : decode b_Mo_addReached 13 = .ok (.iload_n 1, 1) := by decide +kernel
theorem d_Mo_addReached_14 : decode b_Mo_addReached 14 = .ok (.baload, 1) := by decide +kernel
theorem d_Mo_addReached_15 : decode b_Mo_addReached 15 = .ok (.ifCond .ne 30, 3) := by decide +kernel
theorem d_Mo_addReached_18 : decode b_Mo_addReached 18 = .ok (.aload_n 0, 1) := by decide +kernel
theorem d_Mo_addReached_19 : decode b_Mo_addReached 19 = .ok (.getfield 353, 3) := by decide +kernel
theorem d_Mo_addReached_22 : decode b_Mo_addReached 22 = .ok (.iload_n 1, 1) := by decide +kernel
theorem d_Mo_addReached_23 : decode b_Mo_addReached 23 = .ok (.iconst 1, 1) := by decide +kernel
theorem d_Mo_addReached_24 : decode b_Mo_addReached 24 = .ok (.bastore, 1) := by decide +kernel
theorem d_Mo_addReached_25 : decode b_Mo_addReached 25 = .ok (.aload_n 0, 1) := by decide +kernel
theorem d_Mo_addReached_26 : decode b_Mo_addReached 26 = .ok (.getfield 350, 3) := by decide +kernel
theorem d_Mo_addReached_29 : decode b_Mo_addReached 29 = .ok (.aload_n 0, 1) := by decide +kernel
theorem d_Mo_addReached_30 : decode b_Mo_addReached 30 = .ok (.getfield 1288, 3) := by decide +kernel
theorem d_Mo_addReached_33 : decode b_Mo_addReached 33 = .ok (.iload_n 1, 1) := by decide +kernel
theorem d_Mo_addReached_34 : decode b_Mo_addReached 34 = .ok (.iastore, 1) := by decide +kernel
theorem d_Mo_addReached_35 : decode b_Mo_addReached 35 = .ok (.aload_n 0, 1) := by decide +kernel
theorem d_Mo_addReached_36 : decode b_Mo_addReached 36 = .ok (.dup, 1) := by decide +kernel
theorem d_Mo_addReached_37 : decode b_Mo_addReached 37 = .ok (.getfield 1288, 3) := by decide +kernel
theorem d_Mo_addReached_40 : decode b_Mo_addReached 40 = .ok (.iconst 1, 1) := by decide +kernel
theorem d_Mo_addReached_41 : decode b_Mo_addReached 41 = .ok (.iadd, 1) := by decide +kernel
theorem d_Mo_addReached_42 : decode b_Mo_addReached 42 = .ok (.putfield 1288, 3) := by decide +kernel
theorem d_Mo_addReached_45 : decode b_Mo_addReached 45 = .ok (.return_, 1) := by decide +kernel
abbrev ru_Mo_addReached : Room := { frames := 0, cells := 0, slots := 0, locals := 0 }
def wj_Mo_addReached_45 (y : Ly) (Post : St → Prop) (a0 : Nat) (s_j45 : St) : Prop := Post s_j45
def wu_Mo_addReached (y : Ly) (Post : St → Prop) (σ : St) (a0 : Nat) (v1 : Int32) : Prop := (((v1 / 12) < 21 → wj_Mo_addReached_45 y Post a0 σ) ∧ (¬ ((v1 / 12) < 21) → xA y σ a0 108 v1 (fun x_1 : Int32 => ((¬ x_1 = 0 → wj_Mo_addReached_45 y Post a0 σ) ∧ (x_1 = 0 → xS y σ a0 108 v1 (vp_nar .boolean 1) (fun s_2 : St => xS y s_2 a0 107 (sV s_2 a0 109) v1 (fun s_3 : St => xP (uV s_3 a0 109 ((sV s_3 a0 109) + 1)) (fun s_4 : St => wj_Mo_addReached_45 y Post a0 s_4))))))))
set_option maxHeartbeats 4000000 in
set_option maxRecDepth 100000 in
theorem cu_Mo_addReached (l : Launch) (D : va_G) (g : Nat → ClassId) (ad : Nat → Nat) (y : Ly) (Post : St → Prop) (σ : St) (a0 : Nat) (v1 : Int32) (sz : Nat) (h_a0 : cl a0 = 14) (h : wu_Mo_addReached y Post σ a0 v1) : Met l y_Mo_addReached (mw y_Mo_addReached b_Mo_addReached 2 (none)) ru_Mo_addReached (PC g D [] [.ref (ad a0), .int v1] sz (ws g ad y σ)) (va_Qv (fun u : St => Post u) (QW D (va_A (ws g ad y σ) sz) (fun u => ws g ad y u)) (va_A (ws g ad y σ) sz)) 0 0 (va_A (ws g ad y σ) sz) := by
  refine ofV (by decide +kernel) (Nat.le_of_ble_eq_true rfl) ?_
  intro p e s m args below meth c A Q ls H locs G hsz hP hD hS hl hret
  subst hsz
  have hl : lv_has ls 2 [(0, .ref (ad a0)), (1, .int v1)] := hl
  unfold wu_Mo_addReached at h
  refine lv_iload_n G.1 G.2.1 d_Mo_addReached_0 rfl (lv_at hl 1 rfl) ?_
  refine lv_bipush (v := 12) G.1 G.2.1 d_Mo_addReached_1 (by decide) ?_
  refine lv_idiv G.1 G.2.1 d_Mo_addReached_3 (by decide) ?_
  refine lv_bipush (v := 21) G.1 G.2.1 d_Mo_addReached_4 (by decide) ?_
  have J_45 : ∀ (s_j45 : St) (H : Heap) (locs : List Loc), wj_Mo_addReached_45 y Post a0 s_j45 → va_P D CL (ws g ad y s_j45) H → va_D A (ws g ad y s_j45) → va_S A s.heap H locs → ∀ ls, lv_has ls 2 [] → W p l e ru_Mo_addReached s m args below meth c H locs 0 0 Q (F0 m 45 ls []) := by
    intro s_j45 H locs h hP hD hS ls hl
    unfold wj_Mo_addReached_45 at h
    exact hret _ _ _ _ _ _ ls h hP hD hS (Nat.le_refl _) (Nat.le_refl _) d_Mo_addReached_45
  refine lv_icmp_lt (tgt := 45) G.1 G.2.1 d_Mo_addReached_6 (by decide) (fun c6 => ?_) (fun c6 => ?_)
  · skip
    have h := h.1 c6
    exact J_45 σ H locs h hP hD hS ls (lv_sub hl [] rfl)
  · skip
    have h := h.2 c6
    refine lv_aload_n G.1 G.2.1 d_Mo_addReached_9 rfl (lv_at hl 0 rfl) ?_
    refine ugf (v := .ref (yP y a0 108)) G hP h_a0 iMo rfl 108 (by decide) rfl q3172 rfl rfl d_Mo_addReached_10 ?_
    refine lv_iload_n G.1 G.2.1 d_Mo_addReached_13 rfl (lv_at hl 1 rfl) ?_
    refine uzald G hP (kdp h_a0 rfl) (typ h_a0 rfl) h d_Mo_addReached_14 (fun x_1 h => ?_)
    refine lv_if_ne (tgt := 45) G.1 G.2.1 d_Mo_addReached_15 (by decide) (fun c15 => ?_) (fun c15 => ?_)
    · skip
      have h := h.1 c15
      exact J_45 σ H locs h hP hD hS ls (lv_sub hl [] rfl)
    · skip
      have h := h.2 c15
      refine lv_aload_n G.1 G.2.1 d_Mo_addReached_18 rfl (lv_at hl 0 rfl) ?_
      refine W.eq (g2 := F0 m 19 ls [.ref (ad a0)]) rfl ?_
      refine ugf (v := .ref (yP y a0 108)) G hP h_a0 iMo rfl 108 (by decide) rfl q3172 rfl rfl d_Mo_addReached_19 ?_
      refine lv_iload_n G.1 G.2.1 d_Mo_addReached_22 rfl (lv_at hl 1 rfl) ?_
      refine lv_iconst (v := 1) G.1 G.2.1 d_Mo_addReached_23 (by decide) ?_
      refine uzast G hP hD hS (kdp h_a0 rfl) (typ h_a0 rfl) h d_Mo_addReached_24 (fun s_2 H locs h hP hD hS => ?_)
      refine lv_aload_n G.1 G.2.1 d_Mo_addReached_25 rfl (lv_at hl 0 rfl) ?_
      refine ugf (v := .ref (yP y a0 107)) G hP h_a0 iMo rfl 107 (by decide) rfl q3171 rfl rfl d_Mo_addReached_26 ?_
      refine lv_aload_n G.1 G.2.1 d_Mo_addReached_29 rfl (lv_at hl 0 rfl) ?_
      refine ugf (v := .int (sV s_2 a0 109)) G hP h_a0 iMo rfl 109 (by decide) rfl q3173 rfl rfl d_Mo_addReached_30 ?_
      refine lv_iload_n G.1 G.2.1 d_Mo_addReached_33 rfl (lv_at hl 1 rfl) ?_
      refine uiast G hP hD hS (kdp h_a0 rfl) (typ h_a0 rfl) h d_Mo_addReached_34 (fun s_3 H locs h hP hD hS => ?_)
      refine lv_aload_n G.1 G.2.1 d_Mo_addReached_35 rfl (lv_at hl 0 rfl) ?_
      refine lv_dup G.1 G.2.1 d_Mo_addReached_36 rfl ?_
      refine W.eq (g2 := F0 m 37 ls [.ref (ad a0), .ref (ad a0)]) rfl ?_
      refine ugf (v := .int (sV s_3 a0 109)) G hP h_a0 iMo rfl 109 (by decide) rfl q3173 rfl rfl d_Mo_addReached_37 ?_
      refine lv_iconst (v := 1) G.1 G.2.1 d_Mo_addReached_40 (by decide) ?_
      refine lv_iadd G.1 G.2.1 d_Mo_addReached_41 ?_
      refine upf G hP hD hS h 109 putV h_a0 iMo tMo tMo_ok nMo rfl (by decide) rfl q3173 rfl rfl fV rfl rfl d_Mo_addReached_42 (fun s_4 H locs h hP hD hS => ?_)
      exact J_45 s_4 H locs h hP hD hS ls (lv_sub hl [] rfl)
theorem q3071 : Cond.fieldLink "ClassWorksModel" 127 "ClassWorksModel" "kStart" "I" ∈ lw_ok := lw_okmem (List.mem_of_getElem? (i := 3071) (by decide +kernel)) rfl
theorem q3697 : Cond.methodLink "ClassWorksModel" 752 y_Mo_methodIn ∈ lw_ok := lw_okmem (List.mem_of_getElem? (i := 3697) (by decide +kernel)) rfl
theorem q3700 : Cond.code y_Mo_methodIn b_Mo_methodIn 5 (some .int) ∈ lw_ok := lw_okmem (List.mem_of_getElem? (i := 3700) (by decide +kernel)) rfl
theorem q3699 : Cond.instanceMethod y_Mo_methodIn ∈ lw_ok := lw_okmem (List.mem_of_getElem? (i := 3699) (by decide +kernel)) rfl
theorem q221 : Cond.selects y_Mo_methodIn.cls y_Mo_methodIn y_Mo_methodIn ∈ lw_ok := lw_okmem (List.mem_of_getElem? (i := 221) (by decide +kernel)) rfl
theorem w9_Mo_methodIn : CWv y_Mo_methodIn b_Mo_methodIn 5 (some .int) 3 ∧ Cond.instanceMethod y_Mo_methodIn ∈ lw_ok ∧ Cond.selects y_Mo_methodIn.cls y_Mo_methodIn y_Mo_methodIn ∈ lw_ok := ⟨⟨q3700, q348, by decide +kernel, by decide +kernel, by decide +kernel⟩, q3699, q221⟩
theorem q4177 : Cond.methodLink "ClassWorksModel" 1291 y_Mo_addReached ∈ lw_ok := lw_okmem (List.mem_of_getElem? (i := 4177) (by decide +kernel)) rfl
theorem q4180 : Cond.code y_Mo_addReached b_Mo_addReached 2 (none) ∈ lw_ok := lw_okmem (List.mem_of_getElem? (i := 4180) (by decide +kernel)) rfl
theorem q4179 : Cond.instanceMethod y_Mo_addReached ∈ lw_ok := lw_okmem (List.mem_of_getElem? (i := 4179) (by decide +kernel)) rfl
theorem q316 : Cond.selects y_Mo_addReached.cls y_Mo_addReached y_Mo_addReached ∈ lw_ok := lw_okmem (List.mem_of_getElem? (i := 316) (by decide +kernel)) rfl
theorem w9_Mo_addReached : CWv y_Mo_addReached b_Mo_addReached 2 (none) 1 ∧ Cond.instanceMethod y_Mo_addReached ∈ lw_ok ∧ Cond.selects y_Mo_addReached.cls y_Mo_addReached y_Mo_addReached ∈ lw_ok := ⟨⟨q4180, q348, by decide +kernel, by decide +kernel, by decide +kernel⟩, q4179, q316⟩
def y_Mo_addStarts : MethodName := ⟨"ClassWorksModel", "addStarts", "(I)V"⟩
abbrev b_Mo_addStarts : ByteArray := prog_14_method_183_code
theorem d_Mo_addStarts_0 : decode b_Mo_addStarts 0 = .ok (.iload_n 1, 1) := by decide +kernel
theorem d_Mo_addStarts_1 : decode b_Mo_addStarts 1 = .ok (.istore_n 2, 1) := by decide +kernel
theorem d_Mo_addStarts_2 : decode b_Mo_addStarts 2 = .ok (.iload_n 2, 1) := by decide +kernel
theorem d_Mo_addStarts_3 : decode b_Mo_addStarts 3 = .ok (.ifCond .lt 67, 3) := by decide +kernel
theorem d_Mo_addStarts_6 : decode b_Mo_addStarts 6 = .ok (.aload_n 0, 1) := by decide +kernel
theorem d_Mo_addStarts_7 : decode b_Mo_addStarts 7 = .ok (.getfield 522, 3) := by decide +kernel
theorem d_Mo_addStarts_10 : decode b_Mo_addStarts 10 = .ok (.getfield 441, 3) := by decide +kernel
theorem d_Mo_addStarts_13 : decode b_Mo_addStarts 13 = .ok (.iload_n 2, 1) := by decide +kernel
theorem d_Mo_addStarts_14 : decode b_Mo_addStarts 14 = .ok (.iaload, 1) := by decide +kernel
theorem d_Mo_addStarts_15 : decode b_Mo_addStarts 15 = .ok (.iconst 2, 1) := by decide +kernel
theorem d_Mo_addStarts_16 : decode b_Mo_addStarts 16 = .ok (.if_icmp .eq 54, 3) := by decide +kernel
theorem d_Mo_addStarts_19 : decode b_Mo_addStarts 19 = .ok (.aload_n 0, 1) := by decide +kernel
theorem d_Mo_addStarts_20 : decode b_Mo_addStarts 20 = .ok (.iload_n 2, 1) := by decide +kernel
theorem d_Mo_addStarts_21 : decode b_Mo_addStarts 21 = .ok (.aload_n 0, 1) := by decide +kernel
theorem d_Mo_addStarts_22 : decode b_Mo_addStarts 22 = .ok (.getfield 127, 3) := by decide +kernel
theorem d_Mo_addStarts_25 : decode b_Mo_addStarts 25 = .ok (.aload_n 0, 1) := by decide +kernel
theorem d_Mo_addStarts_26 : decode b_Mo_addStarts 26 = .ok (.getfield 258, 3) := by decide +kernel
theorem d_Mo_addStarts_29 : decode b_Mo_addStarts 29 = .ok (.invokevirtual 752, 3) := by decide +kernel
theorem d_Mo_addStarts_32 : decode b_Mo_addStarts 32 = .ok (.istore_n 3, 1) := by decide +kernel
theorem d_Mo_addStarts_33 : decode b_Mo_addStarts 33 = .ok (.iload_n 3, 1) := by decide +kernel
theorem d_Mo_addStarts_34 : decode b_Mo_addStarts 34 = .ok (.ifCond .lt 8, 3) := by decide +kernel
theorem d_Mo_addStarts_37 : decode b_Mo_addStarts 37 = .ok (.aload_n 0, 1) := by decide +kernel
theorem d_Mo_addStarts_38 : decode b_Mo_addStarts 38 = .ok (.iload_n 3, 1) := by decide +kernel
theorem d_Mo_addStarts_39 : decode b_Mo_addStarts 39 = .ok (.invokevirtual 1291, 3) := by decide +kernel
theorem d_Mo_addStarts_42 : decode b_Mo_addStarts 42 = .ok (.aload_n 0, 1) := by decide +kernel
theorem d_Mo_addStarts_43 : decode b_Mo_addStarts 43 = .ok (.getfield 522, 3) := by decide +kernel
theorem d_Mo_addStarts_46 : decode b_Mo_addStarts 46 = .ok (.getfield 429, 3) := by decide +kernel
theorem d_Mo_addStarts_49 : decode b_Mo_addStarts 49 = .ok (.iload_n 2, 1) := by decide +kernel
theorem d_Mo_addStarts_50 : decode b_Mo_addStarts 50 = .ok (.iaload, 1) := by decide +kernel
theorem d_Mo_addStarts_51 : decode b_Mo_addStarts 51 = .ok (.iconst 4, 1) := by decide +kernel
theorem d_Mo_addStarts_52 : decode b_Mo_addStarts 52 = .ok (.iand, 1) := by decide +kernel
theorem d_Mo_addStarts_53 : decode b_Mo_addStarts 53 = .ok (.ifCond .eq 8, 3) := by decide +kernel
theorem d_Mo_addStarts_56 : decode b_Mo_addStarts 56 = .ok (.bipush (-2), 2) := by decide +kernel
theorem d_Mo_addStarts_58 : decode b_Mo_addStarts 58 = .ok (.goto 8, 3) := by decide +kernel
theorem d_Mo_addStarts_61 : decode b_Mo_addStarts 61 = .ok (.aload_n 0, 1) := by decide +kernel
theorem d_Mo_addStarts_62 : decode b_Mo_addStarts 62 = .ok (.iload_n 2, 1) := by decide +kernel
theorem d_Mo_addStarts_63 : decode b_Mo_addStarts 63 = .ok (.invokevirtual 725, 3) := by decide +kernel
theorem d_Mo_addStarts_66 : decode b_Mo_addStarts 66 = .ok (.istore_n 2, 1) := by decide +kernel
theorem d_Mo_addStarts_67 : decode b_Mo_addStarts 67 = .ok (.goto (-65), 3) := by decide +kernel
theorem d_Mo_addStarts_70 : decode b_Mo_addStarts 70 = .ok (.return_, 1) := by decide +kernel
abbrev ru_Mo_addStarts : Room := { frames := 2, cells := 0, slots := 0, locals := 43 }
def wj_Mo_addStarts_70 (y : Ly) (Post : St → Prop) (a0 : Nat) (s_j70 : St) : Prop := Post s_j70
def wj_Mo_addStarts_66 (y : Ly) (Post : St → Prop) (K_2 : St → Int32 → Prop) (a0 : Nat) (s_j66 : St) (z0j66 : Int32) : Prop := K_2 s_j66 z0j66
def wj_Mo_addStarts_42 (y : Ly) (Post : St → Prop) (K_2 : St → Int32 → Prop) (a0 : Nat) (s_j42 : St) (x2j42 : Int32) : Prop := ∃ b_7 : Nat, sO s_j42 a0 45 = some b_7 ∧ cl b_7 = 13 ∧ xA y s_j42 b_7 5 x2j42 (fun x_10 : Int32 => (((x_10 &&& 4) = 0 → wu_Mo_parentOf y (fun (s_12 : St) (r_11 : Int32) => wj_Mo_addStarts_66 y Post K_2 a0 s_12 r_11) s_j42 a0 x2j42) ∧ (¬ ((x_10 &&& 4) = 0) → wj_Mo_addStarts_66 y Post K_2 a0 s_j42 (-2))))
def wb_Mo_addStarts_2 (y : Ly) (Post : St → Prop) (K_2 : St → Int32 → Prop) (a0 : Nat) (s_h2 : St) (x2h2 : Int32) : Prop := ((x2h2 < 0 → wj_Mo_addStarts_70 y Post a0 s_h2) ∧ (¬ (x2h2 < 0) → ∃ b_1 : Nat, sO s_h2 a0 45 = some b_1 ∧ cl b_1 = 13 ∧ xA y s_h2 b_1 10 x2h2 (fun x_4 : Int32 => ((x_4 = 2 → wj_Mo_addStarts_70 y Post a0 s_h2) ∧ (¬ (x_4 = 2) → wu_Mo_methodIn y (fun (s_6 : St) (r_5 : Int32) => ((r_5 < 0 → wj_Mo_addStarts_42 y Post K_2 a0 s_6 x2h2) ∧ (¬ (r_5 < 0) → wu_Mo_addReached y (fun (s_14 : St) => wj_Mo_addStarts_42 y Post K_2 a0 s_14 x2h2) s_6 a0 r_5))) s_h2 a0 x2h2 (sV s_h2 a0 7) (sV s_h2 a0 38))))))
def wl_Mo_addStarts_2 (y : Ly) (Post : St → Prop) (a0 : Nat) (s_h2 : St) (x2h2 : Int32) : Prop := ∃ (I : St → Int32 → Prop) (μ : St → Int32 → Nat), I s_h2 x2h2 ∧ ∀ (u : St) (t0 : Int32), I u t0 → wb_Mo_addStarts_2 y Post (fun z t0q => I z t0q ∧ μ z t0q < μ u t0) a0 u t0
def wu_Mo_addStarts (y : Ly) (Post : St → Prop) (σ : St) (a0 : Nat) (v1 : Int32) : Prop := wl_Mo_addStarts_2 y Post a0 σ v1
set_option maxHeartbeats 4000000 in
set_option maxRecDepth 100000 in
theorem cu_Mo_addStarts (l : Launch) (D : va_G) (g : Nat → ClassId) (ad : Nat → Nat) (y : Ly) (Post : St → Prop) (σ : St) (a0 : Nat) (v1 : Int32) (sz : Nat) (h_a0 : cl a0 = 14) (h : wu_Mo_addStarts y Post σ a0 v1) : Met l y_Mo_addStarts (mw y_Mo_addStarts b_Mo_addStarts 4 (none)) ru_Mo_addStarts (PC g D [] [.ref (ad a0), .int v1] sz (ws g ad y σ)) (va_Qv (fun u : St => Post u) (QW D (va_A (ws g ad y σ) sz) (fun u => ws g ad y u)) (va_A (ws g ad y σ) sz)) 0 0 (va_A (ws g ad y σ) sz) := by
  refine ofV (by decide +kernel) (Nat.le_of_ble_eq_true rfl) ?_
  intro p e s m args below meth c A Q ls H locs G hsz hP hD hS hl hret
  subst hsz
  have hl : lv_has ls 4 [(0, .ref (ad a0)), (1, .int v1)] := hl
  unfold wu_Mo_addStarts at h
  refine lv_iload_n G.1 G.2.1 d_Mo_addStarts_0 rfl (lv_at hl 1 rfl) ?_
  refine lv_istore_n (lv' := [(2, .int v1), (0, .ref (ad a0)), (1, .int v1)]) G.1 G.2.1 d_Mo_addStarts_1 rfl hl (by decide) rfl (fun ls hl => ?_)
  unfold wl_Mo_addStarts_2 at h
  obtain ⟨I_2, μ_2, hI_2, hB_2⟩ := h
  have L_2 : ∀ (n_2 : Nat) (s_h2 : St) (x2h2 : Int32), μ_2 s_h2 x2h2 < n_2 → I_2 s_h2 x2h2 → ∀ (H : Heap) (locs : List Loc), va_P D CL (ws g ad y s_h2) H → va_D A (ws g ad y s_h2) → va_S A s.heap H locs → ∀ ls, lv_has ls 4 [(0, .ref (ad a0)), (2, .int x2h2)] → W p l e ru_Mo_addStarts s m args below meth c H locs 0 0 Q (F0 m 2 ls []) := by
    intro n_2
    induction n_2 with
    | zero => intro s_h2 x2h2 hμ; exact absurd hμ (Nat.not_lt_zero _)
    | succ n_2 ih_2 =>
      intro s_h2 x2h2 hμ_2 hJ H locs hP hD hS ls hl
      obtain ⟨K_2, hK_2, h⟩ : ∃ K : St → Int32 → Prop, (∀ z (t0 : Int32), K z t0 → I_2 z t0 ∧ μ_2 z t0 < μ_2 s_h2 x2h2) ∧ wb_Mo_addStarts_2 y Post K a0 s_h2 x2h2 := ⟨_, fun _ _ h => h, hB_2 s_h2 x2h2 hJ⟩
      unfold wb_Mo_addStarts_2 at h
      refine lv_iload_n G.1 G.2.1 d_Mo_addStarts_2 rfl (lv_at hl 1 rfl) ?_
      have J_70 : ∀ (s_j70 : St) (H : Heap) (locs : List Loc), wj_Mo_addStarts_70 y Post a0 s_j70 → va_P D CL (ws g ad y s_j70) H → va_D A (ws g ad y s_j70) → va_S A s.heap H locs → ∀ ls, lv_has ls 4 [] → W p l e ru_Mo_addStarts s m args below meth c H locs 0 0 Q (F0 m 70 ls []) := by
        intro s_j70 H locs h hP hD hS ls hl
        unfold wj_Mo_addStarts_70 at h
        exact hret _ _ _ _ _ _ ls h hP hD hS (Nat.le_refl _) (Nat.le_refl _) d_Mo_addStarts_70
      refine lv_if_lt (tgt := 70) G.1 G.2.1 d_Mo_addStarts_3 (by decide) (fun c3 => ?_) (fun c3 => ?_)
      · skip
        have h := h.1 c3
        exact J_70 s_h2 H locs h hP hD hS ls (lv_sub hl [] rfl)
      · skip
        have h := h.2 c3
        refine lv_aload_n G.1 G.2.1 d_Mo_addStarts_6 rfl (lv_at hl 0 rfl) ?_
        obtain ⟨b_1, e_2, c_3, h⟩ := h
        refine ugf (v := .ref (ad b_1)) G hP h_a0 iMo rfl 45 (by decide) rfl q3109 rfl (by show va_rf ((sO s_h2 a0 45).map ad) = _; rw [e_2]; rfl) d_Mo_addStarts_7 ?_
        refine ugfN (v := .ref (yP y b_1 10)) G hP c_3 iMw rfl 10 (by decide) rfl q2724 rfl rfl d_Mo_addStarts_10 ?_
        refine lv_iload_n G.1 G.2.1 d_Mo_addStarts_13 rfl (lv_at hl 1 rfl) ?_
        refine uiald G hP (kdp c_3 rfl) (typ c_3 rfl) h d_Mo_addStarts_14 (fun x_4 h => ?_)
        refine lv_iconst (v := 2) G.1 G.2.1 d_Mo_addStarts_15 (by decide) ?_
        refine lv_icmp_eq (tgt := 70) G.1 G.2.1 d_Mo_addStarts_16 (by decide) (fun c16 => ?_) (fun c16 => ?_)
        · skip
          have h := h.1 c16
          exact J_70 s_h2 H locs h hP hD hS ls (lv_sub hl [] rfl)
        · skip
          have h := h.2 c16
          refine lv_aload_n G.1 G.2.1 d_Mo_addStarts_19 rfl (lv_at hl 0 rfl) ?_
          refine lv_iload_n G.1 G.2.1 d_Mo_addStarts_20 rfl (lv_at hl 1 rfl) ?_
          refine W.eq (g2 := F0 m 21 ls [.int x2h2, .ref (ad a0)]) rfl ?_
          refine lv_aload_n G.1 G.2.1 d_Mo_addStarts_21 rfl (lv_at hl 0 rfl) ?_
          refine ugf (v := .int (sV s_h2 a0 7)) G hP h_a0 iMo rfl 7 (by decide) rfl q3071 rfl rfl d_Mo_addStarts_22 ?_
          refine lv_aload_n G.1 G.2.1 d_Mo_addStarts_25 rfl (lv_at hl 0 rfl) ?_
          refine ugf (v := .int (sV s_h2 a0 38)) G hP h_a0 iMo rfl 38 (by decide) rfl q3102 rfl rfl d_Mo_addStarts_26 ?_
          refine ucVi (As := [.int x2h2, .int (sV s_h2 a0 7), .int (sV s_h2 a0 38)]) (rest := []) G hP hD hS (cu_Mo_methodIn l D g ad y _ s_h2 a0 x2h2 (sV s_h2 a0 7) (sV s_h2 a0 38) H.size h_a0 h) w9_Mo_methodIn q3697 ⟨Nat.le_of_ble_eq_true rfl, Nat.le_of_ble_eq_true rfl⟩ rfl rfl h_a0 (q := (RMo, TMo, 131)) rfl rfl hl.1 rfl (Nat.le_of_ble_eq_true rfl) rfl ⟨Nat.le_refl _, Nat.le_refl _⟩ d_Mo_addStarts_29 (fun r_5 s_6 H locs h hP hD hS => ?_)
          refine lv_istore_n (lv' := [(3, .int r_5), (0, .ref (ad a0)), (2, .int x2h2)]) G.1 G.2.1 d_Mo_addStarts_32 rfl hl (by decide) rfl (fun ls hl => ?_)
          refine lv_iload_n G.1 G.2.1 d_Mo_addStarts_33 rfl (lv_at hl 0 rfl) ?_
          have J_42 : ∀ (s_j42 : St) (x2j42 : Int32) (H : Heap) (locs : List Loc), wj_Mo_addStarts_42 y Post K_2 a0 s_j42 x2j42 → va_P D CL (ws g ad y s_j42) H → va_D A (ws g ad y s_j42) → va_S A s.heap H locs → ∀ ls, lv_has ls 4 [(0, .ref (ad a0)), (2, .int x2j42)] → W p l e ru_Mo_addStarts s m args below meth c H locs 0 0 Q (F0 m 42 ls []) := by
            intro s_j42 x2j42 H locs h hP hD hS ls hl
            unfold wj_Mo_addStarts_42 at h
            refine lv_aload_n G.1 G.2.1 d_Mo_addStarts_42 rfl (lv_at hl 0 rfl) ?_
            obtain ⟨b_7, e_8, c_9, h⟩ := h
            refine ugf (v := .ref (ad b_7)) G hP h_a0 iMo rfl 45 (by decide) rfl q3109 rfl (by show va_rf ((sO s_j42 a0 45).map ad) = _; rw [e_8]; rfl) d_Mo_addStarts_43 ?_
            refine ugfN (v := .ref (yP y b_7 5)) G hP c_9 iMw rfl 5 (by decide) rfl q2714 rfl rfl d_Mo_addStarts_46 ?_
            refine lv_iload_n G.1 G.2.1 d_Mo_addStarts_49 rfl (lv_at hl 1 rfl) ?_
            refine uiald G hP (kdp c_9 rfl) (typ c_9 rfl) h d_Mo_addStarts_50 (fun x_10 h => ?_)
            refine lv_iconst (v := 4) G.1 G.2.1 d_Mo_addStarts_51 (by decide) ?_
            refine lv_iand G.1 G.2.1 d_Mo_addStarts_52 ?_
            have J_66 : ∀ (s_j66 : St) (z0j66 : Int32) (H : Heap) (locs : List Loc), wj_Mo_addStarts_66 y Post K_2 a0 s_j66 z0j66 → va_P D CL (ws g ad y s_j66) H → va_D A (ws g ad y s_j66) → va_S A s.heap H locs → ∀ ls, lv_has ls 4 [(0, .ref (ad a0))] → W p l e ru_Mo_addStarts s m args below meth c H locs 0 0 Q (F0 m 66 ls [.int z0j66]) := by
              intro s_j66 z0j66 H locs h hP hD hS ls hl
              unfold wj_Mo_addStarts_66 at h
              refine lv_istore_n (lv' := [(2, .int z0j66), (0, .ref (ad a0))]) G.1 G.2.1 d_Mo_addStarts_66 rfl hl (by decide) rfl (fun ls hl => ?_)
              refine lv_goto (tgt := 2) G.1 G.2.1 d_Mo_addStarts_67 (by decide) ?_
              have h := hK_2 s_j66 z0j66 h
              exact ih_2 s_j66 z0j66 (Nat.lt_of_lt_of_le h.2 (Nat.le_of_lt_succ hμ_2)) h.1 H locs hP hD hS ls (lv_sub hl [1, 0] rfl)
            refine lv_if_eq (tgt := 61) G.1 G.2.1 d_Mo_addStarts_53 (by decide) (fun c53 => ?_) (fun c53 => ?_)
            · skip
              have h := h.1 c53
              refine lv_aload_n G.1 G.2.1 d_Mo_addStarts_61 rfl (lv_at hl 0 rfl) ?_
              refine lv_iload_n G.1 G.2.1 d_Mo_addStarts_62 rfl (lv_at hl 1 rfl) ?_
              refine ucVi (As := [.int x2j42]) (rest := []) G hP hD hS (cu_Mo_parentOf l D g ad y _ s_j42 a0 x2j42 H.size h_a0 h) w9_Mo_parentOf q3689 ⟨Nat.le_of_ble_eq_true rfl, Nat.le_of_ble_eq_true rfl⟩ rfl rfl h_a0 (q := (RMo, TMo, 131)) rfl rfl hl.1 rfl (Nat.le_of_ble_eq_true rfl) rfl ⟨Nat.le_refl _, Nat.le_refl _⟩ d_Mo_addStarts_63 (fun r_11 s_12 H locs h hP hD hS => ?_)
              exact J_66 s_12 r_11 H locs h hP hD hS ls (lv_sub hl [0] rfl)
            · skip
              have h := h.2 c53
              refine lv_bipush (v := (-2)) G.1 G.2.1 d_Mo_addStarts_56 (by decide) ?_
              refine lv_goto (tgt := 66) G.1 G.2.1 d_Mo_addStarts_58 (by decide) ?_
              exact J_66 s_j42 (-2) H locs h hP hD hS ls (lv_sub hl [0] rfl)
          refine lv_if_lt (tgt := 42) G.1 G.2.1 d_Mo_addStarts_34 (by decide) (fun c34 => ?_) (fun c34 => ?_)
          · skip
            have h := h.1 c34
            exact J_42 s_6 x2h2 H locs h hP hD hS ls (lv_sub hl [1, 2] rfl)
          · skip
            have h := h.2 c34
            refine lv_aload_n G.1 G.2.1 d_Mo_addStarts_37 rfl (lv_at hl 1 rfl) ?_
            refine lv_iload_n G.1 G.2.1 d_Mo_addStarts_38 rfl (lv_at hl 0 rfl) ?_
            refine ucVv (As := [.int r_5]) (rest := []) G hP hD hS (cu_Mo_addReached l D g ad y _ s_6 a0 r_5 H.size h_a0 h) w9_Mo_addReached q4177 ⟨Nat.le_of_ble_eq_true rfl, Nat.le_of_ble_eq_true rfl⟩ rfl rfl h_a0 (q := (RMo, TMo, 131)) rfl rfl hl.1 rfl (Nat.le_of_ble_eq_true rfl) rfl ⟨Nat.le_refl _, Nat.le_refl _⟩ d_Mo_addStarts_39 (fun s_14 H locs h hP hD hS => ?_)
            exact J_42 s_14 x2h2 H locs h hP hD hS ls (lv_sub hl [1, 2] rfl)
  exact L_2 _ σ v1 (Nat.lt_succ_self _) hI_2 H locs hP hD hS ls (lv_sub hl [1, 0] rfl)
def y_Mo_reached : MethodName := ⟨"ClassWorksModel", "reached", "(I)I"⟩
abbrev b_Mo_reached : ByteArray := prog_14_method_186_code
theorem d_Mo_reached_0 : decode b_Mo_reached 0 = .ok (.iload_n 1, 1) := by decide +kernel
theorem d_Mo_reached_1 : decode b_Mo_reached 1 = .ok (.ifCond .lt 11, 3) := by decide +kernel
theorem d_Mo_reached_4 : decode b_Mo_reached 4 = .ok (.iload_n 1, 1) := by decide +kernel
theorem d_Mo_reached_5 : decode b_Mo_reached 5 = .ok (.aload_n 0, 1) := by decide +kernel
theorem d_Mo_reached_6 : decode b_Mo_reached 6 = .ok (.getfield 1288, 3) := by decide +kernel
theorem d_Mo_reached_9 : decode b_Mo_reached 9 = .ok (.if_icmp .lt 8, 3) := by decide +kernel
theorem d_Mo_reached_12 : decode b_Mo_reached 12 = .ok (.bipush (-2), 2) := by decide +kernel
theorem d_Mo_reached_14 : decode b_Mo_reached 14 = .ok (.goto 25, 3) := by decide +kernel
theorem d_Mo_reached_17 : decode b_Mo_reached 17 = .ok (.bipush 100, 2) := by decide +kernel
theorem d_Mo_reached_19 : decode b_Mo_reached 19 = .ok (.aload_n 0, 1) := by decide +kernel
theorem d_Mo_reached_20 : decode b_Mo_reached 20 = .ok (.getfield 350, 3) := by decide +kernel
theorem d_Mo_reached_23 : decode b_Mo_reached 23 = .ok (.iload_n 1, 1) := by decide +kernel
theorem d_Mo_reached_24 : decode b_Mo_reached 24 = .ok (.iaload, 1) := by decide +kernel
theorem d_Mo_reached_25 : decode b_Mo_reached 25 = .ok (.bipush 12, 2) := by decide +kernel
theorem d_Mo_reached_27 : decode b_Mo_reached 27 = .ok (.idiv, 1) := by decide +kernel
theorem d_Mo_reached_28 : decode b_Mo_reached 28 = .ok (.imul, 1) := by decide +kernel
theorem d_Mo_reached_29 : decode b_Mo_reached 29 = .ok (.aload_n 0, 1) := by decide +kernel
theorem d_Mo_reached_30 : decode b_Mo_reached 30 = .ok (.getfield 350, 3) := by decide +kernel
theorem d_Mo_reached_33 : decode b_Mo_reached 33 = .ok (.iload_n 1, 1) := by decide +kernel
theorem d_Mo_reached_34 : decode b_Mo_reached 34 = .ok (.iaload, 1) := by decide +kernel
theorem d_Mo_reached_35 : decode b_Mo_reached 35 = .ok (.bipush 12, 2) := by decide +kernel
theorem d_Mo_reached_37 : decode b_Mo_reached 37 = .ok (.irem, 1) := by decide +kernel
theorem d_Mo_reached_38 : decode b_Mo_reached 38 = .ok (.iadd, 1) := by decide +kernel
theorem d_Mo_reached_39 : decode b_Mo_reached 39 = .ok (.ireturn, 1) := by decide +kernel
abbrev ru_Mo_reached : Room := { frames := 0, cells := 0, slots := 0, locals := 0 }
def wj_Mo_reached_39 (y : Ly) (Post : St → Int32 → Prop) (a0 : Nat) (s_j39 : St) (z0j39 : Int32) : Prop := Post s_j39 z0j39
def wj_Mo_reached_12 (y : Ly) (Post : St → Int32 → Prop) (a0 : Nat) (s_j12 : St) : Prop := wj_Mo_reached_39 y Post a0 s_j12 (-2)
def wu_Mo_reached (y : Ly) (Post : St → Int32 → Prop) (σ : St) (a0 : Nat) (v1 : Int32) : Prop := ((v1 < 0 → wj_Mo_reached_12 y Post a0 σ) ∧ (¬ (v1 < 0) → ((v1 < (sV σ a0 109) → xA y σ a0 107 v1 (fun x_1 : Int32 => xA y σ a0 107 v1 (fun x_2 : Int32 => wj_Mo_reached_39 y Post a0 σ ((100 * (x_1 / 12)) + (x_2 - x_2 / 12 * 12))))) ∧ (¬ (v1 < (sV σ a0 109)) → wj_Mo_reached_12 y Post a0 σ))))
set_option maxHeartbeats 4000000 in
set_option maxRecDepth 100000 in
theorem cu_Mo_reached (l : Launch) (D : va_G) (g : Nat → ClassId) (ad : Nat → Nat) (y : Ly) (Post : St → Int32 → Prop) (σ : St) (a0 : Nat) (v1 : Int32) (sz : Nat) (h_a0 : cl a0 = 14) (h : wu_Mo_reached y Post σ a0 v1) : Met l y_Mo_reached (mw y_Mo_reached b_Mo_reached 2 (some .int)) ru_Mo_reached (PC g D [] [.ref (ad a0), .int v1] sz (ws g ad y σ)) (va_Qi (fun (r : Int32) (u : St) => Post u r) (QW D (va_A (ws g ad y σ) sz) (fun u => ws g ad y u)) (va_A (ws g ad y σ) sz)) 0 0 (va_A (ws g ad y σ) sz) := by
  refine ofI (by decide +kernel) (Nat.le_of_ble_eq_true rfl) ?_
  intro p e s m args below meth c A Q ls H locs G hsz hP hD hS hl hret
  subst hsz
  have hl : lv_has ls 2 [(0, .ref (ad a0)), (1, .int v1)] := hl
  unfold wu_Mo_reached at h
  refine lv_iload_n G.1 G.2.1 d_Mo_reached_0 rfl (lv_at hl 1 rfl) ?_
  have J_39 : ∀ (s_j39 : St) (z0j39 : Int32) (H : Heap) (locs : List Loc), wj_Mo_reached_39 y Post a0 s_j39 z0j39 → va_P D CL (ws g ad y s_j39) H → va_D A (ws g ad y s_j39) → va_S A s.heap H locs → ∀ ls, lv_has ls 2 [] → W p l e ru_Mo_reached s m args below meth c H locs 0 0 Q (F0 m 39 ls [.int z0j39]) := by
    intro s_j39 z0j39 H locs h hP hD hS ls hl
    unfold wj_Mo_reached_39 at h
    exact hret _ _ _ _ _ _ _ ls h hP hD hS (Nat.le_refl _) (Nat.le_refl _) d_Mo_reached_39
  have J_12 : ∀ (s_j12 : St) (H : Heap) (locs : List Loc), wj_Mo_reached_12 y Post a0 s_j12 → va_P D CL (ws g ad y s_j12) H → va_D A (ws g ad y s_j12) → va_S A s.heap H locs → ∀ ls, lv_has ls 2 [] → W p l e ru_Mo_reached s m args below meth c H locs 0 0 Q (F0 m 12 ls []) := by
    intro s_j12 H locs h hP hD hS ls hl
    unfold wj_Mo_reached_12 at h
    refine lv_bipush (v := (-2)) G.1 G.2.1 d_Mo_reached_12 (by decide) ?_
    refine lv_goto (tgt := 39) G.1 G.2.1 d_Mo_reached_14 (by decide) ?_
    exact J_39 s_j12 (-2) H locs h hP hD hS ls (lv_sub hl [] rfl)
  refine lv_if_lt (tgt := 12) G.1 G.2.1 d_Mo_reached_1 (by decide) (fun c1 => ?_) (fun c1 => ?_)
  · skip
    have h := h.1 c1
    exact J_12 σ H locs h hP hD hS ls (lv_sub hl [] rfl)
  · skip
    have h := h.2 c1
    refine lv_iload_n G.1 G.2.1 d_Mo_reached_4 rfl (lv_at hl 1 rfl) ?_
    refine lv_aload_n G.1 G.2.1 d_Mo_reached_5 rfl (lv_at hl 0 rfl) ?_
    refine ugf (v := .int (sV σ a0 109)) G hP h_a0 iMo rfl 109 (by decide) rfl q3173 rfl rfl d_Mo_reached_6 ?_
    refine lv_icmp_lt (tgt := 17) G.1 G.2.1 d_Mo_reached_9 (by decide) (fun c9 => ?_) (fun c9 => ?_)
    · skip
      have h := h.1 c9
      refine lv_bipush (v := 100) G.1 G.2.1 d_Mo_reached_17 (by decide) ?_
      refine lv_aload_n G.1 G.2.1 d_Mo_reached_19 rfl (lv_at hl 0 rfl) ?_
      refine ugf (v := .ref (yP y a0 107)) G hP h_a0 iMo rfl 107 (by decide) rfl q3171 rfl rfl d_Mo_reached_20 ?_
      refine lv_iload_n G.1 G.2.1 d_Mo_reached_23 rfl (lv_at hl 1 rfl) ?_
      refine uiald G hP (kdp h_a0 rfl) (typ h_a0 rfl) h d_Mo_reached_24 (fun x_1 h => ?_)
      refine W.eq (g2 := F0 m 25 ls [.int x_1, .int 100]) rfl ?_
      refine lv_bipush (v := 12) G.1 G.2.1 d_Mo_reached_25 (by decide) ?_
      refine lv_idiv G.1 G.2.1 d_Mo_reached_27 (by decide) ?_
      refine lv_imul G.1 G.2.1 d_Mo_reached_28 ?_
      refine lv_aload_n G.1 G.2.1 d_Mo_reached_29 rfl (lv_at hl 0 rfl) ?_
      refine ugf (v := .ref (yP y a0 107)) G hP h_a0 iMo rfl 107 (by decide) rfl q3171 rfl rfl d_Mo_reached_30 ?_
      refine lv_iload_n G.1 G.2.1 d_Mo_reached_33 rfl (lv_at hl 1 rfl) ?_
      refine uiald G hP (kdp h_a0 rfl) (typ h_a0 rfl) h d_Mo_reached_34 (fun x_2 h => ?_)
      refine lv_bipush (v := 12) G.1 G.2.1 d_Mo_reached_35 (by decide) ?_
      refine lv_irem G.1 G.2.1 d_Mo_reached_37 (by decide) ?_
      refine lv_iadd G.1 G.2.1 d_Mo_reached_38 ?_
      exact J_39 σ ((100 * (x_1 / 12)) + (x_2 - x_2 / 12 * 12)) H locs h hP hD hS ls (lv_sub hl [] rfl)
    · skip
      have h := h.2 c9
      exact J_12 σ H locs h hP hD hS ls (lv_sub hl [] rfl)
def y_Mo_mark : MethodName := ⟨"ClassWorksModel", "mark", "(I)V"⟩
abbrev b_Mo_mark : ByteArray := prog_14_method_187_code
theorem q3174 : Cond.fieldLink "ClassWorksModel" 356 "ClassWorksModel" "marks" "[Z" ∈ lw_ok := lw_okmem (List.mem_of_getElem? (i := 3174) (by decide +kernel)) rfl
theorem q3175 : Cond.fieldLink "ClassWorksModel" 359 "ClassWorksModel" "markPile" "[I" ∈ lw_ok := lw_okmem (List.mem_of_getElem? (i := 3175) (by decide +kernel)) rfl
theorem q3176 : Cond.fieldLink "ClassWorksModel" 1300 "ClassWorksModel" "marked" "I" ∈ lw_ok := lw_okmem (List.mem_of_getElem? (i := 3176) (by decide +kernel)) rfl
theorem d_Mo_mark_0 : decode b_Mo_mark 0 = .ok (.iload_n 1, 1) := by decide +kernel
theorem d_Mo_mark_1 : decode b_Mo_mark 1 = .ok (.ifCond .le 46, 3) := by decide +kernel
theorem d_Mo_mark_4 : decode b_Mo_mark 4 = .ok (.iload_n 1, 1) := by decide +kernel
theorem d_Mo_mark_5 : decode b_Mo_mark 5 = .ok (.sipush 800, 3) := by decide +kernel
theorem d_Mo_mark_8 : decode b_Mo_mark 8 = .ok (.if_icmp .gt 39, 3) := by decide +kernel
theorem d_Mo_mark_11 : decode b_Mo_mark 11 = .ok (.aload_n 0, 1) := by decide +kernel
theorem d_Mo_mark_12 : decode b_Mo_mark 12 = .ok (.getfield 356, 3) := by decide +kernel
theorem d_Mo_mark_15 : decode b_Mo_mark 15 = .ok (.iload_n 1, 1) := by decide +kernel
theorem d_Mo_mark_16 : decode b_Mo_mark 16 = .ok (.baload, 1) := by decide +kernel
theorem d_Mo_mark_17 : decode b_Mo_mark 17 = .ok (.ifCond .ne 30, 3) := by decide +kernel
theorem d_Mo_mark_20 : decode b_Mo_mark 20 = .ok (.aload_n 0, 1) := by decide +kernel
theorem d_Mo_mark_21 : decode b_Mo_mark 21 = .ok (.getfield 356, 3) := by decide +kernel
theorem d_Mo_mark_24 : decode b_Mo_mark 24 = .ok (.iload_n 1, 1) := by decide +kernel
theorem d_Mo_mark_25 : decode b_Mo_mark 25 = .ok (.iconst 1, 1) := by decide +kernel
theorem d_Mo_mark_26 : decode b_Mo_mark 26 = .ok (.bastore, 1) := by decide +kernel
theorem d_Mo_mark_27 : decode b_Mo_mark 27 = .ok (.aload_n 0, 1) := by decide +kernel
theorem d_Mo_mark_28 : decode b_Mo_mark 28 = .ok (.getfield 359, 3) := by decide +kernel
theorem d_Mo_mark_31 : decode b_Mo_mark 31 = .ok (.aload_n 0, 1) := by decide +kernel
theorem d_Mo_mark_32 : decode b_Mo_mark 32 = .ok (.getfield 1300, 3) := by decide +kernel
theorem d_Mo_mark_35 : decode b_Mo_mark 35 = .ok (.iload_n 1, 1) := by decide +kernel
theorem d_Mo_mark_36 : decode b_Mo_mark 36 = .ok (.iastore, 1) := by decide +kernel
theorem d_Mo_mark_37 : decode b_Mo_mark 37 = .ok (.aload_n 0, 1) := by decide +kernel
theorem d_Mo_mark_38 : decode b_Mo_mark 38 = .ok (.dup, 1) := by decide +kernel
theorem d_Mo_mark_39 : decode b_Mo_mark 39 = .ok (.getfield 1300, 3) := by decide +kernel
theorem d_Mo_mark_42 : decode b_Mo_mark 42 = .ok (.iconst 1, 1) := by decide +kernel
theorem d_Mo_mark_43 : decode b_Mo_mark 43 = .ok (.iadd, 1) := by decide +kernel
theorem d_Mo_mark_44 : decode b_Mo_mark 44 = .ok (.putfield 1300, 3) := by decide +kernel
theorem d_Mo_mark_47 : decode b_Mo_mark 47 = .ok (.return_, 1) := by decide +kernel
abbrev ru_Mo_mark : Room := { frames := 0, cells := 0, slots := 0, locals := 0 }
def wj_Mo_mark_47 (y : Ly) (Post : St → Prop) (a0 : Nat) (s_j47 : St) : Prop := Post s_j47
def wu_Mo_mark (y : Ly) (Post : St → Prop) (σ : St) (a0 : Nat) (v1 : Int32) : Prop := ((v1 ≤ 0 → wj_Mo_mark_47 y Post a0 σ) ∧ (¬ (v1 ≤ 0) → ((800 < v1 → wj_Mo_mark_47 y Post a0 σ) ∧ (¬ (800 < v1) → xA y σ a0 110 v1 (fun x_1 : Int32 => ((¬ x_1 = 0 → wj_Mo_mark_47 y Post a0 σ) ∧ (x_1 = 0 → xS y σ a0 110 v1 (vp_nar .boolean 1) (fun s_2 : St => xS y s_2 a0 111 (sV s_2 a0 112) v1 (fun s_3 : St => xP (uV s_3 a0 112 ((sV s_3 a0 112) + 1)) (fun s_4 : St => wj_Mo_mark_47 y Post a0 s_4))))))))))
set_option maxHeartbeats 4000000 in
set_option maxRecDepth 100000 in
theorem cu_Mo_mark (l : Launch) (D : va_G) (g : Nat → ClassId) (ad : Nat → Nat) (y : Ly) (Post : St → Prop) (σ : St) (a0 : Nat) (v1 : Int32) (sz : Nat) (h_a0 : cl a0 = 14) (h : wu_Mo_mark y Post σ a0 v1) : Met l y_Mo_mark (mw y_Mo_mark b_Mo_mark 2 (none)) ru_Mo_mark (PC g D [] [.ref (ad a0), .int v1] sz (ws g ad y σ)) (va_Qv (fun u : St => Post u) (QW D (va_A (ws g ad y σ) sz) (fun u => ws g ad y u)) (va_A (ws g ad y σ) sz)) 0 0 (va_A (ws g ad y σ) sz) := by
  refine ofV (by decide +kernel) (Nat.le_of_ble_eq_true rfl) ?_
  intro p e s m args below meth c A Q ls H locs G hsz hP hD hS hl hret
  subst hsz
  have hl : lv_has ls 2 [(0, .ref (ad a0)), (1, .int v1)] := hl
  unfold wu_Mo_mark at h
  refine lv_iload_n G.1 G.2.1 d_Mo_mark_0 rfl (lv_at hl 1 rfl) ?_
  have J_47 : ∀ (s_j47 : St) (H : Heap) (locs : List Loc), wj_Mo_mark_47 y Post a0 s_j47 → va_P D CL (ws g ad y s_j47) H → va_D A (ws g ad y s_j47) → va_S A s.heap H locs → ∀ ls, lv_has ls 2 [] → W p l e ru_Mo_mark s m args below meth c H locs 0 0 Q (F0 m 47 ls []) := by
    intro s_j47 H locs h hP hD hS ls hl
    unfold wj_Mo_mark_47 at h
    exact hret _ _ _ _ _ _ ls h hP hD hS (Nat.le_refl _) (Nat.le_refl _) d_Mo_mark_47
  refine lv_if_le (tgt := 47) G.1 G.2.1 d_Mo_mark_1 (by decide) (fun c1 => ?_) (fun c1 => ?_)
  · skip
    have h := h.1 c1
    exact J_47 σ H locs h hP hD hS ls (lv_sub hl [] rfl)
  · skip
    have h := h.2 c1
    refine lv_iload_n G.1 G.2.1 d_Mo_mark_4 rfl (lv_at hl 1 rfl) ?_
    refine lv_sipush (v := 800) G.1 G.2.1 d_Mo_mark_5 (by decide) ?_
    refine lv_icmp_gt (tgt := 47) G.1 G.2.1 d_Mo_mark_8 (by decide) (fun c8 => ?_) (fun c8 => ?_)
    · skip
      have h := h.1 c8
      exact J_47 σ H locs h hP hD hS ls (lv_sub hl [] rfl)
    · skip
      have h := h.2 c8
      refine lv_aload_n G.1 G.2.1 d_Mo_mark_11 rfl (lv_at hl 0 rfl) ?_
      refine ugf (v := .ref (yP y a0 110)) G hP h_a0 iMo rfl 110 (by decide) rfl q3174 rfl rfl d_Mo_mark_12 ?_
      refine lv_iload_n G.1 G.2.1 d_Mo_mark_15 rfl (lv_at hl 1 rfl) ?_
      refine uzald G hP (kdp h_a0 rfl) (typ h_a0 rfl) h d_Mo_mark_16 (fun x_1 h => ?_)
      refine lv_if_ne (tgt := 47) G.1 G.2.1 d_Mo_mark_17 (by decide) (fun c17 => ?_) (fun c17 => ?_)
      · skip
        have h := h.1 c17
        exact J_47 σ H locs h hP hD hS ls (lv_sub hl [] rfl)
      · skip
        have h := h.2 c17
        refine lv_aload_n G.1 G.2.1 d_Mo_mark_20 rfl (lv_at hl 0 rfl) ?_
        refine W.eq (g2 := F0 m 21 ls [.ref (ad a0)]) rfl ?_
        refine ugf (v := .ref (yP y a0 110)) G hP h_a0 iMo rfl 110 (by decide) rfl q3174 rfl rfl d_Mo_mark_21 ?_
        refine lv_iload_n G.1 G.2.1 d_Mo_mark_24 rfl (lv_at hl 1 rfl) ?_
        refine lv_iconst (v := 1) G.1 G.2.1 d_Mo_mark_25 (by decide) ?_
        refine uzast G hP hD hS (kdp h_a0 rfl) (typ h_a0 rfl) h d_Mo_mark_26 (fun s_2 H locs h hP hD hS => ?_)
        refine lv_aload_n G.1 G.2.1 d_Mo_mark_27 rfl (lv_at hl 0 rfl) ?_
        refine ugf (v := .ref (yP y a0 111)) G hP h_a0 iMo rfl 111 (by decide) rfl q3175 rfl rfl d_Mo_mark_28 ?_
        refine lv_aload_n G.1 G.2.1 d_Mo_mark_31 rfl (lv_at hl 0 rfl) ?_
        refine ugf (v := .int (sV s_2 a0 112)) G hP h_a0 iMo rfl 112 (by decide) rfl q3176 rfl rfl d_Mo_mark_32 ?_
        refine lv_iload_n G.1 G.2.1 d_Mo_mark_35 rfl (lv_at hl 1 rfl) ?_
        refine uiast G hP hD hS (kdp h_a0 rfl) (typ h_a0 rfl) h d_Mo_mark_36 (fun s_3 H locs h hP hD hS => ?_)
        refine lv_aload_n G.1 G.2.1 d_Mo_mark_37 rfl (lv_at hl 0 rfl) ?_
        refine lv_dup G.1 G.2.1 d_Mo_mark_38 rfl ?_
        refine W.eq (g2 := F0 m 39 ls [.ref (ad a0), .ref (ad a0)]) rfl ?_
        refine ugf (v := .int (sV s_3 a0 112)) G hP h_a0 iMo rfl 112 (by decide) rfl q3176 rfl rfl d_Mo_mark_39 ?_
        refine lv_iconst (v := 1) G.1 G.2.1 d_Mo_mark_42 (by decide) ?_
        refine lv_iadd G.1 G.2.1 d_Mo_mark_43 ?_
        refine upf G hP hD hS h 112 putV h_a0 iMo tMo tMo_ok nMo rfl (by decide) rfl q3176 rfl rfl fV rfl rfl d_Mo_mark_44 (fun s_4 H locs h hP hD hS => ?_)
        exact J_47 s_4 H locs h hP hD hS ls (lv_sub hl [] rfl)
theorem q3177 : Cond.fieldLink "ClassWorksModel" 362 "ClassWorksModel" "otherCells" "[I" ∈ lw_ok := lw_okmem (List.mem_of_getElem? (i := 3177) (by decide +kernel)) rfl
theorem q4189 : Cond.methodLink "ClassWorksModel" 1303 y_Mo_mark ∈ lw_ok := lw_okmem (List.mem_of_getElem? (i := 4189) (by decide +kernel)) rfl
theorem q4192 : Cond.code y_Mo_mark b_Mo_mark 2 (none) ∈ lw_ok := lw_okmem (List.mem_of_getElem? (i := 4192) (by decide +kernel)) rfl
theorem q4191 : Cond.instanceMethod y_Mo_mark ∈ lw_ok := lw_okmem (List.mem_of_getElem? (i := 4191) (by decide +kernel)) rfl
theorem q317 : Cond.selects y_Mo_mark.cls y_Mo_mark y_Mo_mark ∈ lw_ok := lw_okmem (List.mem_of_getElem? (i := 317) (by decide +kernel)) rfl
theorem w9_Mo_mark : CWv y_Mo_mark b_Mo_mark 2 (none) 1 ∧ Cond.instanceMethod y_Mo_mark ∈ lw_ok ∧ Cond.selects y_Mo_mark.cls y_Mo_mark y_Mo_mark ∈ lw_ok := ⟨⟨q4192, q348, by decide +kernel, by decide +kernel, by decide +kernel⟩, q4191, q317⟩
def y_Mo_collect : MethodName := ⟨"ClassWorksModel", "collect", "(I)I"⟩
abbrev b_Mo_collect : ByteArray := prog_14_method_188_code
theorem d_Mo_collect_0 : decode b_Mo_collect 0 = .ok (.aload_n 0, 1) := by decide +kernel
theorem d_Mo_collect_1 : decode b_Mo_collect 1 = .ok (.iload_n 1, 1) := by decide +kernel
theorem d_Mo_collect_2 : decode b_Mo_collect 2 = .ok (.invokevirtual 1118, 3) := by decide +kernel
theorem d_Mo_collect_5 : decode b_Mo_collect 5 = .ok (.ifCond .ne 5, 3) := by decide +kernel
theorem d_Mo_collect_8 : decode b_Mo_collect 8 = .ok (.iconst (-1), 1) := by decide +kernel
theorem d_Mo_collect_9 : decode b_Mo_collect 9 = .ok (.ireturn, 1) := by decide +kernel
theorem d_Mo_collect_10 : decode b_Mo_collect 10 = .ok (.aload_n 0, 1) := by decide +kernel
theorem d_Mo_collect_11 : decode b_Mo_collect 11 = .ok (.aload_n 0, 1) := by decide +kernel
theorem d_Mo_collect_12 : decode b_Mo_collect 12 = .ok (.getfield 263, 3) := by decide +kernel
theorem d_Mo_collect_15 : decode b_Mo_collect 15 = .ok (.iload_n 1, 1) := by decide +kernel
theorem d_Mo_collect_16 : decode b_Mo_collect 16 = .ok (.aaload, 1) := by decide +kernel
theorem d_Mo_collect_17 : decode b_Mo_collect 17 = .ok (.putfield 522, 3) := by decide +kernel
theorem d_Mo_collect_20 : decode b_Mo_collect 20 = .ok (.aload_n 0, 1) := by decide +kernel
theorem d_Mo_collect_21 : decode b_Mo_collect 21 = .ok (.iconst 0, 1) := by decide +kernel
theorem d_Mo_collect_22 : decode b_Mo_collect 22 = .ok (.putfield 1300, 3) := by decide +kernel
theorem d_Mo_collect_25 : decode b_Mo_collect 25 = .ok (.iconst 0, 1) := by decide +kernel
theorem d_Mo_collect_26 : decode b_Mo_collect 26 = .ok (.istore_n 2, 1) := by decide +kernel
theorem d_Mo_collect_27 : decode b_Mo_collect 27 = .ok (.iload_n 2, 1) := by decide +kernel
theorem d_Mo_collect_28 : decode b_Mo_collect 28 = .ok (.sipush 800, 3) := by decide +kernel
theorem d_Mo_collect_31 : decode b_Mo_collect 31 = .ok (.if_icmp .gt 16, 3) := by decide +kernel
theorem d_Mo_collect_34 : decode b_Mo_collect 34 = .ok (.aload_n 0, 1) := by decide +kernel
theorem d_Mo_collect_35 : decode b_Mo_collect 35 = .ok (.getfield 356, 3) := by decide +kernel
theorem d_Mo_collect_38 : decode b_Mo_collect 38 = .ok (.iload_n 2, 1) := by decide +kernel
theorem d_Mo_collect_39 : decode b_Mo_collect 39 = .ok (.iconst 0, 1) := by decide +kernel
theorem d_Mo_collect_40 : decode b_Mo_collect 40 = .ok (.bastore, 1) := by decide +kernel
theorem d_Mo_collect_41 : decode b_Mo_collect 41 = .ok (.iinc 2 1, 3) := by decide +kernel
theorem d_Mo_collect_44 : decode b_Mo_collect 44 = .ok (.goto (-17), 3) := by decide +kernel
theorem d_Mo_collect_47 : decode b_Mo_collect 47 = .ok (.bipush 21, 2) := by decide +kernel
theorem d_Mo_collect_49 : decode b_Mo_collect 49 = .ok (.istore_n 2, 1) := by decide +kernel
theorem d_Mo_collect_50 : decode b_Mo_collect 50 = .ok (.iload_n 2, 1) := by decide +kernel
theorem d_Mo_collect_51 : decode b_Mo_collect 51 = .ok (.aload_n 0, 1) := by decide +kernel
theorem d_Mo_collect_52 : decode b_Mo_collect 52 = .ok (.getfield 522, 3) := by decide +kernel
theorem d_Mo_collect_55 : decode b_Mo_collect 55 = .ok (.getfield 420, 3) := by decide +kernel
theorem d_Mo_collect_58 : decode b_Mo_collect 58 = .ok (.if_icmp .ge 78, 3) := by decide +kernel
theorem d_Mo_collect_61 : decode b_Mo_collect 61 = .ok (.bipush 8, 2) := by decide +kernel
theorem d_Mo_collect_63 : decode b_Mo_collect 63 = .ok (.iload_n 2, 1) := by decide +kernel
theorem d_Mo_collect_64 : decode b_Mo_collect 64 = .ok (.imul, 1) := by decide +kernel
theorem d_Mo_collect_65 : decode b_Mo_collect 65 = .ok (.istore_n 3, 1) := by decide +kernel
theorem d_Mo_collect_66 : decode b_Mo_collect 66 = .ok (.iload_n 3, 1) := by decide +kernel
theorem d_Mo_collect_67 : decode b_Mo_collect 67 = .ok (.bipush 8, 2) := by decide +kernel
theorem d_Mo_collect_69 : decode b_Mo_collect 69 = .ok (.iload_n 2, 1) := by decide +kernel
theorem d_Mo_collect_70 : decode b_Mo_collect 70 = .ok (.imul, 1) := by decide +kernel
theorem d_Mo_collect_71 : decode b_Mo_collect 71 = .ok (.aload_n 0, 1) := by decide +kernel
theorem d_Mo_collect_72 : decode b_Mo_collect 72 = .ok (.getfield 522, 3) := by decide +kernel
theorem d_Mo_collect_75 : decode b_Mo_collect 75 = .ok (.getfield 435, 3) := by decide +kernel
theorem d_Mo_collect_78 : decode b_Mo_collect 78 = .ok (.iload_n 2, 1) := by decide +kernel
theorem d_Mo_collect_79 : decode b_Mo_collect 79 = .ok (.iaload, 1) := by decide +kernel
theorem d_Mo_collect_80 : decode b_Mo_collect 80 = .ok (.iadd, 1) := by decide +kernel
theorem d_Mo_collect_81 : decode b_Mo_collect 81 = .ok (.if_icmp .ge 49, 3) := by decide +kernel
theorem d_Mo_collect_84 : decode b_Mo_collect 84 = .ok (.aload_n 0, 1) := by decide +kernel
theorem d_Mo_collect_85 : decode b_Mo_collect 85 = .ok (.getfield 522, 3) := by decide +kernel
theorem d_Mo_collect_88 : decode b_Mo_collect 88 = .ok (.getfield 627, 3) := by decide +kernel
theorem d_Mo_collect_91 : decode b_Mo_collect 91 = .ok (.iload_n 3, 1) := by decide +kernel
theorem d_Mo_collect_92 : decode b_Mo_collect 92 = .ok (.iaload, 1) := by decide +kernel
theorem d_Mo_collect_93 : decode b_Mo_collect 93 = .ok (.iconst 1, 1) := by decide +kernel
theorem d_Mo_collect_94 : decode b_Mo_collect 94 = .ok (.iand, 1) := by decide +kernel
theorem d_Mo_collect_95 : decode b_Mo_collect 95 = .ok (.ifCond .eq 29, 3) := by decide +kernel
theorem d_Mo_collect_98 : decode b_Mo_collect 98 = .ok (.aload_n 0, 1) := by decide +kernel
theorem d_Mo_collect_99 : decode b_Mo_collect 99 = .ok (.getfield 522, 3) := by decide +kernel
theorem d_Mo_collect_102 : decode b_Mo_collect 102 = .ok (.getfield 624, 3) := by decide +kernel
theorem d_Mo_collect_105 : decode b_Mo_collect 105 = .ok (.iload_n 3, 1) := by decide +kernel
theorem d_Mo_collect_106 : decode b_Mo_collect 106 = .ok (.iaload, 1) := by decide +kernel
theorem d_Mo_collect_107 : decode b_Mo_collect 107 = .ok (.iconst 1, 1) := by decide +kernel
theorem d_Mo_collect_108 : decode b_Mo_collect 108 = .ok (.if_icmp .eq 16, 3) := by decide +kernel
theorem d_Mo_collect_111 : decode b_Mo_collect 111 = .ok (.aload_n 0, 1) := by decide +kernel
theorem d_Mo_collect_112 : decode b_Mo_collect 112 = .ok (.aload_n 0, 1) := by decide +kernel
theorem d_Mo_collect_113 : decode b_Mo_collect 113 = .ok (.getfield 522, 3) := by decide +kernel
theorem d_Mo_collect_116 : decode b_Mo_collect 116 = .ok (.getfield 636, 3) := by decide +kernel
theorem d_Mo_collect_119 : decode b_Mo_collect 119 = .ok (.iload_n 3, 1) := by decide +kernel
theorem d_Mo_collect_120 : decode b_Mo_collect 120 = .ok (.iaload, 1) := by decide +kernel
theorem d_Mo_collect_121 : decode b_Mo_collect 121 = .ok (.invokevirtual 1303, 3) := by decide +kernel
theorem d_Mo_collect_124 : decode b_Mo_collect 124 = .ok (.iinc 3 1, 3) := by decide +kernel
theorem d_Mo_collect_127 : decode b_Mo_collect 127 = .ok (.goto (-61), 3) := by decide +kernel
theorem d_Mo_collect_130 : decode b_Mo_collect 130 = .ok (.iinc 2 1, 3) := by decide +kernel
theorem d_Mo_collect_133 : decode b_Mo_collect 133 = .ok (.goto (-83), 3) := by decide +kernel
theorem d_Mo_collect_136 : decode b_Mo_collect 136 = .ok (.iconst 0, 1) := by decide +kernel
theorem d_Mo_collect_137 : decode b_Mo_collect 137 = .ok (.istore_n 2, 1) := by decide +kernel
theorem d_Mo_collect_138 : decode b_Mo_collect 138 = .ok (.iload_n 2, 1) := by decide +kernel
theorem d_Mo_collect_139 : decode b_Mo_collect 139 = .ok (.iconst 3, 1) := by decide +kernel
theorem d_Mo_collect_140 : decode b_Mo_collect 140 = .ok (.if_icmp .ge 105, 3) := by decide +kernel
theorem d_Mo_collect_143 : decode b_Mo_collect 143 = .ok (.aload_n 0, 1) := by decide +kernel
theorem d_Mo_collect_144 : decode b_Mo_collect 144 = .ok (.getfield 522, 3) := by decide +kernel
theorem d_Mo_collect_147 : decode b_Mo_collect 147 = .ok (.getfield 406, 3) := by decide +kernel
theorem d_Mo_collect_150 : decode b_Mo_collect 150 = .ok (.iload_n 2, 1) := by decide +kernel
theorem d_Mo_collect_151 : decode b_Mo_collect 151 = .ok (.aaload, 1) := by decide +kernel
theorem d_Mo_collect_152 : decode b_Mo_collect 152 = .ok (.astore_n 3, 1) := by decide +kernel
theorem d_Mo_collect_153 : decode b_Mo_collect 153 = .ok (.iconst 0, 1) := by decide +kernel
theorem d_Mo_collect_154 : decode b_Mo_collect 154 = .ok (.istore 4, 2) := by decide +kernel
theorem d_Mo_collect_156 : decode b_Mo_collect 156 = .ok (.aload_n 3, 1) := by decide +kernel
theorem d_Mo_collect_157 : decode b_Mo_collect 157 = .ok (.getfield 486, 3) := by decide +kernel
theorem d_Mo_collect_160 : decode b_Mo_collect 160 = .ok (.bipush (-2), 2) := by decide +kernel
theorem d_Mo_collect_162 : decode b_Mo_collect 162 = .ok (.if_icmp .eq 77, 3) := by decide +kernel
theorem d_Mo_collect_165 : decode b_Mo_collect 165 = .ok (.iload 4, 2) := by decide +kernel
theorem d_Mo_collect_167 : decode b_Mo_collect 167 = .ok (.aload_n 3, 1) := by decide +kernel
theorem d_Mo_collect_168 : decode b_Mo_collect 168 = .ok (.getfield 924, 3) := by decide +kernel
theorem d_Mo_collect_171 : decode b_Mo_collect 171 = .ok (.if_icmp .ge 68, 3) := by decide +kernel
theorem d_Mo_collect_174 : decode b_Mo_collect 174 = .ok (.bipush 44, 2) := by decide +kernel
theorem d_Mo_collect_176 : decode b_Mo_collect 176 = .ok (.iload 4, 2) := by decide +kernel
theorem d_Mo_collect_178 : decode b_Mo_collect 178 = .ok (.imul, 1) := by decide +kernel
theorem d_Mo_collect_179 : decode b_Mo_collect 179 = .ok (.bipush 20, 2) := by decide +kernel
theorem d_Mo_collect_181 : decode b_Mo_collect 181 = .ok (.iadd, 1) := by decide +kernel
theorem d_Mo_collect_182 : decode b_Mo_collect 182 = .ok (.aload_n 3, 1) := by decide +kernel
theorem d_Mo_collect_183 : decode b_Mo_collect 183 = .ok (.getfield 933, 3) := by decide +kernel
theorem d_Mo_collect_186 : decode b_Mo_collect 186 = .ok (.iload 4, 2) := by decide +kernel
theorem d_Mo_collect_188 : decode b_Mo_collect 188 = .ok (.iaload, 1) := by decide +kernel
theorem d_Mo_collect_189 : decode b_Mo_collect 189 = .ok (.iadd, 1) := by decide +kernel
theorem d_Mo_collect_190 : decode b_Mo_collect 190 = .ok (.istore 5, 2) := by decide +kernel
theorem d_Mo_collect_192 : decode b_Mo_collect 192 = .ok (.bipush 44, 2) := by decide +kernel
theorem d_Mo_collect_194 : decode b_Mo_collect 194 = .ok (.iload 4, 2) := by decide +kernel
theorem d_Mo_collect_196 : decode b_Mo_collect 196 = .ok (.imul, 1) := by decide +kernel
theorem d_Mo_collect_197 : decode b_Mo_collect 197 = .ok (.istore 6, 2) := by decide +kernel
theorem d_Mo_collect_199 : decode b_Mo_collect 199 = .ok (.iload 6, 2) := by decide +kernel
theorem d_Mo_collect_201 : decode b_Mo_collect 201 = .ok (.iload 5, 2) := by decide +kernel
theorem d_Mo_collect_203 : decode b_Mo_collect 203 = .ok (.if_icmp .ge 30, 3) := by decide +kernel
theorem d_Mo_collect_206 : decode b_Mo_collect 206 = .ok (.aload_n 3, 1) := by decide +kernel
theorem d_Mo_collect_207 : decode b_Mo_collect 207 = .ok (.getfield 939, 3) := by decide +kernel
theorem d_Mo_collect_210 : decode b_Mo_collect 210 = .ok (.iload 6, 2) := by decide +kernel
theorem d_Mo_collect_212 : decode b_Mo_collect 212 = .ok (.baload, 1) := by decide +kernel
theorem d_Mo_collect_213 : decode b_Mo_collect 213 = .ok (.ifCond .eq 14, 3) := by decide +kernel
theorem d_Mo_collect_216 : decode b_Mo_collect 216 = .ok (.aload_n 0, 1) := by decide +kernel
theorem d_Mo_collect_217 : decode b_Mo_collect 217 = .ok (.aload_n 3, 1) := by decide +kernel
theorem d_Mo_collect_218 : decode b_Mo_collect 218 = .ok (.getfield 936, 3) := by decide +kernel
theorem d_Mo_collect_221 : decode b_Mo_collect 221 = .ok (.iload 6, 2) := by decide +kernel
theorem d_Mo_collect_223 : decode b_Mo_collect 223 = .ok (.iaload, 1) := by decide +kernel
theorem d_Mo_collect_224 : decode b_Mo_collect 224 = .ok (.invokevirtual 1303, 3) := by decide +kernel
theorem d_Mo_collect_227 : decode b_Mo_collect 227 = .ok (.iinc 6 1, 3) := by decide +kernel
theorem d_Mo_collect_230 : decode b_Mo_collect 230 = .ok (.goto (-31), 3) := by decide +kernel
theorem d_Mo_collect_233 : decode b_Mo_collect 233 = .ok (.iinc 4 1, 3) := by decide +kernel
theorem d_Mo_collect_236 : decode b_Mo_collect 236 = .ok (.goto (-80), 3) := by decide +kernel
theorem d_Mo_collect_239 : decode b_Mo_collect 239 = .ok (.iinc 2 1, 3) := by decide +kernel
theorem d_Mo_collect_242 : decode b_Mo_collect 242 = .ok (.goto (-104), 3) := by decide +kernel
theorem d_Mo_collect_245 : decode b_Mo_collect 245 = .ok (.iconst 0, 1) := by decide +kernel
theorem d_Mo_collect_246 : decode b_Mo_collect 246 = .ok (.istore_n 2, 1) := by decide +kernel
theorem d_Mo_collect_247 : decode b_Mo_collect 247 = .ok (.iload_n 2, 1) := by decide +kernel
theorem d_Mo_collect_248 : decode b_Mo_collect 248 = .ok (.aload_n 0, 1) := by decide +kernel
theorem d_Mo_collect_249 : decode b_Mo_collect 249 = .ok (.getfield 1300, 3) := by decide +kernel
theorem d_Mo_collect_252 : decode b_Mo_collect 252 = .ok (.if_icmp .ge 91, 3) := by decide +kernel
theorem d_Mo_collect_255 : decode b_Mo_collect 255 = .ok (.aload_n 0, 1) := by decide +kernel
theorem d_Mo_collect_256 : decode b_Mo_collect 256 = .ok (.getfield 359, 3) := by decide +kernel
theorem d_Mo_collect_259 : decode b_Mo_collect 259 = .ok (.iload_n 2, 1) := by decide +kernel
theorem d_Mo_collect_260 : decode b_Mo_collect 260 = .ok (.iaload, 1) := by decide +kernel
theorem d_Mo_collect_261 : decode b_Mo_collect 261 = .ok (.istore_n 3, 1) := by decide +kernel
theorem d_Mo_collect_262 : decode b_Mo_collect 262 = .ok (.aload_n 0, 1) := by decide +kernel
theorem d_Mo_collect_263 : decode b_Mo_collect 263 = .ok (.getfield 522, 3) := by decide +kernel
theorem d_Mo_collect_266 : decode b_Mo_collect 266 = .ok (.getfield 872, 3) := by decide +kernel
theorem d_Mo_collect_269 : decode b_Mo_collect 269 = .ok (.iload_n 3, 1) := by decide +kernel
theorem d_Mo_collect_270 : decode b_Mo_collect 270 = .ok (.iaload, 1) := by decide +kernel
theorem d_Mo_collect_271 : decode b_Mo_collect 271 = .ok (.istore 4, 2) := by decide +kernel
theorem d_Mo_collect_273 : decode b_Mo_collect 273 = .ok (.iconst 0, 1) := by decide +kernel
theorem d_Mo_collect_274 : decode b_Mo_collect 274 = .ok (.istore 5, 2) := by decide +kernel
theorem d_Mo_collect_276 : decode b_Mo_collect 276 = .ok (.iload 4, 2) := by decide +kernel
theorem d_Mo_collect_278 : decode b_Mo_collect 278 = .ok (.iconst (-1), 1) := by decide +kernel
theorem d_Mo_collect_279 : decode b_Mo_collect 279 = .ok (.if_icmp .eq 58, 3) := by decide +kernel
theorem d_Mo_collect_282 : decode b_Mo_collect 282 = .ok (.iload 5, 2) := by decide +kernel
theorem d_Mo_collect_284 : decode b_Mo_collect 284 = .ok (.aload_n 0, 1) := by decide +kernel
theorem d_Mo_collect_285 : decode b_Mo_collect 285 = .ok (.getfield 522, 3) := by decide +kernel
theorem d_Mo_collect_288 : decode b_Mo_collect 288 = .ok (.getfield 887, 3) := by decide +kernel
theorem d_Mo_collect_291 : decode b_Mo_collect 291 = .ok (.iload_n 3, 1) := by decide +kernel
theorem d_Mo_collect_292 : decode b_Mo_collect 292 = .ok (.iaload, 1) := by decide +kernel
theorem d_Mo_collect_293 : decode b_Mo_collect 293 = .ok (.if_icmp .ge 44, 3) := by decide +kernel
theorem d_Mo_collect_296 : decode b_Mo_collect 296 = .ok (.aload_n 0, 1) := by decide +kernel
theorem d_Mo_collect_297 : decode b_Mo_collect 297 = .ok (.iload 4, 2) := by decide +kernel
theorem d_Mo_collect_299 : decode b_Mo_collect 299 = .ok (.iload 5, 2) := by decide +kernel
theorem d_Mo_collect_301 : decode b_Mo_collect 301 = .ok (.invokevirtual 1173, 3) := by decide +kernel
theorem d_Mo_collect_304 : decode b_Mo_collect 304 = .ok (.ifCond .eq 27, 3) := by decide +kernel
theorem d_Mo_collect_307 : decode b_Mo_collect 307 = .ok (.aload_n 0, 1) := by decide +kernel
theorem d_Mo_collect_308 : decode b_Mo_collect 308 = .ok (.aload_n 0, 1) := by decide +kernel
theorem d_Mo_collect_309 : decode b_Mo_collect 309 = .ok (.getfield 522, 3) := by decide +kernel
theorem d_Mo_collect_312 : decode b_Mo_collect 312 = .ok (.getfield 893, 3) := by decide +kernel
theorem d_Mo_collect_315 : decode b_Mo_collect 315 = .ok (.aload_n 0, 1) := by decide +kernel
theorem d_Mo_collect_316 : decode b_Mo_collect 316 = .ok (.getfield 522, 3) := by decide +kernel
theorem d_Mo_collect_319 : decode b_Mo_collect 319 = .ok (.getfield 884, 3) := by decide +kernel
theorem d_Mo_collect_322 : decode b_Mo_collect 322 = .ok (.iload_n 3, 1) := by decide +kernel
theorem d_Mo_collect_323 : decode b_Mo_collect 323 = .ok (.iaload, 1) := by decide +kernel
theorem d_Mo_collect_324 : decode b_Mo_collect 324 = .ok (.iload 5, 2) := by decide +kernel
theorem d_Mo_collect_326 : decode b_Mo_collect 326 = .ok (.iadd, 1) := by decide +kernel
theorem d_Mo_collect_327 : decode b_Mo_collect 327 = .ok (.iaload, 1) := by decide +kernel
theorem d_Mo_collect_328 : decode b_Mo_collect 328 = .ok (.invokevirtual 1303, 3) := by decide +kernel
theorem d_Mo_collect_331 : decode b_Mo_collect 331 = .ok (.iinc 5 1, 3) := by decide +kernel
theorem d_Mo_collect_334 : decode b_Mo_collect 334 = .ok (.goto (-58), 3) := by decide +kernel
theorem d_Mo_collect_337 : decode b_Mo_collect 337 = .ok (.iinc 2 1, 3) := by decide +kernel
theorem d_Mo_collect_340 : decode b_Mo_collect 340 = .ok (.goto (-93), 3) := by decide +kernel
theorem d_Mo_collect_343 : decode b_Mo_collect 343 = .ok (.iconst 0, 1) := by decide +kernel
theorem d_Mo_collect_344 : decode b_Mo_collect 344 = .ok (.istore_n 2, 1) := by decide +kernel
theorem d_Mo_collect_345 : decode b_Mo_collect 345 = .ok (.iconst 0, 1) := by decide +kernel
theorem d_Mo_collect_346 : decode b_Mo_collect 346 = .ok (.istore_n 3, 1) := by decide +kernel
theorem d_Mo_collect_347 : decode b_Mo_collect 347 = .ok (.iconst 1, 1) := by decide +kernel
theorem d_Mo_collect_348 : decode b_Mo_collect 348 = .ok (.istore 4, 2) := by decide +kernel
theorem d_Mo_collect_350 : decode b_Mo_collect 350 = .ok (.iload 4, 2) := by decide +kernel
theorem d_Mo_collect_352 : decode b_Mo_collect 352 = .ok (.sipush 800, 3) := by decide +kernel
theorem d_Mo_collect_355 : decode b_Mo_collect 355 = .ok (.if_icmp .gt 145, 3) := by decide +kernel
theorem d_Mo_collect_358 : decode b_Mo_collect 358 = .ok (.aload_n 0, 1) := by decide +kernel
theorem d_Mo_collect_359 : decode b_Mo_collect 359 = .ok (.getfield 522, 3) := by decide +kernel
theorem d_Mo_collect_362 : decode b_Mo_collect 362 = .ok (.getfield 510, 3) := by decide +kernel
theorem d_Mo_collect_365 : decode b_Mo_collect 365 = .ok (.iload 4, 2) := by decide +kernel
theorem d_Mo_collect_367 : decode b_Mo_collect 367 = .ok (.baload, 1) := by decide +kernel
theorem d_Mo_collect_368 : decode b_Mo_collect 368 = .ok (.ifCond .eq 54, 3) := by decide +kernel
theorem d_Mo_collect_371 : decode b_Mo_collect 371 = .ok (.aload_n 0, 1) := by decide +kernel
theorem d_Mo_collect_372 : decode b_Mo_collect 372 = .ok (.getfield 356, 3) := by decide +kernel
theorem d_Mo_collect_375 : decode b_Mo_collect 375 = .ok (.iload 4, 2) := by decide +kernel
theorem d_Mo_collect_377 : decode b_Mo_collect 377 = .ok (.baload, 1) := by decide +kernel
theorem d_Mo_collect_378 : decode b_Mo_collect 378 = .ok (.ifCond .ne 44, 3) := by decide +kernel
theorem d_Mo_collect_381 : decode b_Mo_collect 381 = .ok (.aload_n 0, 1) := by decide +kernel
theorem d_Mo_collect_382 : decode b_Mo_collect 382 = .ok (.getfield 522, 3) := by decide +kernel
theorem d_Mo_collect_385 : decode b_Mo_collect 385 = .ok (.getfield 510, 3) := by decide +kernel
theorem d_Mo_collect_388 : decode b_Mo_collect 388 = .ok (.iload 4, 2) := by decide +kernel
theorem d_Mo_collect_390 : decode b_Mo_collect 390 = .ok (.iconst 0, 1) := by decide +kernel
theorem d_Mo_collect_391 : decode b_Mo_collect 391 = .ok (.bastore, 1) := by decide +kernel
theorem d_Mo_collect_392 : decode b_Mo_collect 392 = .ok (.aload_n 0, 1) := by decide +kernel
theorem d_Mo_collect_393 : decode b_Mo_collect 393 = .ok (.getfield 522, 3) := by decide +kernel
theorem d_Mo_collect_396 : decode b_Mo_collect 396 = .ok (.getfield 890, 3) := by decide +kernel
theorem d_Mo_collect_399 : decode b_Mo_collect 399 = .ok (.iload 4, 2) := by decide +kernel
theorem d_Mo_collect_401 : decode b_Mo_collect 401 = .ok (.iconst 0, 1) := by decide +kernel
theorem d_Mo_collect_402 : decode b_Mo_collect 402 = .ok (.iastore, 1) := by decide +kernel
theorem d_Mo_collect_403 : decode b_Mo_collect 403 = .ok (.aload_n 0, 1) := by decide +kernel
theorem d_Mo_collect_404 : decode b_Mo_collect 404 = .ok (.getfield 522, 3) := by decide +kernel
theorem d_Mo_collect_407 : decode b_Mo_collect 407 = .ok (.dup, 1) := by decide +kernel
theorem d_Mo_collect_408 : decode b_Mo_collect 408 = .ok (.getfield 507, 3) := by decide +kernel
theorem d_Mo_collect_411 : decode b_Mo_collect 411 = .ok (.iconst 1, 1) := by decide +kernel
theorem d_Mo_collect_412 : decode b_Mo_collect 412 = .ok (.isub, 1) := by decide +kernel
theorem d_Mo_collect_413 : decode b_Mo_collect 413 = .ok (.putfield 507, 3) := by decide +kernel
theorem d_Mo_collect_416 : decode b_Mo_collect 416 = .ok (.iinc 2 1, 3) := by decide +kernel
theorem d_Mo_collect_419 : decode b_Mo_collect 419 = .ok (.goto 75, 3) := by decide +kernel
theorem d_Mo_collect_422 : decode b_Mo_collect 422 = .ok (.aload_n 0, 1) := by decide +kernel
theorem d_Mo_collect_423 : decode b_Mo_collect 423 = .ok (.getfield 522, 3) := by decide +kernel
theorem d_Mo_collect_426 : decode b_Mo_collect 426 = .ok (.getfield 510, 3) := by decide +kernel
theorem d_Mo_collect_429 : decode b_Mo_collect 429 = .ok (.iload 4, 2) := by decide +kernel
theorem d_Mo_collect_431 : decode b_Mo_collect 431 = .ok (.baload, 1) := by decide +kernel
theorem d_Mo_collect_432 : decode b_Mo_collect 432 = .ok (.ifCond .eq 62, 3) := by decide +kernel
theorem d_Mo_collect_435 : decode b_Mo_collect 435 = .ok (.aload_n 0, 1) := by decide +kernel
theorem d_Mo_collect_436 : decode b_Mo_collect 436 = .ok (.getfield 522, 3) := by decide +kernel
theorem d_Mo_collect_439 : decode b_Mo_collect 439 = .ok (.getfield 893, 3) := by decide +kernel
theorem d_Mo_collect_442 : decode b_Mo_collect 442 = .ok (.aload_n 0, 1) := by decide +kernel
theorem d_Mo_collect_443 : decode b_Mo_collect 443 = .ok (.getfield 522, 3) := by decide +kernel
theorem d_Mo_collect_446 : decode b_Mo_collect 446 = .ok (.getfield 884, 3) := by decide +kernel
theorem d_Mo_collect_449 : decode b_Mo_collect 449 = .ok (.iload 4, 2) := by decide +kernel
theorem d_Mo_collect_451 : decode b_Mo_collect 451 = .ok (.iaload, 1) := by decide +kernel
theorem d_Mo_collect_452 : decode b_Mo_collect 452 = .ok (.aload_n 0, 1) := by decide +kernel
theorem d_Mo_collect_453 : decode b_Mo_collect 453 = .ok (.getfield 362, 3) := by decide +kernel
theorem d_Mo_collect_456 : decode b_Mo_collect 456 = .ok (.iload_n 3, 1) := by decide +kernel
theorem d_Mo_collect_457 : decode b_Mo_collect 457 = .ok (.aload_n 0, 1) := by decide +kernel
theorem d_Mo_collect_458 : decode b_Mo_collect 458 = .ok (.getfield 522, 3) := by decide +kernel
theorem d_Mo_collect_461 : decode b_Mo_collect 461 = .ok (.getfield 887, 3) := by decide +kernel
theorem d_Mo_collect_464 : decode b_Mo_collect 464 = .ok (.iload 4, 2) := by decide +kernel
theorem d_Mo_collect_466 : decode b_Mo_collect 466 = .ok (.iaload, 1) := by decide +kernel
theorem d_Mo_collect_467 : decode b_Mo_collect 467 = .ok (.invokestatic 11, 3) := by decide +kernel
theorem d_Mo_collect_470 : decode b_Mo_collect 470 = .ok (.aload_n 0, 1) := by decide +kernel
theorem d_Mo_collect_471 : decode b_Mo_collect 471 = .ok (.getfield 522, 3) := by decide +kernel
theorem d_Mo_collect_474 : decode b_Mo_collect 474 = .ok (.getfield 884, 3) := by decide +kernel
theorem d_Mo_collect_477 : decode b_Mo_collect 477 = .ok (.iload 4, 2) := by decide +kernel
theorem d_Mo_collect_479 : decode b_Mo_collect 479 = .ok (.iload_n 3, 1) := by decide +kernel
theorem d_Mo_collect_480 : decode b_Mo_collect 480 = .ok (.iastore, 1) := by decide +kernel
theorem d_Mo_collect_481 : decode b_Mo_collect 481 = .ok (.iload_n 3, 1) := by decide +kernel
theorem d_Mo_collect_482 : decode b_Mo_collect 482 = .ok (.aload_n 0, 1) := by decide +kernel
theorem d_Mo_collect_483 : decode b_Mo_collect 483 = .ok (.getfield 522, 3) := by decide +kernel
theorem d_Mo_collect_486 : decode b_Mo_collect 486 = .ok (.getfield 887, 3) := by decide +kernel
theorem d_Mo_collect_489 : decode b_Mo_collect 489 = .ok (.iload 4, 2) := by decide +kernel
theorem d_Mo_collect_491 : decode b_Mo_collect 491 = .ok (.iaload, 1) := by decide +kernel
theorem d_Mo_collect_492 : decode b_Mo_collect 492 = .ok (.iadd, 1) := by decide +kernel
theorem d_Mo_collect_493 : decode b_Mo_collect 493 = .ok (.istore_n 3, 1) := by decide +kernel
theorem d_Mo_collect_494 : decode b_Mo_collect 494 = .ok (.iinc 4 1, 3) := by decide +kernel
theorem d_Mo_collect_497 : decode b_Mo_collect 497 = .ok (.goto (-147), 3) := by decide +kernel
theorem d_Mo_collect_500 : decode b_Mo_collect 500 = .ok (.aload_n 0, 1) := by decide +kernel
theorem d_Mo_collect_501 : decode b_Mo_collect 501 = .ok (.getfield 362, 3) := by decide +kernel
theorem d_Mo_collect_504 : decode b_Mo_collect 504 = .ok (.iconst 0, 1) := by decide +kernel
theorem d_Mo_collect_505 : decode b_Mo_collect 505 = .ok (.aload_n 0, 1) := by decide +kernel
theorem d_Mo_collect_506 : decode b_Mo_collect 506 = .ok (.getfield 522, 3) := by decide +kernel
theorem d_Mo_collect_509 : decode b_Mo_collect 509 = .ok (.getfield 893, 3) := by decide +kernel
theorem d_Mo_collect_512 : decode b_Mo_collect 512 = .ok (.iconst 0, 1) := by decide +kernel
theorem d_Mo_collect_513 : decode b_Mo_collect 513 = .ok (.iload_n 3, 1) := by decide +kernel
theorem d_Mo_collect_514 : decode b_Mo_collect 514 = .ok (.invokestatic 11, 3) := by decide +kernel
theorem d_Mo_collect_517 : decode b_Mo_collect 517 = .ok (.aload_n 0, 1) := by decide +kernel
theorem d_Mo_collect_518 : decode b_Mo_collect 518 = .ok (.getfield 522, 3) := by decide +kernel
theorem d_Mo_collect_521 : decode b_Mo_collect 521 = .ok (.iload_n 3, 1) := by decide +kernel
theorem d_Mo_collect_522 : decode b_Mo_collect 522 = .ok (.putfield 513, 3) := by decide +kernel
theorem d_Mo_collect_525 : decode b_Mo_collect 525 = .ok (.iload_n 2, 1) := by decide +kernel
theorem d_Mo_collect_526 : decode b_Mo_collect 526 = .ok (.ireturn, 1) := by decide +kernel
abbrev ru_Mo_collect : Room := { frames := 4, cells := 0, slots := 0, locals := 120 }
def wj_Mo_collect_494 (y : Ly) (Post : St → Int32 → Prop) (K_350 : St → Int32 → Int32 → Int32 → Prop) (a0 : Nat) (s_j494 : St) (x2j494 : Int32) (x3j494 : Int32) (x4j494 : Int32) : Prop := K_350 s_j494 x2j494 x3j494 (x4j494 + 1)
def wj_Mo_collect_422 (y : Ly) (Post : St → Int32 → Prop) (K_350 : St → Int32 → Int32 → Int32 → Prop) (a0 : Nat) (s_j422 : St) (x2j422 : Int32) (x3j422 : Int32) (x4j422 : Int32) : Prop := ∃ b_22 : Nat, sO s_j422 a0 45 = some b_22 ∧ cl b_22 = 13 ∧ xA y s_j422 b_22 49 x4j422 (fun x_25 : Int32 => ((x_25 = 0 → wj_Mo_collect_494 y Post K_350 a0 s_j422 x2j422 x3j422 x4j422) ∧ (¬ (x_25 = 0) → ∃ b_26 : Nat, sO s_j422 a0 45 = some b_26 ∧ cl b_26 = 13 ∧ ∃ b_29 : Nat, sO s_j422 a0 45 = some b_29 ∧ cl b_29 = 13 ∧ xA y s_j422 b_29 46 x4j422 (fun x_32 : Int32 => ∃ b_33 : Nat, sO s_j422 a0 45 = some b_33 ∧ cl b_33 = 13 ∧ xA y s_j422 b_33 47 x4j422 (fun x_36 : Int32 => xC y s_j422 b_26 51 a0 113 .int x_32 x3j422 x_36 (fun s_37 : St => ∃ b_38 : Nat, sO s_37 a0 45 = some b_38 ∧ cl b_38 = 13 ∧ xS y s_37 b_38 46 x4j422 x3j422 (fun s_41 : St => ∃ b_42 : Nat, sO s_41 a0 45 = some b_42 ∧ cl b_42 = 13 ∧ xA y s_41 b_42 47 x4j422 (fun x_45 : Int32 => wj_Mo_collect_494 y Post K_350 a0 s_41 x2j422 (x3j422 + x_45) x4j422))))))))
def wb_Mo_collect_350 (y : Ly) (Post : St → Int32 → Prop) (K_350 : St → Int32 → Int32 → Int32 → Prop) (a0 : Nat) (s_h350 : St) (x2h350 : Int32) (x3h350 : Int32) (x4h350 : Int32) : Prop := ((800 < x4h350 → ∃ b_10 : Nat, sO s_h350 a0 45 = some b_10 ∧ cl b_10 = 13 ∧ xC y s_h350 a0 113 b_10 51 .int 0 0 x3h350 (fun s_13 : St => ∃ b_14 : Nat, sO s_13 a0 45 = some b_14 ∧ cl b_14 = 13 ∧ xP (uV s_13 b_14 52 x3h350) (fun s_17 : St => Post s_17 x2h350))) ∧ (¬ (800 < x4h350) → ∃ b_18 : Nat, sO s_h350 a0 45 = some b_18 ∧ cl b_18 = 13 ∧ xA y s_h350 b_18 49 x4h350 (fun x_21 : Int32 => ((x_21 = 0 → wj_Mo_collect_422 y Post K_350 a0 s_h350 x2h350 x3h350 x4h350) ∧ (¬ (x_21 = 0) → xA y s_h350 a0 110 x4h350 (fun x_46 : Int32 => ((¬ x_46 = 0 → wj_Mo_collect_422 y Post K_350 a0 s_h350 x2h350 x3h350 x4h350) ∧ (x_46 = 0 → ∃ b_47 : Nat, sO s_h350 a0 45 = some b_47 ∧ cl b_47 = 13 ∧ xS y s_h350 b_47 49 x4h350 (vp_nar .boolean 0) (fun s_50 : St => ∃ b_51 : Nat, sO s_50 a0 45 = some b_51 ∧ cl b_51 = 13 ∧ xS y s_50 b_51 48 x4h350 0 (fun s_54 : St => ∃ b_55 : Nat, sO s_54 a0 45 = some b_55 ∧ cl b_55 = 13 ∧ xP (uV s_54 b_55 50 ((sV s_54 b_55 50) - 1)) (fun s_58 : St => wj_Mo_collect_494 y Post K_350 a0 s_58 (x2h350 + 1) x3h350 x4h350)))))))))))
def wl_Mo_collect_350 (y : Ly) (Post : St → Int32 → Prop) (a0 : Nat) (s_h350 : St) (x2h350 : Int32) (x3h350 : Int32) (x4h350 : Int32) : Prop := ∃ (I : St → Int32 → Int32 → Int32 → Prop) (μ : St → Int32 → Int32 → Int32 → Nat), I s_h350 x2h350 x3h350 x4h350 ∧ ∀ (u : St) (t0 : Int32) (t1 : Int32) (t2 : Int32), I u t0 t1 t2 → wb_Mo_collect_350 y Post (fun z t0q t1q t2q => I z t0q t1q t2q ∧ μ z t0q t1q t2q < μ u t0 t1 t2) a0 u t0 t1 t2
def wj_Mo_collect_337 (y : Ly) (Post : St → Int32 → Prop) (K_247 : St → Int32 → Prop) (a0 : Nat) (s_j337 : St) (x2j337 : Int32) : Prop := K_247 s_j337 (x2j337 + 1)
def wj_Mo_collect_331 (y : Ly) (Post : St → Int32 → Prop) (K_247 : St → Int32 → Prop) (K_276 : St → Int32 → Int32 → Int32 → Int32 → Prop) (a0 : Nat) (s_j331 : St) (x2j331 : Int32) (x3j331 : Int32) (x4j331 : Int32) (x5j331 : Int32) : Prop := K_276 s_j331 x2j331 x3j331 x4j331 (x5j331 + 1)
def wb_Mo_collect_276 (y : Ly) (Post : St → Int32 → Prop) (K_247 : St → Int32 → Prop) (K_276 : St → Int32 → Int32 → Int32 → Int32 → Prop) (a0 : Nat) (s_h276 : St) (x2h276 : Int32) (x3h276 : Int32) (x4h276 : Int32) (x5h276 : Int32) : Prop := ((x4h276 = (-1) → wj_Mo_collect_337 y Post K_247 a0 s_h276 x2h276) ∧ (¬ (x4h276 = (-1)) → ∃ b_64 : Nat, sO s_h276 a0 45 = some b_64 ∧ cl b_64 = 13 ∧ xA y s_h276 b_64 47 x3h276 (fun x_67 : Int32 => ((x_67 ≤ x5h276 → wj_Mo_collect_337 y Post K_247 a0 s_h276 x2h276) ∧ (¬ (x_67 ≤ x5h276) → wu_Mo_isRefField y (fun (s_69 : St) (r_68 : Int32) => ((r_68 = 0 → wj_Mo_collect_331 y Post K_247 K_276 a0 s_69 x2h276 x3h276 x4h276 x5h276) ∧ (¬ (r_68 = 0) → ∃ b_70 : Nat, sO s_69 a0 45 = some b_70 ∧ cl b_70 = 13 ∧ ∃ b_73 : Nat, sO s_69 a0 45 = some b_73 ∧ cl b_73 = 13 ∧ xA y s_69 b_73 46 x3h276 (fun x_76 : Int32 => xA y s_69 b_70 51 (x_76 + x5h276) (fun x_77 : Int32 => wu_Mo_mark y (fun (s_79 : St) => wj_Mo_collect_331 y Post K_247 K_276 a0 s_79 x2h276 x3h276 x4h276 x5h276) s_69 a0 x_77))))) s_h276 a0 x4h276 x5h276)))))
def wl_Mo_collect_276 (y : Ly) (Post : St → Int32 → Prop) (K_247 : St → Int32 → Prop) (a0 : Nat) (s_h276 : St) (x2h276 : Int32) (x3h276 : Int32) (x4h276 : Int32) (x5h276 : Int32) : Prop := ∃ (I : St → Int32 → Int32 → Int32 → Int32 → Prop) (μ : St → Int32 → Int32 → Int32 → Int32 → Nat), I s_h276 x2h276 x3h276 x4h276 x5h276 ∧ ∀ (u : St) (t0 : Int32) (t1 : Int32) (t2 : Int32) (t3 : Int32), I u t0 t1 t2 t3 → wb_Mo_collect_276 y Post K_247 (fun z t0q t1q t2q t3q => I z t0q t1q t2q t3q ∧ μ z t0q t1q t2q t3q < μ u t0 t1 t2 t3) a0 u t0 t1 t2 t3
def wb_Mo_collect_247 (y : Ly) (Post : St → Int32 → Prop) (K_247 : St → Int32 → Prop) (a0 : Nat) (s_h247 : St) (x2h247 : Int32) : Prop := (((sV s_h247 a0 112) ≤ x2h247 → wl_Mo_collect_350 y Post a0 s_h247 0 0 1) ∧ (¬ ((sV s_h247 a0 112) ≤ x2h247) → xA y s_h247 a0 111 x2h247 (fun x_59 : Int32 => ∃ b_60 : Nat, sO s_h247 a0 45 = some b_60 ∧ cl b_60 = 13 ∧ xA y s_h247 b_60 45 x_59 (fun x_63 : Int32 => wl_Mo_collect_276 y Post K_247 a0 s_h247 x2h247 x_59 x_63 0))))
def wl_Mo_collect_247 (y : Ly) (Post : St → Int32 → Prop) (a0 : Nat) (s_h247 : St) (x2h247 : Int32) : Prop := ∃ (I : St → Int32 → Prop) (μ : St → Int32 → Nat), I s_h247 x2h247 ∧ ∀ (u : St) (t0 : Int32), I u t0 → wb_Mo_collect_247 y Post (fun z t0q => I z t0q ∧ μ z t0q < μ u t0) a0 u t0
def wj_Mo_collect_239 (y : Ly) (Post : St → Int32 → Prop) (K_138 : St → Int32 → Prop) (a0 : Nat) (s_j239 : St) (x2j239 : Int32) : Prop := K_138 s_j239 (x2j239 + 1)
def wj_Mo_collect_227 (y : Ly) (Post : St → Int32 → Prop) (K_138 : St → Int32 → Prop) (K_156 : St → Int32 → Nat → Int32 → Prop) (K_199 : St → Int32 → Nat → Int32 → Int32 → Int32 → Prop) (a0 : Nat) (s_j227 : St) (x2j227 : Int32) (x3j227 : Nat) (x4j227 : Int32) (x5j227 : Int32) (x6j227 : Int32) : Prop := cl x3j227 = 12 ∧ K_199 s_j227 x2j227 x3j227 x4j227 x5j227 (x6j227 + 1)
def wb_Mo_collect_199 (y : Ly) (Post : St → Int32 → Prop) (K_138 : St → Int32 → Prop) (K_156 : St → Int32 → Nat → Int32 → Prop) (K_199 : St → Int32 → Nat → Int32 → Int32 → Int32 → Prop) (a0 : Nat) (s_h199 : St) (x2h199 : Int32) (x3h199 : Nat) (x4h199 : Int32) (x5h199 : Int32) (x6h199 : Int32) : Prop := cl x3h199 = 12 ∧ ((x5h199 ≤ x6h199 → K_156 s_h199 x2h199 x3h199 (x4h199 + 1)) ∧ (¬ (x5h199 ≤ x6h199) → xA y s_h199 x3h199 21 x6h199 (fun x_86 : Int32 => ((x_86 = 0 → wj_Mo_collect_227 y Post K_138 K_156 K_199 a0 s_h199 x2h199 x3h199 x4h199 x5h199 x6h199) ∧ (¬ (x_86 = 0) → xA y s_h199 x3h199 20 x6h199 (fun x_87 : Int32 => wu_Mo_mark y (fun (s_89 : St) => wj_Mo_collect_227 y Post K_138 K_156 K_199 a0 s_89 x2h199 x3h199 x4h199 x5h199 x6h199) s_h199 a0 x_87))))))
def wl_Mo_collect_199 (y : Ly) (Post : St → Int32 → Prop) (K_138 : St → Int32 → Prop) (K_156 : St → Int32 → Nat → Int32 → Prop) (a0 : Nat) (s_h199 : St) (x2h199 : Int32) (x3h199 : Nat) (x4h199 : Int32) (x5h199 : Int32) (x6h199 : Int32) : Prop := ∃ (I : St → Int32 → Nat → Int32 → Int32 → Int32 → Prop) (μ : St → Int32 → Nat → Int32 → Int32 → Int32 → Nat), I s_h199 x2h199 x3h199 x4h199 x5h199 x6h199 ∧ ∀ (u : St) (t0 : Int32) (t1 : Nat) (t2 : Int32) (t3 : Int32) (t4 : Int32), I u t0 t1 t2 t3 t4 → wb_Mo_collect_199 y Post K_138 K_156 (fun z t0q t1q t2q t3q t4q => I z t0q t1q t2q t3q t4q ∧ μ z t0q t1q t2q t3q t4q < μ u t0 t1 t2 t3 t4) a0 u t0 t1 t2 t3 t4
def wb_Mo_collect_156 (y : Ly) (Post : St → Int32 → Prop) (K_138 : St → Int32 → Prop) (K_156 : St → Int32 → Nat → Int32 → Prop) (a0 : Nat) (s_h156 : St) (x2h156 : Int32) (x3h156 : Nat) (x4h156 : Int32) : Prop := cl x3h156 = 12 ∧ (((sV s_h156 x3h156 0) = (-2) → wj_Mo_collect_239 y Post K_138 a0 s_h156 x2h156) ∧ (¬ ((sV s_h156 x3h156 0) = (-2)) → (((sV s_h156 x3h156 22) ≤ x4h156 → wj_Mo_collect_239 y Post K_138 a0 s_h156 x2h156) ∧ (¬ ((sV s_h156 x3h156 22) ≤ x4h156) → xA y s_h156 x3h156 19 x4h156 (fun x_85 : Int32 => wl_Mo_collect_199 y Post K_138 K_156 a0 s_h156 x2h156 x3h156 x4h156 (((44 * x4h156) + 20) + x_85) (44 * x4h156))))))
def wl_Mo_collect_156 (y : Ly) (Post : St → Int32 → Prop) (K_138 : St → Int32 → Prop) (a0 : Nat) (s_h156 : St) (x2h156 : Int32) (x3h156 : Nat) (x4h156 : Int32) : Prop := ∃ (I : St → Int32 → Nat → Int32 → Prop) (μ : St → Int32 → Nat → Int32 → Nat), I s_h156 x2h156 x3h156 x4h156 ∧ ∀ (u : St) (t0 : Int32) (t1 : Nat) (t2 : Int32), I u t0 t1 t2 → wb_Mo_collect_156 y Post K_138 (fun z t0q t1q t2q => I z t0q t1q t2q ∧ μ z t0q t1q t2q < μ u t0 t1 t2) a0 u t0 t1 t2
def wb_Mo_collect_138 (y : Ly) (Post : St → Int32 → Prop) (K_138 : St → Int32 → Prop) (a0 : Nat) (s_h138 : St) (x2h138 : Int32) : Prop := ((3 ≤ x2h138 → wl_Mo_collect_247 y Post a0 s_h138 0) ∧ (¬ (3 ≤ x2h138) → ∃ b_80 : Nat, sO s_h138 a0 45 = some b_80 ∧ cl b_80 = 13 ∧ xQ y b_80 62 x2h138 (fun b_83 : Nat => wl_Mo_collect_156 y Post K_138 a0 s_h138 x2h138 b_83 0)))
def wl_Mo_collect_138 (y : Ly) (Post : St → Int32 → Prop) (a0 : Nat) (s_h138 : St) (x2h138 : Int32) : Prop := ∃ (I : St → Int32 → Prop) (μ : St → Int32 → Nat), I s_h138 x2h138 ∧ ∀ (u : St) (t0 : Int32), I u t0 → wb_Mo_collect_138 y Post (fun z t0q => I z t0q ∧ μ z t0q < μ u t0) a0 u t0
def wj_Mo_collect_124 (y : Ly) (Post : St → Int32 → Prop) (K_50 : St → Int32 → Prop) (K_66 : St → Int32 → Int32 → Prop) (a0 : Nat) (s_j124 : St) (x2j124 : Int32) (x3j124 : Int32) : Prop := K_66 s_j124 x2j124 (x3j124 + 1)
def wb_Mo_collect_66 (y : Ly) (Post : St → Int32 → Prop) (K_50 : St → Int32 → Prop) (K_66 : St → Int32 → Int32 → Prop) (a0 : Nat) (s_h66 : St) (x2h66 : Int32) (x3h66 : Int32) : Prop := ∃ b_90 : Nat, sO s_h66 a0 45 = some b_90 ∧ cl b_90 = 13 ∧ xA y s_h66 b_90 8 x2h66 (fun x_93 : Int32 => ((((8 * x2h66) + x_93) ≤ x3h66 → K_50 s_h66 (x2h66 + 1)) ∧ (¬ (((8 * x2h66) + x_93) ≤ x3h66) → ∃ b_94 : Nat, sO s_h66 a0 45 = some b_94 ∧ cl b_94 = 13 ∧ xA y s_h66 b_94 14 x3h66 (fun x_97 : Int32 => (((x_97 &&& 1) = 0 → wj_Mo_collect_124 y Post K_50 K_66 a0 s_h66 x2h66 x3h66) ∧ (¬ ((x_97 &&& 1) = 0) → ∃ b_98 : Nat, sO s_h66 a0 45 = some b_98 ∧ cl b_98 = 13 ∧ xA y s_h66 b_98 13 x3h66 (fun x_101 : Int32 => ((x_101 = 1 → wj_Mo_collect_124 y Post K_50 K_66 a0 s_h66 x2h66 x3h66) ∧ (¬ (x_101 = 1) → ∃ b_102 : Nat, sO s_h66 a0 45 = some b_102 ∧ cl b_102 = 13 ∧ xA y s_h66 b_102 17 x3h66 (fun x_105 : Int32 => wu_Mo_mark y (fun (s_107 : St) => wj_Mo_collect_124 y Post K_50 K_66 a0 s_107 x2h66 x3h66) s_h66 a0 x_105))))))))))
def wl_Mo_collect_66 (y : Ly) (Post : St → Int32 → Prop) (K_50 : St → Int32 → Prop) (a0 : Nat) (s_h66 : St) (x2h66 : Int32) (x3h66 : Int32) : Prop := ∃ (I : St → Int32 → Int32 → Prop) (μ : St → Int32 → Int32 → Nat), I s_h66 x2h66 x3h66 ∧ ∀ (u : St) (t0 : Int32) (t1 : Int32), I u t0 t1 → wb_Mo_collect_66 y Post K_50 (fun z t0q t1q => I z t0q t1q ∧ μ z t0q t1q < μ u t0 t1) a0 u t0 t1
def wb_Mo_collect_50 (y : Ly) (Post : St → Int32 → Prop) (K_50 : St → Int32 → Prop) (a0 : Nat) (s_h50 : St) (x2h50 : Int32) : Prop := ∃ b_7 : Nat, sO s_h50 a0 45 = some b_7 ∧ cl b_7 = 13 ∧ (((sV s_h50 b_7 2) ≤ x2h50 → wl_Mo_collect_138 y Post a0 s_h50 0) ∧ (¬ ((sV s_h50 b_7 2) ≤ x2h50) → wl_Mo_collect_66 y Post K_50 a0 s_h50 x2h50 (8 * x2h50)))
def wl_Mo_collect_50 (y : Ly) (Post : St → Int32 → Prop) (a0 : Nat) (s_h50 : St) (x2h50 : Int32) : Prop := ∃ (I : St → Int32 → Prop) (μ : St → Int32 → Nat), I s_h50 x2h50 ∧ ∀ (u : St) (t0 : Int32), I u t0 → wb_Mo_collect_50 y Post (fun z t0q => I z t0q ∧ μ z t0q < μ u t0) a0 u t0
def wb_Mo_collect_27 (y : Ly) (Post : St → Int32 → Prop) (K_27 : St → Int32 → Prop) (a0 : Nat) (s_h27 : St) (x2h27 : Int32) : Prop := ((800 < x2h27 → wl_Mo_collect_50 y Post a0 s_h27 21) ∧ (¬ (800 < x2h27) → xS y s_h27 a0 110 x2h27 (vp_nar .boolean 0) (fun s_108 : St => K_27 s_108 (x2h27 + 1))))
def wl_Mo_collect_27 (y : Ly) (Post : St → Int32 → Prop) (a0 : Nat) (s_h27 : St) (x2h27 : Int32) : Prop := ∃ (I : St → Int32 → Prop) (μ : St → Int32 → Nat), I s_h27 x2h27 ∧ ∀ (u : St) (t0 : Int32), I u t0 → wb_Mo_collect_27 y Post (fun z t0q => I z t0q ∧ μ z t0q < μ u t0) a0 u t0
def wu_Mo_collect (y : Ly) (Post : St → Int32 → Prop) (σ : St) (a0 : Nat) (v1 : Int32) : Prop := wu_Mo_isWorld y (fun (s_2 : St) (r_1 : Int32) => ((¬ r_1 = 0 → xQ y a0 44 v1 (fun b_3 : Nat => xP (uO s_2 a0 45 (some b_3)) (fun s_5 : St => xP (uV s_5 a0 112 0) (fun s_6 : St => wl_Mo_collect_27 y Post a0 s_6 0)))) ∧ (r_1 = 0 → Post s_2 (-1)))) σ a0 v1
set_option maxHeartbeats 4000000 in
set_option maxRecDepth 100000 in
theorem cu_Mo_collect (l : Launch) (D : va_G) (g : Nat → ClassId) (ad : Nat → Nat) (y : Ly) (Post : St → Int32 → Prop) (σ : St) (a0 : Nat) (v1 : Int32) (sz : Nat) (h_a0 : cl a0 = 14) (h : wu_Mo_collect y Post σ a0 v1) : Met l y_Mo_collect (mw y_Mo_collect b_Mo_collect 7 (some .int)) ru_Mo_collect (PC g D [] [.ref (ad a0), .int v1] sz (ws g ad y σ)) (va_Qi (fun (r : Int32) (u : St) => Post u r) (QW D (va_A (ws g ad y σ) sz) (fun u => ws g ad y u)) (va_A (ws g ad y σ) sz)) 0 0 (va_A (ws g ad y σ) sz) := by
  refine ofI (by decide +kernel) (Nat.le_of_ble_eq_true rfl) ?_
  intro p e s m args below meth c A Q ls H locs G hsz hP hD hS hl hret
  subst hsz
  have hl : lv_has ls 7 [(0, .ref (ad a0)), (1, .int v1)] := hl
  unfold wu_Mo_collect at h
  refine lv_aload_n G.1 G.2.1 d_Mo_collect_0 rfl (lv_at hl 0 rfl) ?_
  refine lv_iload_n G.1 G.2.1 d_Mo_collect_1 rfl (lv_at hl 1 rfl) ?_
  refine ucVi (As := [.int v1]) (rest := []) G hP hD hS (cu_Mo_isWorld l D g ad y _ σ a0 v1 H.size h_a0 h) w9_Mo_isWorld q3482 ⟨Nat.le_of_ble_eq_true rfl, Nat.le_of_ble_eq_true rfl⟩ rfl rfl h_a0 (q := (RMo, TMo, 131)) rfl rfl hl.1 rfl (Nat.le_of_ble_eq_true rfl) rfl ⟨Nat.le_refl _, Nat.le_refl _⟩ d_Mo_collect_2 (fun r_1 s_2 H locs h hP hD hS => ?_)
  refine lv_if_ne (tgt := 10) G.1 G.2.1 d_Mo_collect_5 (by decide) (fun c5 => ?_) (fun c5 => ?_)
  · skip
    have h := h.1 c5
    refine lv_aload_n G.1 G.2.1 d_Mo_collect_10 rfl (lv_at hl 0 rfl) ?_
    refine lv_aload_n G.1 G.2.1 d_Mo_collect_11 rfl (lv_at hl 0 rfl) ?_
    refine ugf (v := .ref (yP y a0 44)) G hP h_a0 iMo rfl 44 (by decide) rfl q3108 rfl rfl d_Mo_collect_12 ?_
    refine lv_iload_n G.1 G.2.1 d_Mo_collect_15 rfl (lv_at hl 1 rfl) ?_
    refine uqald G hP (kdp h_a0 rfl) (typ h_a0 rfl) rfl h d_Mo_collect_16 (fun b_3 n_4 h => ?_)
    refine upf G hP hD hS h 45 putO h_a0 iMo tMo tMo_ok nMo rfl (by decide) rfl q3109 rfl rfl fO rfl rfl d_Mo_collect_17 (fun s_5 H locs h hP hD hS => ?_)
    refine lv_aload_n G.1 G.2.1 d_Mo_collect_20 rfl (lv_at hl 0 rfl) ?_
    refine W.eq (g2 := F0 m 21 ls [.ref (ad a0)]) rfl ?_
    refine lv_iconst (v := 0) G.1 G.2.1 d_Mo_collect_21 (by decide) ?_
    refine upf G hP hD hS h 112 putV h_a0 iMo tMo tMo_ok nMo rfl (by decide) rfl q3176 rfl rfl fV rfl rfl d_Mo_collect_22 (fun s_6 H locs h hP hD hS => ?_)
    refine lv_iconst (v := 0) G.1 G.2.1 d_Mo_collect_25 (by decide) ?_
    refine lv_istore_n (lv' := [(2, .int 0), (0, .ref (ad a0)), (1, .int v1)]) G.1 G.2.1 d_Mo_collect_26 rfl hl (by decide) rfl (fun ls hl => ?_)
    unfold wl_Mo_collect_27 at h
    obtain ⟨I_27, μ_27, hI_27, hB_27⟩ := h
    have L_27 : ∀ (n_27 : Nat) (s_h27 : St) (x2h27 : Int32), μ_27 s_h27 x2h27 < n_27 → I_27 s_h27 x2h27 → ∀ (H : Heap) (locs : List Loc), va_P D CL (ws g ad y s_h27) H → va_D A (ws g ad y s_h27) → va_S A s.heap H locs → ∀ ls, lv_has ls 7 [(0, .ref (ad a0)), (2, .int x2h27)] → W p l e ru_Mo_collect s m args below meth c H locs 0 0 Q (F0 m 27 ls []) := by
      intro n_27
      induction n_27 with
      | zero => intro s_h27 x2h27 hμ; exact absurd hμ (Nat.not_lt_zero _)
      | succ n_27 ih_27 =>
        intro s_h27 x2h27 hμ_27 hJ H locs hP hD hS ls hl
        obtain ⟨K_27, hK_27, h⟩ : ∃ K : St → Int32 → Prop, (∀ z (t0 : Int32), K z t0 → I_27 z t0 ∧ μ_27 z t0 < μ_27 s_h27 x2h27) ∧ wb_Mo_collect_27 y Post K a0 s_h27 x2h27 := ⟨_, fun _ _ h => h, hB_27 s_h27 x2h27 hJ⟩
        unfold wb_Mo_collect_27 at h
        refine lv_iload_n G.1 G.2.1 d_Mo_collect_27 rfl (lv_at hl 1 rfl) ?_
        refine lv_sipush (v := 800) G.1 G.2.1 d_Mo_collect_28 (by decide) ?_
        refine lv_icmp_gt (tgt := 47) G.1 G.2.1 d_Mo_collect_31 (by decide) (fun c31 => ?_) (fun c31 => ?_)
        · skip
          have h := h.1 c31
          refine lv_bipush (v := 21) G.1 G.2.1 d_Mo_collect_47 (by decide) ?_
          refine lv_istore_n (lv' := [(2, .int 21), (0, .ref (ad a0))]) G.1 G.2.1 d_Mo_collect_49 rfl hl (by decide) rfl (fun ls hl => ?_)
          unfold wl_Mo_collect_50 at h
          obtain ⟨I_50, μ_50, hI_50, hB_50⟩ := h
          have L_50 : ∀ (n_50 : Nat) (s_h50 : St) (x2h50 : Int32), μ_50 s_h50 x2h50 < n_50 → I_50 s_h50 x2h50 → ∀ (H : Heap) (locs : List Loc), va_P D CL (ws g ad y s_h50) H → va_D A (ws g ad y s_h50) → va_S A s.heap H locs → ∀ ls, lv_has ls 7 [(0, .ref (ad a0)), (2, .int x2h50)] → W p l e ru_Mo_collect s m args below meth c H locs 0 0 Q (F0 m 50 ls []) := by
            intro n_50
            induction n_50 with
            | zero => intro s_h50 x2h50 hμ; exact absurd hμ (Nat.not_lt_zero _)
            | succ n_50 ih_50 =>
              intro s_h50 x2h50 hμ_50 hJ H locs hP hD hS ls hl
              obtain ⟨K_50, hK_50, h⟩ : ∃ K : St → Int32 → Prop, (∀ z (t0 : Int32), K z t0 → I_50 z t0 ∧ μ_50 z t0 < μ_50 s_h50 x2h50) ∧ wb_Mo_collect_50 y Post K a0 s_h50 x2h50 := ⟨_, fun _ _ h => h, hB_50 s_h50 x2h50 hJ⟩
              unfold wb_Mo_collect_50 at h
              refine lv_iload_n G.1 G.2.1 d_Mo_collect_50 rfl (lv_at hl 1 rfl) ?_
              refine lv_aload_n G.1 G.2.1 d_Mo_collect_51 rfl (lv_at hl 0 rfl) ?_
              obtain ⟨b_7, e_8, c_9, h⟩ := h
              refine ugf (v := .ref (ad b_7)) G hP h_a0 iMo rfl 45 (by decide) rfl q3109 rfl (by show va_rf ((sO s_h50 a0 45).map ad) = _; rw [e_8]; rfl) d_Mo_collect_52 ?_
              refine ugfN (v := .int (sV s_h50 b_7 2)) G hP c_9 iMw rfl 2 (by decide) rfl q2708 rfl rfl d_Mo_collect_55 ?_
              refine lv_icmp_ge (tgt := 136) G.1 G.2.1 d_Mo_collect_58 (by decide) (fun c58 => ?_) (fun c58 => ?_)
              · skip
                have h := h.1 c58
                refine lv_iconst (v := 0) G.1 G.2.1 d_Mo_collect_136 (by decide) ?_
                refine lv_istore_n (lv' := [(2, .int 0), (0, .ref (ad a0))]) G.1 G.2.1 d_Mo_collect_137 rfl hl (by decide) rfl (fun ls hl => ?_)
                unfold wl_Mo_collect_138 at h
                obtain ⟨I_138, μ_138, hI_138, hB_138⟩ := h
                have L_138 : ∀ (n_138 : Nat) (s_h138 : St) (x2h138 : Int32), μ_138 s_h138 x2h138 < n_138 → I_138 s_h138 x2h138 → ∀ (H : Heap) (locs : List Loc), va_P D CL (ws g ad y s_h138) H → va_D A (ws g ad y s_h138) → va_S A s.heap H locs → ∀ ls, lv_has ls 7 [(0, .ref (ad a0)), (2, .int x2h138)] → W p l e ru_Mo_collect s m args below meth c H locs 0 0 Q (F0 m 138 ls []) := by
                  intro n_138
                  induction n_138 with
                  | zero => intro s_h138 x2h138 hμ; exact absurd hμ (Nat.not_lt_zero _)
                  | succ n_138 ih_138 =>
                    intro s_h138 x2h138 hμ_138 hJ H locs hP hD hS ls hl
                    obtain ⟨K_138, hK_138, h⟩ : ∃ K : St → Int32 → Prop, (∀ z (t0 : Int32), K z t0 → I_138 z t0 ∧ μ_138 z t0 < μ_138 s_h138 x2h138) ∧ wb_Mo_collect_138 y Post K a0 s_h138 x2h138 := ⟨_, fun _ _ h => h, hB_138 s_h138 x2h138 hJ⟩
                    unfold wb_Mo_collect_138 at h
                    refine lv_iload_n G.1 G.2.1 d_Mo_collect_138 rfl (lv_at hl 1 rfl) ?_
                    refine lv_iconst (v := 3) G.1 G.2.1 d_Mo_collect_139 (by decide) ?_
                    refine lv_icmp_ge (tgt := 245) G.1 G.2.1 d_Mo_collect_140 (by decide) (fun c140 => ?_) (fun c140 => ?_)
                    · skip
                      have h := h.1 c140
                      refine lv_iconst (v := 0) G.1 G.2.1 d_Mo_collect_245 (by decide) ?_
                      refine lv_istore_n (lv' := [(2, .int 0), (0, .ref (ad a0))]) G.1 G.2.1 d_Mo_collect_246 rfl hl (by decide) rfl (fun ls hl => ?_)
                      unfold wl_Mo_collect_247 at h
                      obtain ⟨I_247, μ_247, hI_247, hB_247⟩ := h
                      have L_247 : ∀ (n_247 : Nat) (s_h247 : St) (x2h247 : Int32), μ_247 s_h247 x2h247 < n_247 → I_247 s_h247 x2h247 → ∀ (H : Heap) (locs : List Loc), va_P D CL (ws g ad y s_h247) H → va_D A (ws g ad y s_h247) → va_S A s.heap H locs → ∀ ls, lv_has ls 7 [(0, .ref (ad a0)), (2, .int x2h247)] → W p l e ru_Mo_collect s m args below meth c H locs 0 0 Q (F0 m 247 ls []) := by
                        intro n_247
                        induction n_247 with
                        | zero => intro s_h247 x2h247 hμ; exact absurd hμ (Nat.not_lt_zero _)
                        | succ n_247 ih_247 =>
                          intro s_h247 x2h247 hμ_247 hJ H locs hP hD hS ls hl
                          obtain ⟨K_247, hK_247, h⟩ : ∃ K : St → Int32 → Prop, (∀ z (t0 : Int32), K z t0 → I_247 z t0 ∧ μ_247 z t0 < μ_247 s_h247 x2h247) ∧ wb_Mo_collect_247 y Post K a0 s_h247 x2h247 := ⟨_, fun _ _ h => h, hB_247 s_h247 x2h247 hJ⟩
                          unfold wb_Mo_collect_247 at h
                          refine lv_iload_n G.1 G.2.1 d_Mo_collect_247 rfl (lv_at hl 1 rfl) ?_
                          refine lv_aload_n G.1 G.2.1 d_Mo_collect_248 rfl (lv_at hl 0 rfl) ?_
                          refine ugf (v := .int (sV s_h247 a0 112)) G hP h_a0 iMo rfl 112 (by decide) rfl q3176 rfl rfl d_Mo_collect_249 ?_
                          refine lv_icmp_ge (tgt := 343) G.1 G.2.1 d_Mo_collect_252 (by decide) (fun c252 => ?_) (fun c252 => ?_)
                          · skip
                            have h := h.1 c252
                            refine lv_iconst (v := 0) G.1 G.2.1 d_Mo_collect_343 (by decide) ?_
                            refine lv_istore_n (lv' := [(2, .int 0), (0, .ref (ad a0))]) G.1 G.2.1 d_Mo_collect_344 rfl hl (by decide) rfl (fun ls hl => ?_)
                            refine lv_iconst (v := 0) G.1 G.2.1 d_Mo_collect_345 (by decide) ?_
                            refine lv_istore_n (lv' := [(3, .int 0), (2, .int 0), (0, .ref (ad a0))]) G.1 G.2.1 d_Mo_collect_346 rfl hl (by decide) rfl (fun ls hl => ?_)
                            refine lv_iconst (v := 1) G.1 G.2.1 d_Mo_collect_347 (by decide) ?_
                            refine lv_istore (lv' := [(4, .int 1), (3, .int 0), (2, .int 0), (0, .ref (ad a0))]) G.1 G.2.1 d_Mo_collect_348 hl (by decide) rfl (fun ls hl => ?_)
                            unfold wl_Mo_collect_350 at h
                            obtain ⟨I_350, μ_350, hI_350, hB_350⟩ := h
                            have L_350 : ∀ (n_350 : Nat) (s_h350 : St) (x2h350 : Int32) (x3h350 : Int32) (x4h350 : Int32), μ_350 s_h350 x2h350 x3h350 x4h350 < n_350 → I_350 s_h350 x2h350 x3h350 x4h350 → ∀ (H : Heap) (locs : List Loc), va_P D CL (ws g ad y s_h350) H → va_D A (ws g ad y s_h350) → va_S A s.heap H locs → ∀ ls, lv_has ls 7 [(0, .ref (ad a0)), (2, .int x2h350), (3, .int x3h350), (4, .int x4h350)] → W p l e ru_Mo_collect s m args below meth c H locs 0 0 Q (F0 m 350 ls []) := by
                              intro n_350
                              induction n_350 with
                              | zero => intro s_h350 x2h350 x3h350 x4h350 hμ; exact absurd hμ (Nat.not_lt_zero _)
                              | succ n_350 ih_350 =>
                                intro s_h350 x2h350 x3h350 x4h350 hμ_350 hJ H locs hP hD hS ls hl
                                obtain ⟨K_350, hK_350, h⟩ : ∃ K : St → Int32 → Int32 → Int32 → Prop, (∀ z (t0 : Int32) (t1 : Int32) (t2 : Int32), K z t0 t1 t2 → I_350 z t0 t1 t2 ∧ μ_350 z t0 t1 t2 < μ_350 s_h350 x2h350 x3h350 x4h350) ∧ wb_Mo_collect_350 y Post K a0 s_h350 x2h350 x3h350 x4h350 := ⟨_, fun _ _ _ _ h => h, hB_350 s_h350 x2h350 x3h350 x4h350 hJ⟩
                                unfold wb_Mo_collect_350 at h
                                refine lv_iload G.1 G.2.1 d_Mo_collect_350 (lv_at hl 3 rfl) ?_
                                refine lv_sipush (v := 800) G.1 G.2.1 d_Mo_collect_352 (by decide) ?_
                                refine lv_icmp_gt (tgt := 500) G.1 G.2.1 d_Mo_collect_355 (by decide) (fun c355 => ?_) (fun c355 => ?_)
                                · skip
                                  have h := h.1 c355
                                  refine lv_aload_n G.1 G.2.1 d_Mo_collect_500 rfl (lv_at hl 0 rfl) ?_
                                  refine ugf (v := .ref (yP y a0 113)) G hP h_a0 iMo rfl 113 (by decide) rfl q3177 rfl rfl d_Mo_collect_501 ?_
                                  refine lv_iconst (v := 0) G.1 G.2.1 d_Mo_collect_504 (by decide) ?_
                                  refine lv_aload_n G.1 G.2.1 d_Mo_collect_505 rfl (lv_at hl 0 rfl) ?_
                                  obtain ⟨b_10, e_11, c_12, h⟩ := h
                                  refine ugf (v := .ref (ad b_10)) G hP h_a0 iMo rfl 45 (by decide) rfl q3109 rfl (by show va_rf ((sO s_h350 a0 45).map ad) = _; rw [e_11]; rfl) d_Mo_collect_506 ?_
                                  refine ugfN (v := .ref (yP y b_10 51)) G hP c_12 iMw rfl 51 (by decide) rfl q2801 rfl rfl d_Mo_collect_509 ?_
                                  refine lv_iconst (v := 0) G.1 G.2.1 d_Mo_collect_512 (by decide) ?_
                                  refine lv_iload_n G.1 G.2.1 d_Mo_collect_513 rfl (lv_at hl 2 rfl) ?_
                                  refine W.eq (g2 := F0 m 514 ls [.int x3h350, .int 0, .ref (yP y b_10 51), .int 0, .ref (yP y a0 113)]) rfl ?_
                                  refine ucpy G hP hD hS (kdp h_a0 rfl) (typ h_a0 rfl) (kdp c_12 rfl) (typ c_12 rfl) rfl rfl h hl.1 q2595 q488 q487 q338 (Nat.le_of_ble_eq_true rfl) (Nat.le_of_ble_eq_true rfl) d_Mo_collect_514 (fun s_13 H locs h hP hD hS => ?_)
                                  refine lv_aload_n G.1 G.2.1 d_Mo_collect_517 rfl (lv_at hl 0 rfl) ?_
                                  obtain ⟨b_14, e_15, c_16, h⟩ := h
                                  refine ugf (v := .ref (ad b_14)) G hP h_a0 iMo rfl 45 (by decide) rfl q3109 rfl (by show va_rf ((sO s_13 a0 45).map ad) = _; rw [e_15]; rfl) d_Mo_collect_518 ?_
                                  refine lv_iload_n G.1 G.2.1 d_Mo_collect_521 rfl (lv_at hl 2 rfl) ?_
                                  refine upfN G hP hD hS h 52 putV c_16 iMw tMw tMw_ok nMw rfl (by decide) rfl q2802 rfl rfl fV rfl rfl d_Mo_collect_522 (fun s_17 H locs h hP hD hS => ?_)
                                  refine lv_iload_n G.1 G.2.1 d_Mo_collect_525 rfl (lv_at hl 1 rfl) ?_
                                  exact hret _ _ _ _ _ _ _ ls h hP hD hS (Nat.le_refl _) (Nat.le_refl _) d_Mo_collect_526
                                · skip
                                  have h := h.2 c355
                                  refine lv_aload_n G.1 G.2.1 d_Mo_collect_358 rfl (lv_at hl 0 rfl) ?_
                                  obtain ⟨b_18, e_19, c_20, h⟩ := h
                                  refine ugf (v := .ref (ad b_18)) G hP h_a0 iMo rfl 45 (by decide) rfl q3109 rfl (by show va_rf ((sO s_h350 a0 45).map ad) = _; rw [e_19]; rfl) d_Mo_collect_359 ?_
                                  refine ugfN (v := .ref (yP y b_18 49)) G hP c_20 iMw rfl 49 (by decide) rfl q2798 rfl rfl d_Mo_collect_362 ?_
                                  refine lv_iload G.1 G.2.1 d_Mo_collect_365 (lv_at hl 3 rfl) ?_
                                  refine uzald G hP (kdp c_20 rfl) (typ c_20 rfl) h d_Mo_collect_367 (fun x_21 h => ?_)
                                  have J_494 : ∀ (s_j494 : St) (x2j494 : Int32) (x3j494 : Int32) (x4j494 : Int32) (H : Heap) (locs : List Loc), wj_Mo_collect_494 y Post K_350 a0 s_j494 x2j494 x3j494 x4j494 → va_P D CL (ws g ad y s_j494) H → va_D A (ws g ad y s_j494) → va_S A s.heap H locs → ∀ ls, lv_has ls 7 [(0, .ref (ad a0)), (2, .int x2j494), (3, .int x3j494), (4, .int x4j494)] → W p l e ru_Mo_collect s m args below meth c H locs 0 0 Q (F0 m 494 ls []) := by
                                    intro s_j494 x2j494 x3j494 x4j494 H locs h hP hD hS ls hl
                                    unfold wj_Mo_collect_494 at h
                                    refine lv_iinc (v := x4j494 + 1) (lv' := [(4, .int (x4j494 + 1)), (0, .ref (ad a0)), (2, .int x2j494), (3, .int x3j494)]) G.1 G.2.1 d_Mo_collect_494 hl (k := 3) rfl rfl (by decide) rfl (fun ls hl => ?_)
                                    refine lv_goto (tgt := 350) G.1 G.2.1 d_Mo_collect_497 (by decide) ?_
                                    have h := hK_350 s_j494 x2j494 x3j494 (x4j494 + 1) h
                                    exact ih_350 s_j494 x2j494 x3j494 (x4j494 + 1) (Nat.lt_of_lt_of_le h.2 (Nat.le_of_lt_succ hμ_350)) h.1 H locs hP hD hS ls (lv_sub hl [1, 2, 3, 0] rfl)
                                  have J_422 : ∀ (s_j422 : St) (x2j422 : Int32) (x3j422 : Int32) (x4j422 : Int32) (H : Heap) (locs : List Loc), wj_Mo_collect_422 y Post K_350 a0 s_j422 x2j422 x3j422 x4j422 → va_P D CL (ws g ad y s_j422) H → va_D A (ws g ad y s_j422) → va_S A s.heap H locs → ∀ ls, lv_has ls 7 [(0, .ref (ad a0)), (2, .int x2j422), (3, .int x3j422), (4, .int x4j422)] → W p l e ru_Mo_collect s m args below meth c H locs 0 0 Q (F0 m 422 ls []) := by
                                    intro s_j422 x2j422 x3j422 x4j422 H locs h hP hD hS ls hl
                                    unfold wj_Mo_collect_422 at h
                                    refine lv_aload_n G.1 G.2.1 d_Mo_collect_422 rfl (lv_at hl 0 rfl) ?_
                                    obtain ⟨b_22, e_23, c_24, h⟩ := h
                                    refine ugf (v := .ref (ad b_22)) G hP h_a0 iMo rfl 45 (by decide) rfl q3109 rfl (by show va_rf ((sO s_j422 a0 45).map ad) = _; rw [e_23]; rfl) d_Mo_collect_423 ?_
                                    refine ugfN (v := .ref (yP y b_22 49)) G hP c_24 iMw rfl 49 (by decide) rfl q2798 rfl rfl d_Mo_collect_426 ?_
                                    refine lv_iload G.1 G.2.1 d_Mo_collect_429 (lv_at hl 3 rfl) ?_
                                    refine uzald G hP (kdp c_24 rfl) (typ c_24 rfl) h d_Mo_collect_431 (fun x_25 h => ?_)
                                    refine lv_if_eq (tgt := 494) G.1 G.2.1 d_Mo_collect_432 (by decide) (fun c432 => ?_) (fun c432 => ?_)
                                    · skip
                                      have h := h.1 c432
                                      exact J_494 s_j422 x2j422 x3j422 x4j422 H locs h hP hD hS ls (lv_sub hl [0, 1, 2, 3] rfl)
                                    · skip
                                      have h := h.2 c432
                                      refine lv_aload_n G.1 G.2.1 d_Mo_collect_435 rfl (lv_at hl 0 rfl) ?_
                                      obtain ⟨b_26, e_27, c_28, h⟩ := h
                                      refine ugf (v := .ref (ad b_26)) G hP h_a0 iMo rfl 45 (by decide) rfl q3109 rfl (by show va_rf ((sO s_j422 a0 45).map ad) = _; rw [e_27]; rfl) d_Mo_collect_436 ?_
                                      refine ugfN (v := .ref (yP y b_26 51)) G hP c_28 iMw rfl 51 (by decide) rfl q2801 rfl rfl d_Mo_collect_439 ?_
                                      refine lv_aload_n G.1 G.2.1 d_Mo_collect_442 rfl (lv_at hl 0 rfl) ?_
                                      obtain ⟨b_29, e_30, c_31, h⟩ := h
                                      refine ugf (v := .ref (ad b_29)) G hP h_a0 iMo rfl 45 (by decide) rfl q3109 rfl (by show va_rf ((sO s_j422 a0 45).map ad) = _; rw [e_30]; rfl) d_Mo_collect_443 ?_
                                      refine W.eq (g2 := F0 m 446 ls [.ref (ad b_29), .ref (yP y b_26 51)]) rfl ?_
                                      refine ugfN (v := .ref (yP y b_29 46)) G hP c_31 iMw rfl 46 (by decide) rfl q2792 rfl rfl d_Mo_collect_446 ?_
                                      refine lv_iload G.1 G.2.1 d_Mo_collect_449 (lv_at hl 3 rfl) ?_
                                      refine uiald G hP (kdp c_31 rfl) (typ c_31 rfl) h d_Mo_collect_451 (fun x_32 h => ?_)
                                      refine lv_aload_n G.1 G.2.1 d_Mo_collect_452 rfl (lv_at hl 0 rfl) ?_
                                      refine ugf (v := .ref (yP y a0 113)) G hP h_a0 iMo rfl 113 (by decide) rfl q3177 rfl rfl d_Mo_collect_453 ?_
                                      refine lv_iload_n G.1 G.2.1 d_Mo_collect_456 rfl (lv_at hl 2 rfl) ?_
                                      refine lv_aload_n G.1 G.2.1 d_Mo_collect_457 rfl (lv_at hl 0 rfl) ?_
                                      obtain ⟨b_33, e_34, c_35, h⟩ := h
                                      refine ugf (v := .ref (ad b_33)) G hP h_a0 iMo rfl 45 (by decide) rfl q3109 rfl (by show va_rf ((sO s_j422 a0 45).map ad) = _; rw [e_34]; rfl) d_Mo_collect_458 ?_
                                      refine ugfN (v := .ref (yP y b_33 47)) G hP c_35 iMw rfl 47 (by decide) rfl q2794 rfl rfl d_Mo_collect_461 ?_
                                      refine lv_iload G.1 G.2.1 d_Mo_collect_464 (lv_at hl 3 rfl) ?_
                                      refine uiald G hP (kdp c_35 rfl) (typ c_35 rfl) h d_Mo_collect_466 (fun x_36 h => ?_)
                                      refine ucpy G hP hD hS (kdp c_28 rfl) (typ c_28 rfl) (kdp h_a0 rfl) (typ h_a0 rfl) rfl rfl h hl.1 q2595 q488 q487 q338 (Nat.le_of_ble_eq_true rfl) (Nat.le_of_ble_eq_true rfl) d_Mo_collect_467 (fun s_37 H locs h hP hD hS => ?_)
                                      refine W.eq (g2 := F0 m 470 ls []) rfl ?_
                                      refine lv_aload_n G.1 G.2.1 d_Mo_collect_470 rfl (lv_at hl 0 rfl) ?_
                                      obtain ⟨b_38, e_39, c_40, h⟩ := h
                                      refine ugf (v := .ref (ad b_38)) G hP h_a0 iMo rfl 45 (by decide) rfl q3109 rfl (by show va_rf ((sO s_37 a0 45).map ad) = _; rw [e_39]; rfl) d_Mo_collect_471 ?_
                                      refine ugfN (v := .ref (yP y b_38 46)) G hP c_40 iMw rfl 46 (by decide) rfl q2792 rfl rfl d_Mo_collect_474 ?_
                                      refine lv_iload G.1 G.2.1 d_Mo_collect_477 (lv_at hl 3 rfl) ?_
                                      refine lv_iload_n G.1 G.2.1 d_Mo_collect_479 rfl (lv_at hl 2 rfl) ?_
                                      refine uiast G hP hD hS (kdp c_40 rfl) (typ c_40 rfl) h d_Mo_collect_480 (fun s_41 H locs h hP hD hS => ?_)
                                      refine lv_iload_n G.1 G.2.1 d_Mo_collect_481 rfl (lv_at hl 2 rfl) ?_
                                      refine lv_aload_n G.1 G.2.1 d_Mo_collect_482 rfl (lv_at hl 0 rfl) ?_
                                      obtain ⟨b_42, e_43, c_44, h⟩ := h
                                      refine ugf (v := .ref (ad b_42)) G hP h_a0 iMo rfl 45 (by decide) rfl q3109 rfl (by show va_rf ((sO s_41 a0 45).map ad) = _; rw [e_43]; rfl) d_Mo_collect_483 ?_
                                      refine ugfN (v := .ref (yP y b_42 47)) G hP c_44 iMw rfl 47 (by decide) rfl q2794 rfl rfl d_Mo_collect_486 ?_
                                      refine lv_iload G.1 G.2.1 d_Mo_collect_489 (lv_at hl 3 rfl) ?_
                                      refine uiald G hP (kdp c_44 rfl) (typ c_44 rfl) h d_Mo_collect_491 (fun x_45 h => ?_)
                                      refine W.eq (g2 := F0 m 492 ls [.int x_45, .int x3j422]) rfl ?_
                                      refine lv_iadd G.1 G.2.1 d_Mo_collect_492 ?_
                                      refine lv_istore_n (lv' := [(3, .int (x3j422 + x_45)), (0, .ref (ad a0)), (2, .int x2j422), (4, .int x4j422)]) G.1 G.2.1 d_Mo_collect_493 rfl hl (by decide) rfl (fun ls hl => ?_)
                                      exact J_494 s_41 x2j422 (x3j422 + x_45) x4j422 H locs h hP hD hS ls (lv_sub hl [1, 2, 0, 3] rfl)
                                  refine lv_if_eq (tgt := 422) G.1 G.2.1 d_Mo_collect_368 (by decide) (fun c368 => ?_) (fun c368 => ?_)
                                  · skip
                                    have h := h.1 c368
                                    exact J_422 s_h350 x2h350 x3h350 x4h350 H locs h hP hD hS ls (lv_sub hl [0, 1, 2, 3] rfl)
                                  · skip
                                    have h := h.2 c368
                                    refine lv_aload_n G.1 G.2.1 d_Mo_collect_371 rfl (lv_at hl 0 rfl) ?_
                                    refine ugf (v := .ref (yP y a0 110)) G hP h_a0 iMo rfl 110 (by decide) rfl q3174 rfl rfl d_Mo_collect_372 ?_
                                    refine W.eq (g2 := F0 m 375 ls [.ref (yP y a0 110)]) rfl ?_
                                    refine lv_iload G.1 G.2.1 d_Mo_collect_375 (lv_at hl 3 rfl) ?_
                                    refine uzald G hP (kdp h_a0 rfl) (typ h_a0 rfl) h d_Mo_collect_377 (fun x_46 h => ?_)
                                    refine lv_if_ne (tgt := 422) G.1 G.2.1 d_Mo_collect_378 (by decide) (fun c378 => ?_) (fun c378 => ?_)
                                    · skip
                                      have h := h.1 c378
                                      exact J_422 s_h350 x2h350 x3h350 x4h350 H locs h hP hD hS ls (lv_sub hl [0, 1, 2, 3] rfl)
                                    · skip
                                      have h := h.2 c378
                                      refine lv_aload_n G.1 G.2.1 d_Mo_collect_381 rfl (lv_at hl 0 rfl) ?_
                                      obtain ⟨b_47, e_48, c_49, h⟩ := h
                                      refine ugf (v := .ref (ad b_47)) G hP h_a0 iMo rfl 45 (by decide) rfl q3109 rfl (by show va_rf ((sO s_h350 a0 45).map ad) = _; rw [e_48]; rfl) d_Mo_collect_382 ?_
                                      refine ugfN (v := .ref (yP y b_47 49)) G hP c_49 iMw rfl 49 (by decide) rfl q2798 rfl rfl d_Mo_collect_385 ?_
                                      refine lv_iload G.1 G.2.1 d_Mo_collect_388 (lv_at hl 3 rfl) ?_
                                      refine lv_iconst (v := 0) G.1 G.2.1 d_Mo_collect_390 (by decide) ?_
                                      refine uzast G hP hD hS (kdp c_49 rfl) (typ c_49 rfl) h d_Mo_collect_391 (fun s_50 H locs h hP hD hS => ?_)
                                      refine lv_aload_n G.1 G.2.1 d_Mo_collect_392 rfl (lv_at hl 0 rfl) ?_
                                      obtain ⟨b_51, e_52, c_53, h⟩ := h
                                      refine ugf (v := .ref (ad b_51)) G hP h_a0 iMo rfl 45 (by decide) rfl q3109 rfl (by show va_rf ((sO s_50 a0 45).map ad) = _; rw [e_52]; rfl) d_Mo_collect_393 ?_
                                      refine ugfN (v := .ref (yP y b_51 48)) G hP c_53 iMw rfl 48 (by decide) rfl q2796 rfl rfl d_Mo_collect_396 ?_
                                      refine W.eq (g2 := F0 m 399 ls [.ref (yP y b_51 48)]) rfl ?_
                                      refine lv_iload G.1 G.2.1 d_Mo_collect_399 (lv_at hl 3 rfl) ?_
                                      refine lv_iconst (v := 0) G.1 G.2.1 d_Mo_collect_401 (by decide) ?_
                                      refine uiast G hP hD hS (kdp c_53 rfl) (typ c_53 rfl) h d_Mo_collect_402 (fun s_54 H locs h hP hD hS => ?_)
                                      refine lv_aload_n G.1 G.2.1 d_Mo_collect_403 rfl (lv_at hl 0 rfl) ?_
                                      obtain ⟨b_55, e_56, c_57, h⟩ := h
                                      refine ugf (v := .ref (ad b_55)) G hP h_a0 iMo rfl 45 (by decide) rfl q3109 rfl (by show va_rf ((sO s_54 a0 45).map ad) = _; rw [e_56]; rfl) d_Mo_collect_404 ?_
                                      refine lv_dup G.1 G.2.1 d_Mo_collect_407 rfl ?_
                                      refine ugfN (v := .int (sV s_54 b_55 50)) G hP c_57 iMw rfl 50 (by decide) rfl q2799 rfl rfl d_Mo_collect_408 ?_
                                      refine lv_iconst (v := 1) G.1 G.2.1 d_Mo_collect_411 (by decide) ?_
                                      refine lv_isub G.1 G.2.1 d_Mo_collect_412 ?_
                                      refine upfN G hP hD hS h 50 putV c_57 iMw tMw tMw_ok nMw rfl (by decide) rfl q2799 rfl rfl fV rfl rfl d_Mo_collect_413 (fun s_58 H locs h hP hD hS => ?_)
                                      refine lv_iinc (v := x2h350 + 1) (lv' := [(2, .int (x2h350 + 1)), (0, .ref (ad a0)), (3, .int x3h350), (4, .int x4h350)]) G.1 G.2.1 d_Mo_collect_416 hl (k := 1) rfl rfl (by decide) rfl (fun ls hl => ?_)
                                      refine lv_goto (tgt := 494) G.1 G.2.1 d_Mo_collect_419 (by decide) ?_
                                      exact J_494 s_58 (x2h350 + 1) x3h350 x4h350 H locs h hP hD hS ls (lv_sub hl [1, 0, 2, 3] rfl)
                            exact L_350 _ s_h247 0 0 1 (Nat.lt_succ_self _) hI_350 H locs hP hD hS ls (lv_sub hl [3, 2, 1, 0] rfl)
                          · skip
                            have h := h.2 c252
                            refine lv_aload_n G.1 G.2.1 d_Mo_collect_255 rfl (lv_at hl 0 rfl) ?_
                            refine ugf (v := .ref (yP y a0 111)) G hP h_a0 iMo rfl 111 (by decide) rfl q3175 rfl rfl d_Mo_collect_256 ?_
                            refine lv_iload_n G.1 G.2.1 d_Mo_collect_259 rfl (lv_at hl 1 rfl) ?_
                            refine uiald G hP (kdp h_a0 rfl) (typ h_a0 rfl) h d_Mo_collect_260 (fun x_59 h => ?_)
                            refine lv_istore_n (lv' := [(3, .int x_59), (0, .ref (ad a0)), (2, .int x2h247)]) G.1 G.2.1 d_Mo_collect_261 rfl hl (by decide) rfl (fun ls hl => ?_)
                            refine lv_aload_n G.1 G.2.1 d_Mo_collect_262 rfl (lv_at hl 1 rfl) ?_
                            obtain ⟨b_60, e_61, c_62, h⟩ := h
                            refine ugf (v := .ref (ad b_60)) G hP h_a0 iMo rfl 45 (by decide) rfl q3109 rfl (by show va_rf ((sO s_h247 a0 45).map ad) = _; rw [e_61]; rfl) d_Mo_collect_263 ?_
                            refine W.eq (g2 := F0 m 266 ls [.ref (ad b_60)]) rfl ?_
                            refine ugfN (v := .ref (yP y b_60 45)) G hP c_62 iMw rfl 45 (by decide) rfl q2790 rfl rfl d_Mo_collect_266 ?_
                            refine lv_iload_n G.1 G.2.1 d_Mo_collect_269 rfl (lv_at hl 0 rfl) ?_
                            refine uiald G hP (kdp c_62 rfl) (typ c_62 rfl) h d_Mo_collect_270 (fun x_63 h => ?_)
                            refine lv_istore (lv' := [(4, .int x_63), (3, .int x_59), (0, .ref (ad a0)), (2, .int x2h247)]) G.1 G.2.1 d_Mo_collect_271 hl (by decide) rfl (fun ls hl => ?_)
                            refine lv_iconst (v := 0) G.1 G.2.1 d_Mo_collect_273 (by decide) ?_
                            refine lv_istore (lv' := [(5, .int 0), (4, .int x_63), (3, .int x_59), (0, .ref (ad a0)), (2, .int x2h247)]) G.1 G.2.1 d_Mo_collect_274 hl (by decide) rfl (fun ls hl => ?_)
                            unfold wl_Mo_collect_276 at h
                            obtain ⟨I_276, μ_276, hI_276, hB_276⟩ := h
                            have L_276 : ∀ (n_276 : Nat) (s_h276 : St) (x2h276 : Int32) (x3h276 : Int32) (x4h276 : Int32) (x5h276 : Int32), μ_276 s_h276 x2h276 x3h276 x4h276 x5h276 < n_276 → I_276 s_h276 x2h276 x3h276 x4h276 x5h276 → ∀ (H : Heap) (locs : List Loc), va_P D CL (ws g ad y s_h276) H → va_D A (ws g ad y s_h276) → va_S A s.heap H locs → ∀ ls, lv_has ls 7 [(0, .ref (ad a0)), (2, .int x2h276), (3, .int x3h276), (4, .int x4h276), (5, .int x5h276)] → W p l e ru_Mo_collect s m args below meth c H locs 0 0 Q (F0 m 276 ls []) := by
                              intro n_276
                              induction n_276 with
                              | zero => intro s_h276 x2h276 x3h276 x4h276 x5h276 hμ; exact absurd hμ (Nat.not_lt_zero _)
                              | succ n_276 ih_276 =>
                                intro s_h276 x2h276 x3h276 x4h276 x5h276 hμ_276 hJ H locs hP hD hS ls hl
                                obtain ⟨K_276, hK_276, h⟩ : ∃ K : St → Int32 → Int32 → Int32 → Int32 → Prop, (∀ z (t0 : Int32) (t1 : Int32) (t2 : Int32) (t3 : Int32), K z t0 t1 t2 t3 → I_276 z t0 t1 t2 t3 ∧ μ_276 z t0 t1 t2 t3 < μ_276 s_h276 x2h276 x3h276 x4h276 x5h276) ∧ wb_Mo_collect_276 y Post K_247 K a0 s_h276 x2h276 x3h276 x4h276 x5h276 := ⟨_, fun _ _ _ _ _ h => h, hB_276 s_h276 x2h276 x3h276 x4h276 x5h276 hJ⟩
                                unfold wb_Mo_collect_276 at h
                                refine lv_iload G.1 G.2.1 d_Mo_collect_276 (lv_at hl 3 rfl) ?_
                                refine lv_iconst (v := (-1)) G.1 G.2.1 d_Mo_collect_278 (by decide) ?_
                                have J_337 : ∀ (s_j337 : St) (x2j337 : Int32) (H : Heap) (locs : List Loc), wj_Mo_collect_337 y Post K_247 a0 s_j337 x2j337 → va_P D CL (ws g ad y s_j337) H → va_D A (ws g ad y s_j337) → va_S A s.heap H locs → ∀ ls, lv_has ls 7 [(0, .ref (ad a0)), (2, .int x2j337)] → W p l e ru_Mo_collect s m args below meth c H locs 0 0 Q (F0 m 337 ls []) := by
                                  intro s_j337 x2j337 H locs h hP hD hS ls hl
                                  unfold wj_Mo_collect_337 at h
                                  refine lv_iinc (v := x2j337 + 1) (lv' := [(2, .int (x2j337 + 1)), (0, .ref (ad a0))]) G.1 G.2.1 d_Mo_collect_337 hl (k := 1) rfl rfl (by decide) rfl (fun ls hl => ?_)
                                  refine lv_goto (tgt := 247) G.1 G.2.1 d_Mo_collect_340 (by decide) ?_
                                  have h := hK_247 s_j337 (x2j337 + 1) h
                                  exact ih_247 s_j337 (x2j337 + 1) (Nat.lt_of_lt_of_le h.2 (Nat.le_of_lt_succ hμ_247)) h.1 H locs hP hD hS ls (lv_sub hl [1, 0] rfl)
                                refine lv_icmp_eq (tgt := 337) G.1 G.2.1 d_Mo_collect_279 (by decide) (fun c279 => ?_) (fun c279 => ?_)
                                · skip
                                  have h := h.1 c279
                                  exact J_337 s_h276 x2h276 H locs h hP hD hS ls (lv_sub hl [0, 1] rfl)
                                · skip
                                  have h := h.2 c279
                                  refine lv_iload G.1 G.2.1 d_Mo_collect_282 (lv_at hl 4 rfl) ?_
                                  refine lv_aload_n G.1 G.2.1 d_Mo_collect_284 rfl (lv_at hl 0 rfl) ?_
                                  obtain ⟨b_64, e_65, c_66, h⟩ := h
                                  refine ugf (v := .ref (ad b_64)) G hP h_a0 iMo rfl 45 (by decide) rfl q3109 rfl (by show va_rf ((sO s_h276 a0 45).map ad) = _; rw [e_65]; rfl) d_Mo_collect_285 ?_
                                  refine ugfN (v := .ref (yP y b_64 47)) G hP c_66 iMw rfl 47 (by decide) rfl q2794 rfl rfl d_Mo_collect_288 ?_
                                  refine lv_iload_n G.1 G.2.1 d_Mo_collect_291 rfl (lv_at hl 2 rfl) ?_
                                  refine uiald G hP (kdp c_66 rfl) (typ c_66 rfl) h d_Mo_collect_292 (fun x_67 h => ?_)
                                  refine lv_icmp_ge (tgt := 337) G.1 G.2.1 d_Mo_collect_293 (by decide) (fun c293 => ?_) (fun c293 => ?_)
                                  · skip
                                    have h := h.1 c293
                                    exact J_337 s_h276 x2h276 H locs h hP hD hS ls (lv_sub hl [0, 1] rfl)
                                  · skip
                                    have h := h.2 c293
                                    refine lv_aload_n G.1 G.2.1 d_Mo_collect_296 rfl (lv_at hl 0 rfl) ?_
                                    refine W.eq (g2 := F0 m 297 ls [.ref (ad a0)]) rfl ?_
                                    refine lv_iload G.1 G.2.1 d_Mo_collect_297 (lv_at hl 3 rfl) ?_
                                    refine lv_iload G.1 G.2.1 d_Mo_collect_299 (lv_at hl 4 rfl) ?_
                                    refine ucVi (As := [.int x4h276, .int x5h276]) (rest := []) G hP hD hS (cu_Mo_isRefField l D g ad y _ s_h276 a0 x4h276 x5h276 H.size h_a0 h) w9_Mo_isRefField q4038 ⟨Nat.le_of_ble_eq_true rfl, Nat.le_of_ble_eq_true rfl⟩ rfl rfl h_a0 (q := (RMo, TMo, 131)) rfl rfl hl.1 rfl (Nat.le_of_ble_eq_true rfl) rfl ⟨Nat.le_refl _, Nat.le_refl _⟩ d_Mo_collect_301 (fun r_68 s_69 H locs h hP hD hS => ?_)
                                    have J_331 : ∀ (s_j331 : St) (x2j331 : Int32) (x3j331 : Int32) (x4j331 : Int32) (x5j331 : Int32) (H : Heap) (locs : List Loc), wj_Mo_collect_331 y Post K_247 K_276 a0 s_j331 x2j331 x3j331 x4j331 x5j331 → va_P D CL (ws g ad y s_j331) H → va_D A (ws g ad y s_j331) → va_S A s.heap H locs → ∀ ls, lv_has ls 7 [(0, .ref (ad a0)), (2, .int x2j331), (3, .int x3j331), (4, .int x4j331), (5, .int x5j331)] → W p l e ru_Mo_collect s m args below meth c H locs 0 0 Q (F0 m 331 ls []) := by
                                      intro s_j331 x2j331 x3j331 x4j331 x5j331 H locs h hP hD hS ls hl
                                      unfold wj_Mo_collect_331 at h
                                      refine lv_iinc (v := x5j331 + 1) (lv' := [(5, .int (x5j331 + 1)), (0, .ref (ad a0)), (2, .int x2j331), (3, .int x3j331), (4, .int x4j331)]) G.1 G.2.1 d_Mo_collect_331 hl (k := 4) rfl rfl (by decide) rfl (fun ls hl => ?_)
                                      refine lv_goto (tgt := 276) G.1 G.2.1 d_Mo_collect_334 (by decide) ?_
                                      have h := hK_276 s_j331 x2j331 x3j331 x4j331 (x5j331 + 1) h
                                      exact ih_276 s_j331 x2j331 x3j331 x4j331 (x5j331 + 1) (Nat.lt_of_lt_of_le h.2 (Nat.le_of_lt_succ hμ_276)) h.1 H locs hP hD hS ls (lv_sub hl [1, 2, 3, 4, 0] rfl)
                                    refine lv_if_eq (tgt := 331) G.1 G.2.1 d_Mo_collect_304 (by decide) (fun c304 => ?_) (fun c304 => ?_)
                                    · skip
                                      have h := h.1 c304
                                      exact J_331 s_69 x2h276 x3h276 x4h276 x5h276 H locs h hP hD hS ls (lv_sub hl [0, 1, 2, 3, 4] rfl)
                                    · skip
                                      have h := h.2 c304
                                      refine lv_aload_n G.1 G.2.1 d_Mo_collect_307 rfl (lv_at hl 0 rfl) ?_
                                      refine lv_aload_n G.1 G.2.1 d_Mo_collect_308 rfl (lv_at hl 0 rfl) ?_
                                      obtain ⟨b_70, e_71, c_72, h⟩ := h
                                      refine ugf (v := .ref (ad b_70)) G hP h_a0 iMo rfl 45 (by decide) rfl q3109 rfl (by show va_rf ((sO s_69 a0 45).map ad) = _; rw [e_71]; rfl) d_Mo_collect_309 ?_
                                      refine ugfN (v := .ref (yP y b_70 51)) G hP c_72 iMw rfl 51 (by decide) rfl q2801 rfl rfl d_Mo_collect_312 ?_
                                      refine lv_aload_n G.1 G.2.1 d_Mo_collect_315 rfl (lv_at hl 0 rfl) ?_
                                      obtain ⟨b_73, e_74, c_75, h⟩ := h
                                      refine ugf (v := .ref (ad b_73)) G hP h_a0 iMo rfl 45 (by decide) rfl q3109 rfl (by show va_rf ((sO s_69 a0 45).map ad) = _; rw [e_74]; rfl) d_Mo_collect_316 ?_
                                      refine ugfN (v := .ref (yP y b_73 46)) G hP c_75 iMw rfl 46 (by decide) rfl q2792 rfl rfl d_Mo_collect_319 ?_
                                      refine lv_iload_n G.1 G.2.1 d_Mo_collect_322 rfl (lv_at hl 2 rfl) ?_
                                      refine W.eq (g2 := F0 m 323 ls [.int x3h276, .ref (yP y b_73 46), .ref (yP y b_70 51), .ref (ad a0)]) rfl ?_
                                      refine uiald G hP (kdp c_75 rfl) (typ c_75 rfl) h d_Mo_collect_323 (fun x_76 h => ?_)
                                      refine lv_iload G.1 G.2.1 d_Mo_collect_324 (lv_at hl 4 rfl) ?_
                                      refine lv_iadd G.1 G.2.1 d_Mo_collect_326 ?_
                                      refine uiald G hP (kdp c_72 rfl) (typ c_72 rfl) h d_Mo_collect_327 (fun x_77 h => ?_)
                                      refine ucVv (As := [.int x_77]) (rest := []) G hP hD hS (cu_Mo_mark l D g ad y _ s_69 a0 x_77 H.size h_a0 h) w9_Mo_mark q4189 ⟨Nat.le_of_ble_eq_true rfl, Nat.le_of_ble_eq_true rfl⟩ rfl rfl h_a0 (q := (RMo, TMo, 131)) rfl rfl hl.1 rfl (Nat.le_of_ble_eq_true rfl) rfl ⟨Nat.le_refl _, Nat.le_refl _⟩ d_Mo_collect_328 (fun s_79 H locs h hP hD hS => ?_)
                                      exact J_331 s_79 x2h276 x3h276 x4h276 x5h276 H locs h hP hD hS ls (lv_sub hl [0, 1, 2, 3, 4] rfl)
                            exact L_276 _ s_h247 x2h247 x_59 x_63 0 (Nat.lt_succ_self _) hI_276 H locs hP hD hS ls (lv_sub hl [3, 4, 2, 1, 0] rfl)
                      exact L_247 _ s_h138 0 (Nat.lt_succ_self _) hI_247 H locs hP hD hS ls (lv_sub hl [1, 0] rfl)
                    · skip
                      have h := h.2 c140
                      refine lv_aload_n G.1 G.2.1 d_Mo_collect_143 rfl (lv_at hl 0 rfl) ?_
                      obtain ⟨b_80, e_81, c_82, h⟩ := h
                      refine ugf (v := .ref (ad b_80)) G hP h_a0 iMo rfl 45 (by decide) rfl q3109 rfl (by show va_rf ((sO s_h138 a0 45).map ad) = _; rw [e_81]; rfl) d_Mo_collect_144 ?_
                      refine ugfN (v := .ref (yP y b_80 62)) G hP c_82 iMw rfl 62 (by decide) rfl q2820 rfl rfl d_Mo_collect_147 ?_
                      refine lv_iload_n G.1 G.2.1 d_Mo_collect_150 rfl (lv_at hl 1 rfl) ?_
                      refine uqald G hP (kdp c_82 rfl) (typ c_82 rfl) rfl h d_Mo_collect_151 (fun b_83 n_84 h => ?_)
                      refine lv_astore_n (lv' := [(3, .ref (ad b_83)), (0, .ref (ad a0)), (2, .int x2h138)]) G.1 G.2.1 d_Mo_collect_152 rfl hl (by decide) rfl (fun ls hl => ?_)
                      refine lv_iconst (v := 0) G.1 G.2.1 d_Mo_collect_153 (by decide) ?_
                      refine lv_istore (lv' := [(4, .int 0), (3, .ref (ad b_83)), (0, .ref (ad a0)), (2, .int x2h138)]) G.1 G.2.1 d_Mo_collect_154 hl (by decide) rfl (fun ls hl => ?_)
                      unfold wl_Mo_collect_156 at h
                      obtain ⟨I_156, μ_156, hI_156, hB_156⟩ := h
                      have L_156 : ∀ (n_156 : Nat) (s_h156 : St) (x2h156 : Int32) (x3h156 : Nat) (x4h156 : Int32), μ_156 s_h156 x2h156 x3h156 x4h156 < n_156 → I_156 s_h156 x2h156 x3h156 x4h156 → ∀ (H : Heap) (locs : List Loc), va_P D CL (ws g ad y s_h156) H → va_D A (ws g ad y s_h156) → va_S A s.heap H locs → ∀ ls, lv_has ls 7 [(0, .ref (ad a0)), (2, .int x2h156), (3, .ref (ad x3h156)), (4, .int x4h156)] → W p l e ru_Mo_collect s m args below meth c H locs 0 0 Q (F0 m 156 ls []) := by
                        intro n_156
                        induction n_156 with
                        | zero => intro s_h156 x2h156 x3h156 x4h156 hμ; exact absurd hμ (Nat.not_lt_zero _)
                        | succ n_156 ih_156 =>
                          intro s_h156 x2h156 x3h156 x4h156 hμ_156 hJ H locs hP hD hS ls hl
                          obtain ⟨K_156, hK_156, h⟩ : ∃ K : St → Int32 → Nat → Int32 → Prop, (∀ z (t0 : Int32) (t1 : Nat) (t2 : Int32), K z t0 t1 t2 → I_156 z t0 t1 t2 ∧ μ_156 z t0 t1 t2 < μ_156 s_h156 x2h156 x3h156 x4h156) ∧ wb_Mo_collect_156 y Post K_138 K a0 s_h156 x2h156 x3h156 x4h156 := ⟨_, fun _ _ _ _ h => h, hB_156 s_h156 x2h156 x3h156 x4h156 hJ⟩
                          unfold wb_Mo_collect_156 at h
                          obtain ⟨c_x3h156, h⟩ := h
                          refine lv_aload_n G.1 G.2.1 d_Mo_collect_156 rfl (lv_at hl 2 rfl) ?_
                          refine ugfN (v := .int (sV s_h156 x3h156 0)) G hP c_x3h156 iMr rfl 0 (by decide) rfl q2987 rfl rfl d_Mo_collect_157 ?_
                          refine lv_bipush (v := (-2)) G.1 G.2.1 d_Mo_collect_160 (by decide) ?_
                          have J_239 : ∀ (s_j239 : St) (x2j239 : Int32) (H : Heap) (locs : List Loc), wj_Mo_collect_239 y Post K_138 a0 s_j239 x2j239 → va_P D CL (ws g ad y s_j239) H → va_D A (ws g ad y s_j239) → va_S A s.heap H locs → ∀ ls, lv_has ls 7 [(0, .ref (ad a0)), (2, .int x2j239)] → W p l e ru_Mo_collect s m args below meth c H locs 0 0 Q (F0 m 239 ls []) := by
                            intro s_j239 x2j239 H locs h hP hD hS ls hl
                            unfold wj_Mo_collect_239 at h
                            refine lv_iinc (v := x2j239 + 1) (lv' := [(2, .int (x2j239 + 1)), (0, .ref (ad a0))]) G.1 G.2.1 d_Mo_collect_239 hl (k := 1) rfl rfl (by decide) rfl (fun ls hl => ?_)
                            refine lv_goto (tgt := 138) G.1 G.2.1 d_Mo_collect_242 (by decide) ?_
                            have h := hK_138 s_j239 (x2j239 + 1) h
                            exact ih_138 s_j239 (x2j239 + 1) (Nat.lt_of_lt_of_le h.2 (Nat.le_of_lt_succ hμ_138)) h.1 H locs hP hD hS ls (lv_sub hl [1, 0] rfl)
                          refine lv_icmp_eq (tgt := 239) G.1 G.2.1 d_Mo_collect_162 (by decide) (fun c162 => ?_) (fun c162 => ?_)
                          · skip
                            have h := h.1 c162
                            exact J_239 s_h156 x2h156 H locs h hP hD hS ls (lv_sub hl [0, 1] rfl)
                          · skip
                            have h := h.2 c162
                            refine lv_iload G.1 G.2.1 d_Mo_collect_165 (lv_at hl 3 rfl) ?_
                            refine lv_aload_n G.1 G.2.1 d_Mo_collect_167 rfl (lv_at hl 2 rfl) ?_
                            refine ugfN (v := .int (sV s_h156 x3h156 22)) G hP c_x3h156 iMr rfl 22 (by decide) rfl q3016 rfl rfl d_Mo_collect_168 ?_
                            refine lv_icmp_ge (tgt := 239) G.1 G.2.1 d_Mo_collect_171 (by decide) (fun c171 => ?_) (fun c171 => ?_)
                            · skip
                              have h := h.1 c171
                              exact J_239 s_h156 x2h156 H locs h hP hD hS ls (lv_sub hl [0, 1] rfl)
                            · skip
                              have h := h.2 c171
                              refine lv_bipush (v := 44) G.1 G.2.1 d_Mo_collect_174 (by decide) ?_
                              refine lv_iload G.1 G.2.1 d_Mo_collect_176 (lv_at hl 3 rfl) ?_
                              refine lv_imul G.1 G.2.1 d_Mo_collect_178 ?_
                              refine W.eq (g2 := F0 m 179 ls [.int (44 * x4h156)]) rfl ?_
                              refine lv_bipush (v := 20) G.1 G.2.1 d_Mo_collect_179 (by decide) ?_
                              refine lv_iadd G.1 G.2.1 d_Mo_collect_181 ?_
                              refine lv_aload_n G.1 G.2.1 d_Mo_collect_182 rfl (lv_at hl 2 rfl) ?_
                              refine ugfN (v := .ref (yP y x3h156 19)) G hP c_x3h156 iMr rfl 19 (by decide) rfl q3011 rfl rfl d_Mo_collect_183 ?_
                              refine lv_iload G.1 G.2.1 d_Mo_collect_186 (lv_at hl 3 rfl) ?_
                              refine uiald G hP (kdp c_x3h156 rfl) (typ c_x3h156 rfl) h d_Mo_collect_188 (fun x_85 h => ?_)
                              refine lv_iadd G.1 G.2.1 d_Mo_collect_189 ?_
                              refine lv_istore (lv' := [(5, .int (((44 * x4h156) + 20) + x_85)), (0, .ref (ad a0)), (2, .int x2h156), (3, .ref (ad x3h156)), (4, .int x4h156)]) G.1 G.2.1 d_Mo_collect_190 hl (by decide) rfl (fun ls hl => ?_)
                              refine lv_bipush (v := 44) G.1 G.2.1 d_Mo_collect_192 (by decide) ?_
                              refine lv_iload G.1 G.2.1 d_Mo_collect_194 (lv_at hl 4 rfl) ?_
                              refine lv_imul G.1 G.2.1 d_Mo_collect_196 ?_
                              refine lv_istore (lv' := [(6, .int (44 * x4h156)), (5, .int (((44 * x4h156) + 20) + x_85)), (0, .ref (ad a0)), (2, .int x2h156), (3, .ref (ad x3h156)), (4, .int x4h156)]) G.1 G.2.1 d_Mo_collect_197 hl (by decide) rfl (fun ls hl => ?_)
                              unfold wl_Mo_collect_199 at h
                              obtain ⟨I_199, μ_199, hI_199, hB_199⟩ := h
                              have L_199 : ∀ (n_199 : Nat) (s_h199 : St) (x2h199 : Int32) (x3h199 : Nat) (x4h199 : Int32) (x5h199 : Int32) (x6h199 : Int32), μ_199 s_h199 x2h199 x3h199 x4h199 x5h199 x6h199 < n_199 → I_199 s_h199 x2h199 x3h199 x4h199 x5h199 x6h199 → ∀ (H : Heap) (locs : List Loc), va_P D CL (ws g ad y s_h199) H → va_D A (ws g ad y s_h199) → va_S A s.heap H locs → ∀ ls, lv_has ls 7 [(0, .ref (ad a0)), (2, .int x2h199), (3, .ref (ad x3h199)), (4, .int x4h199), (5, .int x5h199), (6, .int x6h199)] → W p l e ru_Mo_collect s m args below meth c H locs 0 0 Q (F0 m 199 ls []) := by
                                intro n_199
                                induction n_199 with
                                | zero => intro s_h199 x2h199 x3h199 x4h199 x5h199 x6h199 hμ; exact absurd hμ (Nat.not_lt_zero _)
                                | succ n_199 ih_199 =>
                                  intro s_h199 x2h199 x3h199 x4h199 x5h199 x6h199 hμ_199 hJ H locs hP hD hS ls hl
                                  obtain ⟨K_199, hK_199, h⟩ : ∃ K : St → Int32 → Nat → Int32 → Int32 → Int32 → Prop, (∀ z (t0 : Int32) (t1 : Nat) (t2 : Int32) (t3 : Int32) (t4 : Int32), K z t0 t1 t2 t3 t4 → I_199 z t0 t1 t2 t3 t4 ∧ μ_199 z t0 t1 t2 t3 t4 < μ_199 s_h199 x2h199 x3h199 x4h199 x5h199 x6h199) ∧ wb_Mo_collect_199 y Post K_138 K_156 K a0 s_h199 x2h199 x3h199 x4h199 x5h199 x6h199 := ⟨_, fun _ _ _ _ _ _ h => h, hB_199 s_h199 x2h199 x3h199 x4h199 x5h199 x6h199 hJ⟩
                                  unfold wb_Mo_collect_199 at h
                                  obtain ⟨c_x3h199, h⟩ := h
                                  refine lv_iload G.1 G.2.1 d_Mo_collect_199 (lv_at hl 5 rfl) ?_
                                  refine lv_iload G.1 G.2.1 d_Mo_collect_201 (lv_at hl 4 rfl) ?_
                                  refine lv_icmp_ge (tgt := 233) G.1 G.2.1 d_Mo_collect_203 (by decide) (fun c203 => ?_) (fun c203 => ?_)
                                  · skip
                                    have h := h.1 c203
                                    refine lv_iinc (v := x4h199 + 1) (lv' := [(4, .int (x4h199 + 1)), (0, .ref (ad a0)), (2, .int x2h199), (3, .ref (ad x3h199)), (5, .int x5h199), (6, .int x6h199)]) G.1 G.2.1 d_Mo_collect_233 hl (k := 3) rfl rfl (by decide) rfl (fun ls hl => ?_)
                                    refine lv_goto (tgt := 156) G.1 G.2.1 d_Mo_collect_236 (by decide) ?_
                                    have h := hK_156 s_h199 x2h199 x3h199 (x4h199 + 1) h
                                    exact ih_156 s_h199 x2h199 x3h199 (x4h199 + 1) (Nat.lt_of_lt_of_le h.2 (Nat.le_of_lt_succ hμ_156)) h.1 H locs hP hD hS ls (lv_sub hl [1, 2, 3, 0] rfl)
                                  · skip
                                    have h := h.2 c203
                                    refine lv_aload_n G.1 G.2.1 d_Mo_collect_206 rfl (lv_at hl 2 rfl) ?_
                                    refine ugfN (v := .ref (yP y x3h199 21)) G hP c_x3h199 iMr rfl 21 (by decide) rfl q3015 rfl rfl d_Mo_collect_207 ?_
                                    refine lv_iload G.1 G.2.1 d_Mo_collect_210 (lv_at hl 5 rfl) ?_
                                    refine uzald G hP (kdp c_x3h199 rfl) (typ c_x3h199 rfl) h d_Mo_collect_212 (fun x_86 h => ?_)
                                    have J_227 : ∀ (s_j227 : St) (x2j227 : Int32) (x3j227 : Nat) (x4j227 : Int32) (x5j227 : Int32) (x6j227 : Int32) (H : Heap) (locs : List Loc), wj_Mo_collect_227 y Post K_138 K_156 K_199 a0 s_j227 x2j227 x3j227 x4j227 x5j227 x6j227 → va_P D CL (ws g ad y s_j227) H → va_D A (ws g ad y s_j227) → va_S A s.heap H locs → ∀ ls, lv_has ls 7 [(0, .ref (ad a0)), (2, .int x2j227), (3, .ref (ad x3j227)), (4, .int x4j227), (5, .int x5j227), (6, .int x6j227)] → W p l e ru_Mo_collect s m args below meth c H locs 0 0 Q (F0 m 227 ls []) := by
                                      intro s_j227 x2j227 x3j227 x4j227 x5j227 x6j227 H locs h hP hD hS ls hl
                                      unfold wj_Mo_collect_227 at h
                                      obtain ⟨c_x3j227, h⟩ := h
                                      refine lv_iinc (v := x6j227 + 1) (lv' := [(6, .int (x6j227 + 1)), (0, .ref (ad a0)), (2, .int x2j227), (3, .ref (ad x3j227)), (4, .int x4j227), (5, .int x5j227)]) G.1 G.2.1 d_Mo_collect_227 hl (k := 5) rfl rfl (by decide) rfl (fun ls hl => ?_)
                                      refine lv_goto (tgt := 199) G.1 G.2.1 d_Mo_collect_230 (by decide) ?_
                                      have h := hK_199 s_j227 x2j227 x3j227 x4j227 x5j227 (x6j227 + 1) h
                                      exact ih_199 s_j227 x2j227 x3j227 x4j227 x5j227 (x6j227 + 1) (Nat.lt_of_lt_of_le h.2 (Nat.le_of_lt_succ hμ_199)) h.1 H locs hP hD hS ls (lv_sub hl [1, 2, 3, 4, 5, 0] rfl)
                                    refine lv_if_eq (tgt := 227) G.1 G.2.1 d_Mo_collect_213 (by decide) (fun c213 => ?_) (fun c213 => ?_)
                                    · skip
                                      have h := h.1 c213
                                      exact J_227 s_h199 x2h199 x3h199 x4h199 x5h199 x6h199 H locs h hP hD hS ls (lv_sub hl [0, 1, 2, 3, 4, 5] rfl)
                                    · skip
                                      have h := h.2 c213
                                      refine lv_aload_n G.1 G.2.1 d_Mo_collect_216 rfl (lv_at hl 0 rfl) ?_
                                      refine lv_aload_n G.1 G.2.1 d_Mo_collect_217 rfl (lv_at hl 2 rfl) ?_
                                      refine ugfN (v := .ref (yP y x3h199 20)) G hP c_x3h199 iMr rfl 20 (by decide) rfl q3013 rfl rfl d_Mo_collect_218 ?_
                                      refine W.eq (g2 := F0 m 221 ls [.ref (yP y x3h199 20), .ref (ad a0)]) rfl ?_
                                      refine lv_iload G.1 G.2.1 d_Mo_collect_221 (lv_at hl 5 rfl) ?_
                                      refine uiald G hP (kdp c_x3h199 rfl) (typ c_x3h199 rfl) h d_Mo_collect_223 (fun x_87 h => ?_)
                                      refine ucVv (As := [.int x_87]) (rest := []) G hP hD hS (cu_Mo_mark l D g ad y _ s_h199 a0 x_87 H.size h_a0 h) w9_Mo_mark q4189 ⟨Nat.le_of_ble_eq_true rfl, Nat.le_of_ble_eq_true rfl⟩ rfl rfl h_a0 (q := (RMo, TMo, 131)) rfl rfl hl.1 rfl (Nat.le_of_ble_eq_true rfl) rfl ⟨Nat.le_refl _, Nat.le_refl _⟩ d_Mo_collect_224 (fun s_89 H locs h hP hD hS => ?_)
                                      exact J_227 s_89 x2h199 x3h199 x4h199 x5h199 x6h199 H locs h hP hD hS ls (lv_sub hl [0, 1, 2, 3, 4, 5] rfl)
                              exact L_199 _ s_h156 x2h156 x3h156 x4h156 (((44 * x4h156) + 20) + x_85) (44 * x4h156) (Nat.lt_succ_self _) hI_199 H locs hP hD hS ls (lv_sub hl [2, 3, 4, 5, 1, 0] rfl)
                      exact L_156 _ s_h138 x2h138 b_83 0 (Nat.lt_succ_self _) hI_156 H locs hP hD hS ls (lv_sub hl [2, 3, 1, 0] rfl)
                exact L_138 _ s_h50 0 (Nat.lt_succ_self _) hI_138 H locs hP hD hS ls (lv_sub hl [1, 0] rfl)
              · skip
                have h := h.2 c58
                refine lv_bipush (v := 8) G.1 G.2.1 d_Mo_collect_61 (by decide) ?_
                refine lv_iload_n G.1 G.2.1 d_Mo_collect_63 rfl (lv_at hl 1 rfl) ?_
                refine lv_imul G.1 G.2.1 d_Mo_collect_64 ?_
                refine lv_istore_n (lv' := [(3, .int (8 * x2h50)), (0, .ref (ad a0)), (2, .int x2h50)]) G.1 G.2.1 d_Mo_collect_65 rfl hl (by decide) rfl (fun ls hl => ?_)
                unfold wl_Mo_collect_66 at h
                obtain ⟨I_66, μ_66, hI_66, hB_66⟩ := h
                have L_66 : ∀ (n_66 : Nat) (s_h66 : St) (x2h66 : Int32) (x3h66 : Int32), μ_66 s_h66 x2h66 x3h66 < n_66 → I_66 s_h66 x2h66 x3h66 → ∀ (H : Heap) (locs : List Loc), va_P D CL (ws g ad y s_h66) H → va_D A (ws g ad y s_h66) → va_S A s.heap H locs → ∀ ls, lv_has ls 7 [(0, .ref (ad a0)), (2, .int x2h66), (3, .int x3h66)] → W p l e ru_Mo_collect s m args below meth c H locs 0 0 Q (F0 m 66 ls []) := by
                  intro n_66
                  induction n_66 with
                  | zero => intro s_h66 x2h66 x3h66 hμ; exact absurd hμ (Nat.not_lt_zero _)
                  | succ n_66 ih_66 =>
                    intro s_h66 x2h66 x3h66 hμ_66 hJ H locs hP hD hS ls hl
                    obtain ⟨K_66, hK_66, h⟩ : ∃ K : St → Int32 → Int32 → Prop, (∀ z (t0 : Int32) (t1 : Int32), K z t0 t1 → I_66 z t0 t1 ∧ μ_66 z t0 t1 < μ_66 s_h66 x2h66 x3h66) ∧ wb_Mo_collect_66 y Post K_50 K a0 s_h66 x2h66 x3h66 := ⟨_, fun _ _ _ h => h, hB_66 s_h66 x2h66 x3h66 hJ⟩
                    unfold wb_Mo_collect_66 at h
                    refine lv_iload_n G.1 G.2.1 d_Mo_collect_66 rfl (lv_at hl 2 rfl) ?_
                    refine lv_bipush (v := 8) G.1 G.2.1 d_Mo_collect_67 (by decide) ?_
                    refine lv_iload_n G.1 G.2.1 d_Mo_collect_69 rfl (lv_at hl 1 rfl) ?_
                    refine lv_imul G.1 G.2.1 d_Mo_collect_70 ?_
                    refine lv_aload_n G.1 G.2.1 d_Mo_collect_71 rfl (lv_at hl 0 rfl) ?_
                    obtain ⟨b_90, e_91, c_92, h⟩ := h
                    refine ugf (v := .ref (ad b_90)) G hP h_a0 iMo rfl 45 (by decide) rfl q3109 rfl (by show va_rf ((sO s_h66 a0 45).map ad) = _; rw [e_91]; rfl) d_Mo_collect_72 ?_
                    refine ugfN (v := .ref (yP y b_90 8)) G hP c_92 iMw rfl 8 (by decide) rfl q2720 rfl rfl d_Mo_collect_75 ?_
                    refine lv_iload_n G.1 G.2.1 d_Mo_collect_78 rfl (lv_at hl 1 rfl) ?_
                    refine uiald G hP (kdp c_92 rfl) (typ c_92 rfl) h d_Mo_collect_79 (fun x_93 h => ?_)
                    refine lv_iadd G.1 G.2.1 d_Mo_collect_80 ?_
                    refine lv_icmp_ge (tgt := 130) G.1 G.2.1 d_Mo_collect_81 (by decide) (fun c81 => ?_) (fun c81 => ?_)
                    · skip
                      have h := h.1 c81
                      refine W.eq (g2 := F0 m 130 ls []) rfl ?_
                      refine lv_iinc (v := x2h66 + 1) (lv' := [(2, .int (x2h66 + 1)), (0, .ref (ad a0)), (3, .int x3h66)]) G.1 G.2.1 d_Mo_collect_130 hl (k := 1) rfl rfl (by decide) rfl (fun ls hl => ?_)
                      refine lv_goto (tgt := 50) G.1 G.2.1 d_Mo_collect_133 (by decide) ?_
                      have h := hK_50 s_h66 (x2h66 + 1) h
                      exact ih_50 s_h66 (x2h66 + 1) (Nat.lt_of_lt_of_le h.2 (Nat.le_of_lt_succ hμ_50)) h.1 H locs hP hD hS ls (lv_sub hl [1, 0] rfl)
                    · skip
                      have h := h.2 c81
                      refine W.eq (g2 := F0 m 84 ls []) rfl ?_
                      refine lv_aload_n G.1 G.2.1 d_Mo_collect_84 rfl (lv_at hl 0 rfl) ?_
                      obtain ⟨b_94, e_95, c_96, h⟩ := h
                      refine ugf (v := .ref (ad b_94)) G hP h_a0 iMo rfl 45 (by decide) rfl q3109 rfl (by show va_rf ((sO s_h66 a0 45).map ad) = _; rw [e_95]; rfl) d_Mo_collect_85 ?_
                      refine ugfN (v := .ref (yP y b_94 14)) G hP c_96 iMw rfl 14 (by decide) rfl q2732 rfl rfl d_Mo_collect_88 ?_
                      refine lv_iload_n G.1 G.2.1 d_Mo_collect_91 rfl (lv_at hl 2 rfl) ?_
                      refine uiald G hP (kdp c_96 rfl) (typ c_96 rfl) h d_Mo_collect_92 (fun x_97 h => ?_)
                      refine lv_iconst (v := 1) G.1 G.2.1 d_Mo_collect_93 (by decide) ?_
                      refine lv_iand G.1 G.2.1 d_Mo_collect_94 ?_
                      have J_124 : ∀ (s_j124 : St) (x2j124 : Int32) (x3j124 : Int32) (H : Heap) (locs : List Loc), wj_Mo_collect_124 y Post K_50 K_66 a0 s_j124 x2j124 x3j124 → va_P D CL (ws g ad y s_j124) H → va_D A (ws g ad y s_j124) → va_S A s.heap H locs → ∀ ls, lv_has ls 7 [(0, .ref (ad a0)), (2, .int x2j124), (3, .int x3j124)] → W p l e ru_Mo_collect s m args below meth c H locs 0 0 Q (F0 m 124 ls []) := by
                        intro s_j124 x2j124 x3j124 H locs h hP hD hS ls hl
                        unfold wj_Mo_collect_124 at h
                        refine lv_iinc (v := x3j124 + 1) (lv' := [(3, .int (x3j124 + 1)), (0, .ref (ad a0)), (2, .int x2j124)]) G.1 G.2.1 d_Mo_collect_124 hl (k := 2) rfl rfl (by decide) rfl (fun ls hl => ?_)
                        refine lv_goto (tgt := 66) G.1 G.2.1 d_Mo_collect_127 (by decide) ?_
                        have h := hK_66 s_j124 x2j124 (x3j124 + 1) h
                        exact ih_66 s_j124 x2j124 (x3j124 + 1) (Nat.lt_of_lt_of_le h.2 (Nat.le_of_lt_succ hμ_66)) h.1 H locs hP hD hS ls (lv_sub hl [1, 2, 0] rfl)
                      refine lv_if_eq (tgt := 124) G.1 G.2.1 d_Mo_collect_95 (by decide) (fun c95 => ?_) (fun c95 => ?_)
                      · skip
                        have h := h.1 c95
                        exact J_124 s_h66 x2h66 x3h66 H locs h hP hD hS ls (lv_sub hl [0, 1, 2] rfl)
                      · skip
                        have h := h.2 c95
                        refine lv_aload_n G.1 G.2.1 d_Mo_collect_98 rfl (lv_at hl 0 rfl) ?_
                        obtain ⟨b_98, e_99, c_100, h⟩ := h
                        refine ugf (v := .ref (ad b_98)) G hP h_a0 iMo rfl 45 (by decide) rfl q3109 rfl (by show va_rf ((sO s_h66 a0 45).map ad) = _; rw [e_99]; rfl) d_Mo_collect_99 ?_
                        refine ugfN (v := .ref (yP y b_98 13)) G hP c_100 iMw rfl 13 (by decide) rfl q2730 rfl rfl d_Mo_collect_102 ?_
                        refine lv_iload_n G.1 G.2.1 d_Mo_collect_105 rfl (lv_at hl 2 rfl) ?_
                        refine W.eq (g2 := F0 m 106 ls [.int x3h66, .ref (yP y b_98 13)]) rfl ?_
                        refine uiald G hP (kdp c_100 rfl) (typ c_100 rfl) h d_Mo_collect_106 (fun x_101 h => ?_)
                        refine lv_iconst (v := 1) G.1 G.2.1 d_Mo_collect_107 (by decide) ?_
                        refine lv_icmp_eq (tgt := 124) G.1 G.2.1 d_Mo_collect_108 (by decide) (fun c108 => ?_) (fun c108 => ?_)
                        · skip
                          have h := h.1 c108
                          exact J_124 s_h66 x2h66 x3h66 H locs h hP hD hS ls (lv_sub hl [0, 1, 2] rfl)
                        · skip
                          have h := h.2 c108
                          refine lv_aload_n G.1 G.2.1 d_Mo_collect_111 rfl (lv_at hl 0 rfl) ?_
                          refine lv_aload_n G.1 G.2.1 d_Mo_collect_112 rfl (lv_at hl 0 rfl) ?_
                          obtain ⟨b_102, e_103, c_104, h⟩ := h
                          refine ugf (v := .ref (ad b_102)) G hP h_a0 iMo rfl 45 (by decide) rfl q3109 rfl (by show va_rf ((sO s_h66 a0 45).map ad) = _; rw [e_103]; rfl) d_Mo_collect_113 ?_
                          refine ugfN (v := .ref (yP y b_102 17)) G hP c_104 iMw rfl 17 (by decide) rfl q2738 rfl rfl d_Mo_collect_116 ?_
                          refine lv_iload_n G.1 G.2.1 d_Mo_collect_119 rfl (lv_at hl 2 rfl) ?_
                          refine uiald G hP (kdp c_104 rfl) (typ c_104 rfl) h d_Mo_collect_120 (fun x_105 h => ?_)
                          refine ucVv (As := [.int x_105]) (rest := []) G hP hD hS (cu_Mo_mark l D g ad y _ s_h66 a0 x_105 H.size h_a0 h) w9_Mo_mark q4189 ⟨Nat.le_of_ble_eq_true rfl, Nat.le_of_ble_eq_true rfl⟩ rfl rfl h_a0 (q := (RMo, TMo, 131)) rfl rfl hl.1 rfl (Nat.le_of_ble_eq_true rfl) rfl ⟨Nat.le_refl _, Nat.le_refl _⟩ d_Mo_collect_121 (fun s_107 H locs h hP hD hS => ?_)
                          exact J_124 s_107 x2h66 x3h66 H locs h hP hD hS ls (lv_sub hl [0, 1, 2] rfl)
                exact L_66 _ s_h50 x2h50 (8 * x2h50) (Nat.lt_succ_self _) hI_66 H locs hP hD hS ls (lv_sub hl [1, 2, 0] rfl)
          exact L_50 _ s_h27 21 (Nat.lt_succ_self _) hI_50 H locs hP hD hS ls (lv_sub hl [1, 0] rfl)
        · skip
          have h := h.2 c31
          refine lv_aload_n G.1 G.2.1 d_Mo_collect_34 rfl (lv_at hl 0 rfl) ?_
          refine ugf (v := .ref (yP y a0 110)) G hP h_a0 iMo rfl 110 (by decide) rfl q3174 rfl rfl d_Mo_collect_35 ?_
          refine lv_iload_n G.1 G.2.1 d_Mo_collect_38 rfl (lv_at hl 1 rfl) ?_
          refine lv_iconst (v := 0) G.1 G.2.1 d_Mo_collect_39 (by decide) ?_
          refine uzast G hP hD hS (kdp h_a0 rfl) (typ h_a0 rfl) h d_Mo_collect_40 (fun s_108 H locs h hP hD hS => ?_)
          refine lv_iinc (v := x2h27 + 1) (lv' := [(2, .int (x2h27 + 1)), (0, .ref (ad a0))]) G.1 G.2.1 d_Mo_collect_41 hl (k := 1) rfl rfl (by decide) rfl (fun ls hl => ?_)
          refine lv_goto (tgt := 27) G.1 G.2.1 d_Mo_collect_44 (by decide) ?_
          have h := hK_27 s_108 (x2h27 + 1) h
          exact ih_27 s_108 (x2h27 + 1) (Nat.lt_of_lt_of_le h.2 (Nat.le_of_lt_succ hμ_27)) h.1 H locs hP hD hS ls (lv_sub hl [1, 0] rfl)
    exact L_27 _ s_6 0 (Nat.lt_succ_self _) hI_27 H locs hP hD hS ls (lv_sub hl [1, 0] rfl)
  · skip
    have h := h.2 c5
    refine lv_iconst (v := (-1)) G.1 G.2.1 d_Mo_collect_8 (by decide) ?_
    exact hret _ _ _ _ _ _ _ ls h hP hD hS (Nat.le_refl _) (Nat.le_refl _) d_Mo_collect_9
def y_Mo_fieldLike : MethodName := ⟨"ClassWorksModel", "fieldLike", "(LClassWorksModel$World;ILClassWorksModel$World;I)I"⟩
abbrev b_Mo_fieldLike : ByteArray := prog_14_method_190_code
theorem q2736 : Cond.fieldLinkNest "ClassWorksModel" 633 "ClassWorksModel$World" "fieldHas" "[Z" "ClassWorksModel" ∈ lw_nest := lw_nestmem (List.mem_of_getElem? (i := 2736) (by decide +kernel)) rfl
theorem q2734 : Cond.fieldLinkNest "ClassWorksModel" 630 "ClassWorksModel$World" "fieldStarts" "[I" "ClassWorksModel" ∈ lw_nest := lw_nestmem (List.mem_of_getElem? (i := 2734) (by decide +kernel)) rfl
theorem d_Mo_fieldLike_0 : decode b_Mo_fieldLike 0 = .ok (.bipush 8, 2) := by decide +kernel
theorem d_Mo_fieldLike_2 : decode b_Mo_fieldLike 2 = .ok (.iload_n 3, 1) := by decide +kernel
theorem d_Mo_fieldLike_3 : decode b_Mo_fieldLike 3 = .ok (.imul, 1) := by decide +kernel
theorem d_Mo_fieldLike_4 : decode b_Mo_fieldLike 4 = .ok (.istore 4, 2) := by decide +kernel
theorem d_Mo_fieldLike_6 : decode b_Mo_fieldLike 6 = .ok (.iload 4, 2) := by decide +kernel
theorem d_Mo_fieldLike_8 : decode b_Mo_fieldLike 8 = .ok (.bipush 8, 2) := by decide +kernel
theorem d_Mo_fieldLike_10 : decode b_Mo_fieldLike 10 = .ok (.iload_n 3, 1) := by decide +kernel
theorem d_Mo_fieldLike_11 : decode b_Mo_fieldLike 11 = .ok (.imul, 1) := by decide +kernel
theorem d_Mo_fieldLike_12 : decode b_Mo_fieldLike 12 = .ok (.aload_n 2, 1) := by decide +kernel
theorem d_Mo_fieldLike_13 : decode b_Mo_fieldLike 13 = .ok (.getfield 435, 3) := by decide +kernel
theorem d_Mo_fieldLike_16 : decode b_Mo_fieldLike 16 = .ok (.iload_n 3, 1) := by decide +kernel
theorem d_Mo_fieldLike_17 : decode b_Mo_fieldLike 17 = .ok (.iaload, 1) := by decide +kernel
theorem d_Mo_fieldLike_18 : decode b_Mo_fieldLike 18 = .ok (.iadd, 1) := by decide +kernel
theorem d_Mo_fieldLike_19 : decode b_Mo_fieldLike 19 = .ok (.if_icmp .ge 92, 3) := by decide +kernel
theorem d_Mo_fieldLike_22 : decode b_Mo_fieldLike 22 = .ok (.aload_n 2, 1) := by decide +kernel
theorem d_Mo_fieldLike_23 : decode b_Mo_fieldLike 23 = .ok (.getfield 621, 3) := by decide +kernel
theorem d_Mo_fieldLike_26 : decode b_Mo_fieldLike 26 = .ok (.iload 4, 2) := by decide +kernel
theorem d_Mo_fieldLike_28 : decode b_Mo_fieldLike 28 = .ok (.iaload, 1) := by decide +kernel
theorem d_Mo_fieldLike_29 : decode b_Mo_fieldLike 29 = .ok (.aload_n 0, 1) := by decide +kernel
theorem d_Mo_fieldLike_30 : decode b_Mo_fieldLike 30 = .ok (.getfield 621, 3) := by decide +kernel
theorem d_Mo_fieldLike_33 : decode b_Mo_fieldLike 33 = .ok (.iload_n 1, 1) := by decide +kernel
theorem d_Mo_fieldLike_34 : decode b_Mo_fieldLike 34 = .ok (.iaload, 1) := by decide +kernel
theorem d_Mo_fieldLike_35 : decode b_Mo_fieldLike 35 = .ok (.if_icmp .ne 70, 3) := by decide +kernel
theorem d_Mo_fieldLike_38 : decode b_Mo_fieldLike 38 = .ok (.aload_n 2, 1) := by decide +kernel
theorem d_Mo_fieldLike_39 : decode b_Mo_fieldLike 39 = .ok (.getfield 624, 3) := by decide +kernel
theorem d_Mo_fieldLike_42 : decode b_Mo_fieldLike 42 = .ok (.iload 4, 2) := by decide +kernel
theorem d_Mo_fieldLike_44 : decode b_Mo_fieldLike 44 = .ok (.iaload, 1) := by decide +kernel
theorem d_Mo_fieldLike_45 : decode b_Mo_fieldLike 45 = .ok (.aload_n 0, 1) := by decide +kernel
theorem d_Mo_fieldLike_46 : decode b_Mo_fieldLike 46 = .ok (.getfield 624, 3) := by decide +kernel
theorem d_Mo_fieldLike_49 : decode b_Mo_fieldLike 49 = .ok (.iload_n 1, 1) := by decide +kernel
theorem d_Mo_fieldLike_50 : decode b_Mo_fieldLike 50 = .ok (.iaload, 1) := by decide +kernel
theorem d_Mo_fieldLike_51 : decode b_Mo_fieldLike 51 = .ok (.if_icmp .ne 54, 3) := by decide +kernel
theorem d_Mo_fieldLike_54 : decode b_Mo_fieldLike 54 = .ok (.aload_n 2, 1) := by decide +kernel
theorem d_Mo_fieldLike_55 : decode b_Mo_fieldLike 55 = .ok (.getfield 627, 3) := by decide +kernel
theorem d_Mo_fieldLike_58 : decode b_Mo_fieldLike 58 = .ok (.iload 4, 2) := by decide +kernel
theorem d_Mo_fieldLike_60 : decode b_Mo_fieldLike 60 = .ok (.iaload, 1) := by decide +kernel
theorem d_Mo_fieldLike_61 : decode b_Mo_fieldLike 61 = .ok (.aload_n 0, 1) := by decide +kernel
theorem d_Mo_fieldLike_62 : decode b_Mo_fieldLike 62 = .ok (.getfield 627, 3) := by decide +kernel
theorem d_Mo_fieldLike_65 : decode b_Mo_fieldLike 65 = .ok (.iload_n 1, 1) := by decide +kernel
theorem d_Mo_fieldLike_66 : decode b_Mo_fieldLike 66 = .ok (.iaload, 1) := by decide +kernel
theorem d_Mo_fieldLike_67 : decode b_Mo_fieldLike 67 = .ok (.if_icmp .ne 38, 3) := by decide +kernel
theorem d_Mo_fieldLike_70 : decode b_Mo_fieldLike 70 = .ok (.aload_n 2, 1) := by decide +kernel
theorem d_Mo_fieldLike_71 : decode b_Mo_fieldLike 71 = .ok (.getfield 633, 3) := by decide +kernel
theorem d_Mo_fieldLike_74 : decode b_Mo_fieldLike 74 = .ok (.iload 4, 2) := by decide +kernel
theorem d_Mo_fieldLike_76 : decode b_Mo_fieldLike 76 = .ok (.baload, 1) := by decide +kernel
theorem d_Mo_fieldLike_77 : decode b_Mo_fieldLike 77 = .ok (.aload_n 0, 1) := by decide +kernel
theorem d_Mo_fieldLike_78 : decode b_Mo_fieldLike 78 = .ok (.getfield 633, 3) := by decide +kernel
theorem d_Mo_fieldLike_81 : decode b_Mo_fieldLike 81 = .ok (.iload_n 1, 1) := by decide +kernel
theorem d_Mo_fieldLike_82 : decode b_Mo_fieldLike 82 = .ok (.baload, 1) := by decide +kernel
theorem d_Mo_fieldLike_83 : decode b_Mo_fieldLike 83 = .ok (.if_icmp .ne 22, 3) := by decide +kernel
theorem d_Mo_fieldLike_86 : decode b_Mo_fieldLike 86 = .ok (.aload_n 2, 1) := by decide +kernel
theorem d_Mo_fieldLike_87 : decode b_Mo_fieldLike 87 = .ok (.getfield 630, 3) := by decide +kernel
theorem d_Mo_fieldLike_90 : decode b_Mo_fieldLike 90 = .ok (.iload 4, 2) := by decide +kernel
theorem d_Mo_fieldLike_92 : decode b_Mo_fieldLike 92 = .ok (.iaload, 1) := by decide +kernel
theorem d_Mo_fieldLike_93 : decode b_Mo_fieldLike 93 = .ok (.aload_n 0, 1) := by decide +kernel
theorem d_Mo_fieldLike_94 : decode b_Mo_fieldLike 94 = .ok (.getfield 630, 3) := by decide +kernel
theorem d_Mo_fieldLike_97 : decode b_Mo_fieldLike 97 = .ok (.iload_n 1, 1) := by decide +kernel
theorem d_Mo_fieldLike_98 : decode b_Mo_fieldLike 98 = .ok (.iaload, 1) := by decide +kernel
theorem d_Mo_fieldLike_99 : decode b_Mo_fieldLike 99 = .ok (.if_icmp .ne 6, 3) := by decide +kernel
theorem d_Mo_fieldLike_102 : decode b_Mo_fieldLike 102 = .ok (.iload 4, 2) := by decide +kernel
theorem d_Mo_fieldLike_104 : decode b_Mo_fieldLike 104 = .ok (.ireturn, 1) := by decide +kernel
theorem d_Mo_fieldLike_105 : decode b_Mo_fieldLike 105 = .ok (.iinc 4 1, 3) := by decide +kernel
theorem d_Mo_fieldLike_108 : decode b_Mo_fieldLike 108 = .ok (.goto (-102), 3) := by decide +kernel
theorem d_Mo_fieldLike_111 : decode b_Mo_fieldLike 111 = .ok (.bipush (-2), 2) := by decide +kernel
theorem d_Mo_fieldLike_113 : decode b_Mo_fieldLike 113 = .ok (.ireturn, 1) := by decide +kernel
abbrev ru_Mo_fieldLike : Room := { frames := 0, cells := 0, slots := 0, locals := 0 }
def wj_Mo_fieldLike_105 (y : Ly) (Post : St → Int32 → Prop) (K_6 : St → Int32 → Int32 → Int32 → Prop) (a0 : Nat) (a2 : Nat) (s_j105 : St) (x1j105 : Int32) (x3j105 : Int32) (x4j105 : Int32) : Prop := K_6 s_j105 x1j105 x3j105 (x4j105 + 1)
def wb_Mo_fieldLike_6 (y : Ly) (Post : St → Int32 → Prop) (K_6 : St → Int32 → Int32 → Int32 → Prop) (a0 : Nat) (a2 : Nat) (s_h6 : St) (x1h6 : Int32) (x3h6 : Int32) (x4h6 : Int32) : Prop := xA y s_h6 a2 8 x3h6 (fun x_1 : Int32 => ((((8 * x3h6) + x_1) ≤ x4h6 → Post s_h6 (-2)) ∧ (¬ (((8 * x3h6) + x_1) ≤ x4h6) → xA y s_h6 a2 12 x4h6 (fun x_2 : Int32 => xA y s_h6 a0 12 x1h6 (fun x_3 : Int32 => ((¬ x_2 = x_3 → wj_Mo_fieldLike_105 y Post K_6 a0 a2 s_h6 x1h6 x3h6 x4h6) ∧ (x_2 = x_3 → xA y s_h6 a2 13 x4h6 (fun x_4 : Int32 => xA y s_h6 a0 13 x1h6 (fun x_5 : Int32 => ((¬ x_4 = x_5 → wj_Mo_fieldLike_105 y Post K_6 a0 a2 s_h6 x1h6 x3h6 x4h6) ∧ (x_4 = x_5 → xA y s_h6 a2 14 x4h6 (fun x_6 : Int32 => xA y s_h6 a0 14 x1h6 (fun x_7 : Int32 => ((¬ x_6 = x_7 → wj_Mo_fieldLike_105 y Post K_6 a0 a2 s_h6 x1h6 x3h6 x4h6) ∧ (x_6 = x_7 → xA y s_h6 a2 16 x4h6 (fun x_8 : Int32 => xA y s_h6 a0 16 x1h6 (fun x_9 : Int32 => ((¬ x_8 = x_9 → wj_Mo_fieldLike_105 y Post K_6 a0 a2 s_h6 x1h6 x3h6 x4h6) ∧ (x_8 = x_9 → xA y s_h6 a2 15 x4h6 (fun x_10 : Int32 => xA y s_h6 a0 15 x1h6 (fun x_11 : Int32 => ((¬ x_10 = x_11 → wj_Mo_fieldLike_105 y Post K_6 a0 a2 s_h6 x1h6 x3h6 x4h6) ∧ (x_10 = x_11 → Post s_h6 x4h6)))))))))))))))))))))))
def wl_Mo_fieldLike_6 (y : Ly) (Post : St → Int32 → Prop) (a0 : Nat) (a2 : Nat) (s_h6 : St) (x1h6 : Int32) (x3h6 : Int32) (x4h6 : Int32) : Prop := ∃ (I : St → Int32 → Int32 → Int32 → Prop) (μ : St → Int32 → Int32 → Int32 → Nat), I s_h6 x1h6 x3h6 x4h6 ∧ ∀ (u : St) (t0 : Int32) (t1 : Int32) (t2 : Int32), I u t0 t1 t2 → wb_Mo_fieldLike_6 y Post (fun z t0q t1q t2q => I z t0q t1q t2q ∧ μ z t0q t1q t2q < μ u t0 t1 t2) a0 a2 u t0 t1 t2
def wu_Mo_fieldLike (y : Ly) (Post : St → Int32 → Prop) (σ : St) (a0 : Nat) (v1 : Int32) (a2 : Nat) (v3 : Int32) : Prop := wl_Mo_fieldLike_6 y Post a0 a2 σ v1 v3 (8 * v3)
set_option maxHeartbeats 4000000 in
set_option maxRecDepth 100000 in
theorem cu_Mo_fieldLike (l : Launch) (D : va_G) (g : Nat → ClassId) (ad : Nat → Nat) (y : Ly) (Post : St → Int32 → Prop) (σ : St) (a0 : Nat) (v1 : Int32) (a2 : Nat) (v3 : Int32) (sz : Nat) (h_a0 : cl a0 = 13) (h_a2 : cl a2 = 13) (h : wu_Mo_fieldLike y Post σ a0 v1 a2 v3) : Met l y_Mo_fieldLike (mw y_Mo_fieldLike b_Mo_fieldLike 5 (some .int)) ru_Mo_fieldLike (PC g D [] [.ref (ad a0), .int v1, .ref (ad a2), .int v3] sz (ws g ad y σ)) (va_Qi (fun (r : Int32) (u : St) => Post u r) (QW D (va_A (ws g ad y σ) sz) (fun u => ws g ad y u)) (va_A (ws g ad y σ) sz)) 0 0 (va_A (ws g ad y σ) sz) := by
  refine ofI (by decide +kernel) (Nat.le_of_ble_eq_true rfl) ?_
  intro p e s m args below meth c A Q ls H locs G hsz hP hD hS hl hret
  subst hsz
  have hl : lv_has ls 5 [(0, .ref (ad a0)), (1, .int v1), (2, .ref (ad a2)), (3, .int v3)] := hl
  unfold wu_Mo_fieldLike at h
  refine lv_bipush (v := 8) G.1 G.2.1 d_Mo_fieldLike_0 (by decide) ?_
  refine lv_iload_n G.1 G.2.1 d_Mo_fieldLike_2 rfl (lv_at hl 3 rfl) ?_
  refine lv_imul G.1 G.2.1 d_Mo_fieldLike_3 ?_
  refine lv_istore (lv' := [(4, .int (8 * v3)), (0, .ref (ad a0)), (1, .int v1), (2, .ref (ad a2)), (3, .int v3)]) G.1 G.2.1 d_Mo_fieldLike_4 hl (by decide) rfl (fun ls hl => ?_)
  unfold wl_Mo_fieldLike_6 at h
  obtain ⟨I_6, μ_6, hI_6, hB_6⟩ := h
  have L_6 : ∀ (n_6 : Nat) (s_h6 : St) (x1h6 : Int32) (x3h6 : Int32) (x4h6 : Int32), μ_6 s_h6 x1h6 x3h6 x4h6 < n_6 → I_6 s_h6 x1h6 x3h6 x4h6 → ∀ (H : Heap) (locs : List Loc), va_P D CL (ws g ad y s_h6) H → va_D A (ws g ad y s_h6) → va_S A s.heap H locs → ∀ ls, lv_has ls 5 [(0, .ref (ad a0)), (1, .int x1h6), (2, .ref (ad a2)), (3, .int x3h6), (4, .int x4h6)] → W p l e ru_Mo_fieldLike s m args below meth c H locs 0 0 Q (F0 m 6 ls []) := by
    intro n_6
    induction n_6 with
    | zero => intro s_h6 x1h6 x3h6 x4h6 hμ; exact absurd hμ (Nat.not_lt_zero _)
    | succ n_6 ih_6 =>
      intro s_h6 x1h6 x3h6 x4h6 hμ_6 hJ H locs hP hD hS ls hl
      obtain ⟨K_6, hK_6, h⟩ : ∃ K : St → Int32 → Int32 → Int32 → Prop, (∀ z (t0 : Int32) (t1 : Int32) (t2 : Int32), K z t0 t1 t2 → I_6 z t0 t1 t2 ∧ μ_6 z t0 t1 t2 < μ_6 s_h6 x1h6 x3h6 x4h6) ∧ wb_Mo_fieldLike_6 y Post K a0 a2 s_h6 x1h6 x3h6 x4h6 := ⟨_, fun _ _ _ _ h => h, hB_6 s_h6 x1h6 x3h6 x4h6 hJ⟩
      unfold wb_Mo_fieldLike_6 at h
      refine lv_iload G.1 G.2.1 d_Mo_fieldLike_6 (lv_at hl 4 rfl) ?_
      refine lv_bipush (v := 8) G.1 G.2.1 d_Mo_fieldLike_8 (by decide) ?_
      refine lv_iload_n G.1 G.2.1 d_Mo_fieldLike_10 rfl (lv_at hl 3 rfl) ?_
      refine lv_imul G.1 G.2.1 d_Mo_fieldLike_11 ?_
      refine lv_aload_n G.1 G.2.1 d_Mo_fieldLike_12 rfl (lv_at hl 2 rfl) ?_
      refine ugfN (v := .ref (yP y a2 8)) G hP h_a2 iMw rfl 8 (by decide) rfl q2720 rfl rfl d_Mo_fieldLike_13 ?_
      refine lv_iload_n G.1 G.2.1 d_Mo_fieldLike_16 rfl (lv_at hl 3 rfl) ?_
      refine uiald G hP (kdp h_a2 rfl) (typ h_a2 rfl) h d_Mo_fieldLike_17 (fun x_1 h => ?_)
      refine lv_iadd G.1 G.2.1 d_Mo_fieldLike_18 ?_
      refine lv_icmp_ge (tgt := 111) G.1 G.2.1 d_Mo_fieldLike_19 (by decide) (fun c19 => ?_) (fun c19 => ?_)
      · skip
        have h := h.1 c19
        refine lv_bipush (v := (-2)) G.1 G.2.1 d_Mo_fieldLike_111 (by decide) ?_
        refine W.eq (g2 := F0 m 113 ls [.int (-2)]) rfl ?_
        exact hret _ _ _ _ _ _ _ ls h hP hD hS (Nat.le_refl _) (Nat.le_refl _) d_Mo_fieldLike_113
      · skip
        have h := h.2 c19
        refine lv_aload_n G.1 G.2.1 d_Mo_fieldLike_22 rfl (lv_at hl 2 rfl) ?_
        refine W.eq (g2 := F0 m 23 ls [.ref (ad a2)]) rfl ?_
        refine ugfN (v := .ref (yP y a2 12)) G hP h_a2 iMw rfl 12 (by decide) rfl q2728 rfl rfl d_Mo_fieldLike_23 ?_
        refine lv_iload G.1 G.2.1 d_Mo_fieldLike_26 (lv_at hl 4 rfl) ?_
        refine uiald G hP (kdp h_a2 rfl) (typ h_a2 rfl) h d_Mo_fieldLike_28 (fun x_2 h => ?_)
        refine lv_aload_n G.1 G.2.1 d_Mo_fieldLike_29 rfl (lv_at hl 0 rfl) ?_
        refine ugfN (v := .ref (yP y a0 12)) G hP h_a0 iMw rfl 12 (by decide) rfl q2728 rfl rfl d_Mo_fieldLike_30 ?_
        refine lv_iload_n G.1 G.2.1 d_Mo_fieldLike_33 rfl (lv_at hl 1 rfl) ?_
        refine uiald G hP (kdp h_a0 rfl) (typ h_a0 rfl) h d_Mo_fieldLike_34 (fun x_3 h => ?_)
        have J_105 : ∀ (s_j105 : St) (x1j105 : Int32) (x3j105 : Int32) (x4j105 : Int32) (H : Heap) (locs : List Loc), wj_Mo_fieldLike_105 y Post K_6 a0 a2 s_j105 x1j105 x3j105 x4j105 → va_P D CL (ws g ad y s_j105) H → va_D A (ws g ad y s_j105) → va_S A s.heap H locs → ∀ ls, lv_has ls 5 [(0, .ref (ad a0)), (1, .int x1j105), (2, .ref (ad a2)), (3, .int x3j105), (4, .int x4j105)] → W p l e ru_Mo_fieldLike s m args below meth c H locs 0 0 Q (F0 m 105 ls []) := by
          intro s_j105 x1j105 x3j105 x4j105 H locs h hP hD hS ls hl
          unfold wj_Mo_fieldLike_105 at h
          refine lv_iinc (v := x4j105 + 1) (lv' := [(4, .int (x4j105 + 1)), (0, .ref (ad a0)), (1, .int x1j105), (2, .ref (ad a2)), (3, .int x3j105)]) G.1 G.2.1 d_Mo_fieldLike_105 hl (k := 4) rfl rfl (by decide) rfl (fun ls hl => ?_)
          refine lv_goto (tgt := 6) G.1 G.2.1 d_Mo_fieldLike_108 (by decide) ?_
          have h := hK_6 s_j105 x1j105 x3j105 (x4j105 + 1) h
          exact ih_6 s_j105 x1j105 x3j105 (x4j105 + 1) (Nat.lt_of_lt_of_le h.2 (Nat.le_of_lt_succ hμ_6)) h.1 H locs hP hD hS ls (lv_sub hl [1, 2, 3, 4, 0] rfl)
        refine lv_icmp_ne (tgt := 105) G.1 G.2.1 d_Mo_fieldLike_35 (by decide) (fun c35 => ?_) (fun c35 => ?_)
        · skip
          have h := h.1 c35
          exact J_105 s_h6 x1h6 x3h6 x4h6 H locs h hP hD hS ls (lv_sub hl [0, 1, 2, 3, 4] rfl)
        · skip
          have h := h.2 c35
          refine lv_aload_n G.1 G.2.1 d_Mo_fieldLike_38 rfl (lv_at hl 2 rfl) ?_
          refine ugfN (v := .ref (yP y a2 13)) G hP h_a2 iMw rfl 13 (by decide) rfl q2730 rfl rfl d_Mo_fieldLike_39 ?_
          refine lv_iload G.1 G.2.1 d_Mo_fieldLike_42 (lv_at hl 4 rfl) ?_
          refine uiald G hP (kdp h_a2 rfl) (typ h_a2 rfl) h d_Mo_fieldLike_44 (fun x_4 h => ?_)
          refine W.eq (g2 := F0 m 45 ls [.int x_4]) rfl ?_
          refine lv_aload_n G.1 G.2.1 d_Mo_fieldLike_45 rfl (lv_at hl 0 rfl) ?_
          refine ugfN (v := .ref (yP y a0 13)) G hP h_a0 iMw rfl 13 (by decide) rfl q2730 rfl rfl d_Mo_fieldLike_46 ?_
          refine lv_iload_n G.1 G.2.1 d_Mo_fieldLike_49 rfl (lv_at hl 1 rfl) ?_
          refine uiald G hP (kdp h_a0 rfl) (typ h_a0 rfl) h d_Mo_fieldLike_50 (fun x_5 h => ?_)
          refine lv_icmp_ne (tgt := 105) G.1 G.2.1 d_Mo_fieldLike_51 (by decide) (fun c51 => ?_) (fun c51 => ?_)
          · skip
            have h := h.1 c51
            exact J_105 s_h6 x1h6 x3h6 x4h6 H locs h hP hD hS ls (lv_sub hl [0, 1, 2, 3, 4] rfl)
          · skip
            have h := h.2 c51
            refine lv_aload_n G.1 G.2.1 d_Mo_fieldLike_54 rfl (lv_at hl 2 rfl) ?_
            refine ugfN (v := .ref (yP y a2 14)) G hP h_a2 iMw rfl 14 (by decide) rfl q2732 rfl rfl d_Mo_fieldLike_55 ?_
            refine lv_iload G.1 G.2.1 d_Mo_fieldLike_58 (lv_at hl 4 rfl) ?_
            refine uiald G hP (kdp h_a2 rfl) (typ h_a2 rfl) h d_Mo_fieldLike_60 (fun x_6 h => ?_)
            refine lv_aload_n G.1 G.2.1 d_Mo_fieldLike_61 rfl (lv_at hl 0 rfl) ?_
            refine ugfN (v := .ref (yP y a0 14)) G hP h_a0 iMw rfl 14 (by decide) rfl q2732 rfl rfl d_Mo_fieldLike_62 ?_
            refine lv_iload_n G.1 G.2.1 d_Mo_fieldLike_65 rfl (lv_at hl 1 rfl) ?_
            refine W.eq (g2 := F0 m 66 ls [.int x1h6, .ref (yP y a0 14), .int x_6]) rfl ?_
            refine uiald G hP (kdp h_a0 rfl) (typ h_a0 rfl) h d_Mo_fieldLike_66 (fun x_7 h => ?_)
            refine lv_icmp_ne (tgt := 105) G.1 G.2.1 d_Mo_fieldLike_67 (by decide) (fun c67 => ?_) (fun c67 => ?_)
            · skip
              have h := h.1 c67
              exact J_105 s_h6 x1h6 x3h6 x4h6 H locs h hP hD hS ls (lv_sub hl [0, 1, 2, 3, 4] rfl)
            · skip
              have h := h.2 c67
              refine lv_aload_n G.1 G.2.1 d_Mo_fieldLike_70 rfl (lv_at hl 2 rfl) ?_
              refine ugfN (v := .ref (yP y a2 16)) G hP h_a2 iMw rfl 16 (by decide) rfl q2736 rfl rfl d_Mo_fieldLike_71 ?_
              refine lv_iload G.1 G.2.1 d_Mo_fieldLike_74 (lv_at hl 4 rfl) ?_
              refine uzald G hP (kdp h_a2 rfl) (typ h_a2 rfl) h d_Mo_fieldLike_76 (fun x_8 h => ?_)
              refine lv_aload_n G.1 G.2.1 d_Mo_fieldLike_77 rfl (lv_at hl 0 rfl) ?_
              refine ugfN (v := .ref (yP y a0 16)) G hP h_a0 iMw rfl 16 (by decide) rfl q2736 rfl rfl d_Mo_fieldLike_78 ?_
              refine lv_iload_n G.1 G.2.1 d_Mo_fieldLike_81 rfl (lv_at hl 1 rfl) ?_
              refine uzald G hP (kdp h_a0 rfl) (typ h_a0 rfl) h d_Mo_fieldLike_82 (fun x_9 h => ?_)
              refine lv_icmp_ne (tgt := 105) G.1 G.2.1 d_Mo_fieldLike_83 (by decide) (fun c83 => ?_) (fun c83 => ?_)
              · skip
                have h := h.1 c83
                exact J_105 s_h6 x1h6 x3h6 x4h6 H locs h hP hD hS ls (lv_sub hl [0, 1, 2, 3, 4] rfl)
              · skip
                have h := h.2 c83
                refine lv_aload_n G.1 G.2.1 d_Mo_fieldLike_86 rfl (lv_at hl 2 rfl) ?_
                refine W.eq (g2 := F0 m 87 ls [.ref (ad a2)]) rfl ?_
                refine ugfN (v := .ref (yP y a2 15)) G hP h_a2 iMw rfl 15 (by decide) rfl q2734 rfl rfl d_Mo_fieldLike_87 ?_
                refine lv_iload G.1 G.2.1 d_Mo_fieldLike_90 (lv_at hl 4 rfl) ?_
                refine uiald G hP (kdp h_a2 rfl) (typ h_a2 rfl) h d_Mo_fieldLike_92 (fun x_10 h => ?_)
                refine lv_aload_n G.1 G.2.1 d_Mo_fieldLike_93 rfl (lv_at hl 0 rfl) ?_
                refine ugfN (v := .ref (yP y a0 15)) G hP h_a0 iMw rfl 15 (by decide) rfl q2734 rfl rfl d_Mo_fieldLike_94 ?_
                refine lv_iload_n G.1 G.2.1 d_Mo_fieldLike_97 rfl (lv_at hl 1 rfl) ?_
                refine uiald G hP (kdp h_a0 rfl) (typ h_a0 rfl) h d_Mo_fieldLike_98 (fun x_11 h => ?_)
                refine lv_icmp_ne (tgt := 105) G.1 G.2.1 d_Mo_fieldLike_99 (by decide) (fun c99 => ?_) (fun c99 => ?_)
                · skip
                  have h := h.1 c99
                  exact J_105 s_h6 x1h6 x3h6 x4h6 H locs h hP hD hS ls (lv_sub hl [0, 1, 2, 3, 4] rfl)
                · skip
                  have h := h.2 c99
                  refine lv_iload G.1 G.2.1 d_Mo_fieldLike_102 (lv_at hl 4 rfl) ?_
                  exact hret _ _ _ _ _ _ _ ls h hP hD hS (Nat.le_refl _) (Nat.le_refl _) d_Mo_fieldLike_104
  exact L_6 _ σ v1 v3 (8 * v3) (Nat.lt_succ_self _) hI_6 H locs hP hD hS ls (lv_sub hl [1, 2, 3, 4, 0] rfl)
def y_Mo_trace : MethodName := ⟨"ClassWorksModel", "trace", "(III)I"⟩
abbrev b_Mo_trace : ByteArray := prog_14_method_192_code
theorem d_Mo_trace_0 : decode b_Mo_trace 0 = .ok (.aload_n 0, 1) := by decide +kernel
theorem d_Mo_trace_1 : decode b_Mo_trace 1 = .ok (.iload_n 1, 1) := by decide +kernel
theorem d_Mo_trace_2 : decode b_Mo_trace 2 = .ok (.invokevirtual 1118, 3) := by decide +kernel
theorem d_Mo_trace_5 : decode b_Mo_trace 5 = .ok (.ifCond .eq 16, 3) := by decide +kernel
theorem d_Mo_trace_8 : decode b_Mo_trace 8 = .ok (.iload_n 2, 1) := by decide +kernel
theorem d_Mo_trace_9 : decode b_Mo_trace 9 = .ok (.ifCond .lt 12, 3) := by decide +kernel
theorem d_Mo_trace_12 : decode b_Mo_trace 12 = .ok (.iload_n 3, 1) := by decide +kernel
theorem d_Mo_trace_13 : decode b_Mo_trace 13 = .ok (.ifCond .lt 8, 3) := by decide +kernel
theorem d_Mo_trace_16 : decode b_Mo_trace 16 = .ok (.iload_n 3, 1) := by decide +kernel
theorem d_Mo_trace_17 : decode b_Mo_trace 17 = .ok (.iconst 4, 1) := by decide +kernel
theorem d_Mo_trace_18 : decode b_Mo_trace 18 = .ok (.if_icmp .le 5, 3) := by decide +kernel
theorem d_Mo_trace_21 : decode b_Mo_trace 21 = .ok (.iconst (-1), 1) := by decide +kernel
theorem d_Mo_trace_22 : decode b_Mo_trace 22 = .ok (.ireturn, 1) := by decide +kernel
theorem d_Mo_trace_23 : decode b_Mo_trace 23 = .ok (.aload_n 0, 1) := by decide +kernel
theorem d_Mo_trace_24 : decode b_Mo_trace 24 = .ok (.getfield 263, 3) := by decide +kernel
theorem d_Mo_trace_27 : decode b_Mo_trace 27 = .ok (.iload_n 1, 1) := by decide +kernel
theorem d_Mo_trace_28 : decode b_Mo_trace 28 = .ok (.aaload, 1) := by decide +kernel
theorem d_Mo_trace_29 : decode b_Mo_trace 29 = .ok (.astore 4, 2) := by decide +kernel
theorem d_Mo_trace_31 : decode b_Mo_trace 31 = .ok (.iload_n 2, 1) := by decide +kernel
theorem d_Mo_trace_32 : decode b_Mo_trace 32 = .ok (.aload 4, 2) := by decide +kernel
theorem d_Mo_trace_34 : decode b_Mo_trace 34 = .ok (.getfield 501, 3) := by decide +kernel
theorem d_Mo_trace_37 : decode b_Mo_trace 37 = .ok (.if_icmp .lt 6, 3) := by decide +kernel
theorem d_Mo_trace_40 : decode b_Mo_trace 40 = .ok (.bipush (-2), 2) := by decide +kernel
theorem d_Mo_trace_42 : decode b_Mo_trace 42 = .ok (.ireturn, 1) := by decide +kernel
theorem d_Mo_trace_43 : decode b_Mo_trace 43 = .ok (.aload 4, 2) := by decide +kernel
theorem d_Mo_trace_45 : decode b_Mo_trace 45 = .ok (.getfield 911, 3) := by decide +kernel
theorem d_Mo_trace_48 : decode b_Mo_trace 48 = .ok (.iload_n 2, 1) := by decide +kernel
theorem d_Mo_trace_49 : decode b_Mo_trace 49 = .ok (.iaload, 1) := by decide +kernel
theorem d_Mo_trace_50 : decode b_Mo_trace 50 = .ok (.istore 5, 2) := by decide +kernel
theorem d_Mo_trace_52 : decode b_Mo_trace 52 = .ok (.iload_n 3, 1) := by decide +kernel
theorem d_Mo_trace_53 : decode b_Mo_trace 53 = .ok (.tableswitch 81 0 3 #[31, 39, 47, 65], 31) := by decide +kernel
theorem d_Mo_trace_84 : decode b_Mo_trace 84 = .ok (.aload 4, 2) := by decide +kernel
theorem d_Mo_trace_86 : decode b_Mo_trace 86 = .ok (.getfield 902, 3) := by decide +kernel
theorem d_Mo_trace_89 : decode b_Mo_trace 89 = .ok (.iload_n 2, 1) := by decide +kernel
theorem d_Mo_trace_90 : decode b_Mo_trace 90 = .ok (.iaload, 1) := by decide +kernel
theorem d_Mo_trace_91 : decode b_Mo_trace 91 = .ok (.ireturn, 1) := by decide +kernel
theorem d_Mo_trace_92 : decode b_Mo_trace 92 = .ok (.aload 4, 2) := by decide +kernel
theorem d_Mo_trace_94 : decode b_Mo_trace 94 = .ok (.getfield 905, 3) := by decide +kernel
theorem d_Mo_trace_97 : decode b_Mo_trace 97 = .ok (.iload_n 2, 1) := by decide +kernel
theorem d_Mo_trace_98 : decode b_Mo_trace 98 = .ok (.iaload, 1) := by decide +kernel
theorem d_Mo_trace_99 : decode b_Mo_trace 99 = .ok (.ireturn, 1) := by decide +kernel
theorem d_Mo_trace_100 : decode b_Mo_trace 100 = .ok (.iload 5, 2) := by decide +kernel
theorem d_Mo_trace_102 : decode b_Mo_trace 102 = .ok (.ifCond .ge 10, 3) := by decide +kernel
theorem d_Mo_trace_105 : decode b_Mo_trace 105 = .ok (.iconst (-1), 1) := by decide +kernel
theorem d_Mo_trace_106 : decode b_Mo_trace 106 = .ok (.iload 5, 2) := by decide +kernel
theorem d_Mo_trace_108 : decode b_Mo_trace 108 = .ok (.isub, 1) := by decide +kernel
theorem d_Mo_trace_109 : decode b_Mo_trace 109 = .ok (.goto 8, 3) := by decide +kernel
theorem d_Mo_trace_112 : decode b_Mo_trace 112 = .ok (.iload 5, 2) := by decide +kernel
theorem d_Mo_trace_114 : decode b_Mo_trace 114 = .ok (.bipush 12, 2) := by decide +kernel
theorem d_Mo_trace_116 : decode b_Mo_trace 116 = .ok (.idiv, 1) := by decide +kernel
theorem d_Mo_trace_117 : decode b_Mo_trace 117 = .ok (.ireturn, 1) := by decide +kernel
theorem d_Mo_trace_118 : decode b_Mo_trace 118 = .ok (.iload 5, 2) := by decide +kernel
theorem d_Mo_trace_120 : decode b_Mo_trace 120 = .ok (.ifCond .ge 8, 3) := by decide +kernel
theorem d_Mo_trace_123 : decode b_Mo_trace 123 = .ok (.bipush (-2), 2) := by decide +kernel
theorem d_Mo_trace_125 : decode b_Mo_trace 125 = .ok (.goto 8, 3) := by decide +kernel
theorem d_Mo_trace_128 : decode b_Mo_trace 128 = .ok (.iload 5, 2) := by decide +kernel
theorem d_Mo_trace_130 : decode b_Mo_trace 130 = .ok (.bipush 12, 2) := by decide +kernel
theorem d_Mo_trace_132 : decode b_Mo_trace 132 = .ok (.irem, 1) := by decide +kernel
theorem d_Mo_trace_133 : decode b_Mo_trace 133 = .ok (.ireturn, 1) := by decide +kernel
theorem d_Mo_trace_134 : decode b_Mo_trace 134 = .ok (.aload 4, 2) := by decide +kernel
theorem d_Mo_trace_136 : decode b_Mo_trace 136 = .ok (.getfield 914, 3) := by decide +kernel
theorem d_Mo_trace_139 : decode b_Mo_trace 139 = .ok (.iload_n 2, 1) := by decide +kernel
theorem d_Mo_trace_140 : decode b_Mo_trace 140 = .ok (.iaload, 1) := by decide +kernel
theorem d_Mo_trace_141 : decode b_Mo_trace 141 = .ok (.ireturn, 1) := by decide +kernel
abbrev ru_Mo_trace : Room := { frames := 1, cells := 0, slots := 0, locals := 21 }
def wj_Mo_trace_21 (y : Ly) (Post : St → Int32 → Prop) (a0 : Nat) (s_j21 : St) : Prop := Post s_j21 (-1)
def wj_Mo_trace_117 (y : Ly) (Post : St → Int32 → Prop) (a0 : Nat) (s_j117 : St) (z0j117 : Int32) : Prop := Post s_j117 z0j117
def wj_Mo_trace_133 (y : Ly) (Post : St → Int32 → Prop) (a0 : Nat) (s_j133 : St) (z0j133 : Int32) : Prop := Post s_j133 z0j133
def wu_Mo_trace (y : Ly) (Post : St → Int32 → Prop) (σ : St) (a0 : Nat) (v1 : Int32) (v2 : Int32) (v3 : Int32) : Prop := wu_Mo_isWorld y (fun (s_2 : St) (r_1 : Int32) => ((r_1 = 0 → wj_Mo_trace_21 y Post a0 s_2) ∧ (¬ (r_1 = 0) → ((v2 < 0 → wj_Mo_trace_21 y Post a0 s_2) ∧ (¬ (v2 < 0) → ((v3 < 0 → wj_Mo_trace_21 y Post a0 s_2) ∧ (¬ (v3 < 0) → ((v3 ≤ 4 → xQ y a0 44 v1 (fun b_3 : Nat => ((v2 < (sV s_2 b_3 70) → xA y s_2 b_3 68 v2 (fun x_5 : Int32 => ((v3 = 0 → xA y s_2 b_3 66 v2 (fun x_6 : Int32 => Post s_2 x_6)) ∧ (¬ (v3 = 0) → ((v3 = 1 → xA y s_2 b_3 67 v2 (fun x_7 : Int32 => Post s_2 x_7)) ∧ (¬ (v3 = 1) → ((v3 = 2 → ((0 ≤ x_5 → wj_Mo_trace_117 y Post a0 s_2 (x_5 / 12)) ∧ (¬ (0 ≤ x_5) → wj_Mo_trace_117 y Post a0 s_2 ((-1) - x_5)))) ∧ (¬ (v3 = 2) → ((v3 = 3 → ((0 ≤ x_5 → wj_Mo_trace_133 y Post a0 s_2 (x_5 - x_5 / 12 * 12)) ∧ (¬ (0 ≤ x_5) → wj_Mo_trace_133 y Post a0 s_2 (-2)))) ∧ (¬ (v3 = 3) → xA y s_2 b_3 69 v2 (fun x_8 : Int32 => Post s_2 x_8))))))))))) ∧ (¬ (v2 < (sV s_2 b_3 70)) → Post s_2 (-2))))) ∧ (¬ (v3 ≤ 4) → wj_Mo_trace_21 y Post a0 s_2))))))))) σ a0 v1
set_option maxHeartbeats 4000000 in
set_option maxRecDepth 100000 in
theorem cu_Mo_trace (l : Launch) (D : va_G) (g : Nat → ClassId) (ad : Nat → Nat) (y : Ly) (Post : St → Int32 → Prop) (σ : St) (a0 : Nat) (v1 : Int32) (v2 : Int32) (v3 : Int32) (sz : Nat) (h_a0 : cl a0 = 14) (h : wu_Mo_trace y Post σ a0 v1 v2 v3) : Met l y_Mo_trace (mw y_Mo_trace b_Mo_trace 6 (some .int)) ru_Mo_trace (PC g D [] [.ref (ad a0), .int v1, .int v2, .int v3] sz (ws g ad y σ)) (va_Qi (fun (r : Int32) (u : St) => Post u r) (QW D (va_A (ws g ad y σ) sz) (fun u => ws g ad y u)) (va_A (ws g ad y σ) sz)) 0 0 (va_A (ws g ad y σ) sz) := by
  refine ofI (by decide +kernel) (Nat.le_of_ble_eq_true rfl) ?_
  intro p e s m args below meth c A Q ls H locs G hsz hP hD hS hl hret
  subst hsz
  have hl : lv_has ls 6 [(0, .ref (ad a0)), (1, .int v1), (2, .int v2), (3, .int v3)] := hl
  unfold wu_Mo_trace at h
  refine lv_aload_n G.1 G.2.1 d_Mo_trace_0 rfl (lv_at hl 0 rfl) ?_
  refine lv_iload_n G.1 G.2.1 d_Mo_trace_1 rfl (lv_at hl 1 rfl) ?_
  refine ucVi (As := [.int v1]) (rest := []) G hP hD hS (cu_Mo_isWorld l D g ad y _ σ a0 v1 H.size h_a0 h) w9_Mo_isWorld q3482 ⟨Nat.le_of_ble_eq_true rfl, Nat.le_of_ble_eq_true rfl⟩ rfl rfl h_a0 (q := (RMo, TMo, 131)) rfl rfl hl.1 rfl (Nat.le_of_ble_eq_true rfl) rfl ⟨Nat.le_refl _, Nat.le_refl _⟩ d_Mo_trace_2 (fun r_1 s_2 H locs h hP hD hS => ?_)
  have J_21 : ∀ (s_j21 : St) (H : Heap) (locs : List Loc), wj_Mo_trace_21 y Post a0 s_j21 → va_P D CL (ws g ad y s_j21) H → va_D A (ws g ad y s_j21) → va_S A s.heap H locs → ∀ ls, lv_has ls 6 [] → W p l e ru_Mo_trace s m args below meth c H locs 0 0 Q (F0 m 21 ls []) := by
    intro s_j21 H locs h hP hD hS ls hl
    unfold wj_Mo_trace_21 at h
    refine lv_iconst (v := (-1)) G.1 G.2.1 d_Mo_trace_21 (by decide) ?_
    exact hret _ _ _ _ _ _ _ ls h hP hD hS (Nat.le_refl _) (Nat.le_refl _) d_Mo_trace_22
  refine lv_if_eq (tgt := 21) G.1 G.2.1 d_Mo_trace_5 (by decide) (fun c5 => ?_) (fun c5 => ?_)
  · skip
    have h := h.1 c5
    exact J_21 s_2 H locs h hP hD hS ls (lv_sub hl [] rfl)
  · skip
    have h := h.2 c5
    refine lv_iload_n G.1 G.2.1 d_Mo_trace_8 rfl (lv_at hl 2 rfl) ?_
    refine lv_if_lt (tgt := 21) G.1 G.2.1 d_Mo_trace_9 (by decide) (fun c9 => ?_) (fun c9 => ?_)
    · skip
      have h := h.1 c9
      exact J_21 s_2 H locs h hP hD hS ls (lv_sub hl [] rfl)
    · skip
      have h := h.2 c9
      refine lv_iload_n G.1 G.2.1 d_Mo_trace_12 rfl (lv_at hl 3 rfl) ?_
      refine lv_if_lt (tgt := 21) G.1 G.2.1 d_Mo_trace_13 (by decide) (fun c13 => ?_) (fun c13 => ?_)
      · skip
        have h := h.1 c13
        exact J_21 s_2 H locs h hP hD hS ls (lv_sub hl [] rfl)
      · skip
        have h := h.2 c13
        refine lv_iload_n G.1 G.2.1 d_Mo_trace_16 rfl (lv_at hl 3 rfl) ?_
        refine lv_iconst (v := 4) G.1 G.2.1 d_Mo_trace_17 (by decide) ?_
        refine lv_icmp_le (tgt := 23) G.1 G.2.1 d_Mo_trace_18 (by decide) (fun c18 => ?_) (fun c18 => ?_)
        · skip
          have h := h.1 c18
          refine W.eq (g2 := F0 m 23 ls []) rfl ?_
          refine lv_aload_n G.1 G.2.1 d_Mo_trace_23 rfl (lv_at hl 0 rfl) ?_
          refine ugf (v := .ref (yP y a0 44)) G hP h_a0 iMo rfl 44 (by decide) rfl q3108 rfl rfl d_Mo_trace_24 ?_
          refine lv_iload_n G.1 G.2.1 d_Mo_trace_27 rfl (lv_at hl 1 rfl) ?_
          refine uqald G hP (kdp h_a0 rfl) (typ h_a0 rfl) rfl h d_Mo_trace_28 (fun b_3 n_4 h => ?_)
          refine lv_astore (lv' := [(4, .ref (ad b_3)), (0, .ref (ad a0)), (1, .int v1), (2, .int v2), (3, .int v3)]) G.1 G.2.1 d_Mo_trace_29 hl (by decide) rfl (fun ls hl => ?_)
          refine lv_iload_n G.1 G.2.1 d_Mo_trace_31 rfl (lv_at hl 3 rfl) ?_
          refine lv_aload G.1 G.2.1 d_Mo_trace_32 (lv_at hl 0 rfl) ?_
          refine ugfN (v := .int (sV s_2 b_3 70)) G hP (oa_14 h_a0 n_4) iMw rfl 70 (by decide) rfl q2832 rfl rfl d_Mo_trace_34 ?_
          refine lv_icmp_lt (tgt := 43) G.1 G.2.1 d_Mo_trace_37 (by decide) (fun c37 => ?_) (fun c37 => ?_)
          · skip
            have h := h.1 c37
            refine lv_aload G.1 G.2.1 d_Mo_trace_43 (lv_at hl 0 rfl) ?_
            refine ugfN (v := .ref (yP y b_3 68)) G hP (oa_14 h_a0 n_4) iMw rfl 68 (by decide) rfl q2829 rfl rfl d_Mo_trace_45 ?_
            refine lv_iload_n G.1 G.2.1 d_Mo_trace_48 rfl (lv_at hl 3 rfl) ?_
            refine W.eq (g2 := F0 m 49 ls [.int v2, .ref (yP y b_3 68)]) rfl ?_
            refine uiald G hP (kdp (oa_14 h_a0 n_4) rfl) (typ (oa_14 h_a0 n_4) rfl) h d_Mo_trace_49 (fun x_5 h => ?_)
            refine lv_istore (lv' := [(5, .int x_5), (4, .ref (ad b_3)), (0, .ref (ad a0)), (1, .int v1), (2, .int v2), (3, .int v3)]) G.1 G.2.1 d_Mo_trace_50 hl (by decide) rfl (fun ls hl => ?_)
            refine lv_iload_n G.1 G.2.1 d_Mo_trace_52 rfl (lv_at hl 5 rfl) ?_
            by_cases e53_0 : v3 = 0
            · skip
              have h := h.1 e53_0
              refine lv_tableIn (off := 31) (tgt := 84) G.1 G.2.1 d_Mo_trace_53 (by rw [e53_0]; decide) (by rw [e53_0]; decide) (by rw [e53_0]; rfl) (by decide) ?_
              refine lv_aload G.1 G.2.1 d_Mo_trace_84 (lv_at hl 1 rfl) ?_
              refine ugfN (v := .ref (yP y b_3 66)) G hP (oa_14 h_a0 n_4) iMw rfl 66 (by decide) rfl q2825 rfl rfl d_Mo_trace_86 ?_
              refine lv_iload_n G.1 G.2.1 d_Mo_trace_89 rfl (lv_at hl 4 rfl) ?_
              refine uiald G hP (kdp (oa_14 h_a0 n_4) rfl) (typ (oa_14 h_a0 n_4) rfl) h d_Mo_trace_90 (fun x_6 h => ?_)
              exact hret _ _ _ _ _ _ _ ls h hP hD hS (Nat.le_refl _) (Nat.le_refl _) d_Mo_trace_91
            replace h := h.2 e53_0
            by_cases e53_1 : v3 = 1
            · skip
              have h := h.1 e53_1
              refine lv_tableIn (off := 39) (tgt := 92) G.1 G.2.1 d_Mo_trace_53 (by rw [e53_1]; decide) (by rw [e53_1]; decide) (by rw [e53_1]; rfl) (by decide) ?_
              refine lv_aload G.1 G.2.1 d_Mo_trace_92 (lv_at hl 1 rfl) ?_
              refine ugfN (v := .ref (yP y b_3 67)) G hP (oa_14 h_a0 n_4) iMw rfl 67 (by decide) rfl q2827 rfl rfl d_Mo_trace_94 ?_
              refine lv_iload_n G.1 G.2.1 d_Mo_trace_97 rfl (lv_at hl 4 rfl) ?_
              refine uiald G hP (kdp (oa_14 h_a0 n_4) rfl) (typ (oa_14 h_a0 n_4) rfl) h d_Mo_trace_98 (fun x_7 h => ?_)
              exact hret _ _ _ _ _ _ _ ls h hP hD hS (Nat.le_refl _) (Nat.le_refl _) d_Mo_trace_99
            replace h := h.2 e53_1
            by_cases e53_2 : v3 = 2
            · skip
              have h := h.1 e53_2
              refine lv_tableIn (off := 47) (tgt := 100) G.1 G.2.1 d_Mo_trace_53 (by rw [e53_2]; decide) (by rw [e53_2]; decide) (by rw [e53_2]; rfl) (by decide) ?_
              refine lv_iload G.1 G.2.1 d_Mo_trace_100 (lv_at hl 0 rfl) ?_
              have J_117 : ∀ (s_j117 : St) (z0j117 : Int32) (H : Heap) (locs : List Loc), wj_Mo_trace_117 y Post a0 s_j117 z0j117 → va_P D CL (ws g ad y s_j117) H → va_D A (ws g ad y s_j117) → va_S A s.heap H locs → ∀ ls, lv_has ls 6 [] → W p l e ru_Mo_trace s m args below meth c H locs 0 0 Q (F0 m 117 ls [.int z0j117]) := by
                intro s_j117 z0j117 H locs h hP hD hS ls hl
                unfold wj_Mo_trace_117 at h
                exact hret _ _ _ _ _ _ _ ls h hP hD hS (Nat.le_refl _) (Nat.le_refl _) d_Mo_trace_117
              refine lv_if_ge (tgt := 112) G.1 G.2.1 d_Mo_trace_102 (by decide) (fun c102 => ?_) (fun c102 => ?_)
              · skip
                have h := h.1 c102
                refine lv_iload G.1 G.2.1 d_Mo_trace_112 (lv_at hl 0 rfl) ?_
                refine lv_bipush (v := 12) G.1 G.2.1 d_Mo_trace_114 (by decide) ?_
                refine lv_idiv G.1 G.2.1 d_Mo_trace_116 (by decide) ?_
                exact J_117 s_2 (x_5 / 12) H locs h hP hD hS ls (lv_sub hl [] rfl)
              · skip
                have h := h.2 c102
                refine lv_iconst (v := (-1)) G.1 G.2.1 d_Mo_trace_105 (by decide) ?_
                refine lv_iload G.1 G.2.1 d_Mo_trace_106 (lv_at hl 0 rfl) ?_
                refine lv_isub G.1 G.2.1 d_Mo_trace_108 ?_
                refine lv_goto (tgt := 117) G.1 G.2.1 d_Mo_trace_109 (by decide) ?_
                exact J_117 s_2 ((-1) - x_5) H locs h hP hD hS ls (lv_sub hl [] rfl)
            replace h := h.2 e53_2
            by_cases e53_3 : v3 = 3
            · skip
              have h := h.1 e53_3
              refine lv_tableIn (off := 65) (tgt := 118) G.1 G.2.1 d_Mo_trace_53 (by rw [e53_3]; decide) (by rw [e53_3]; decide) (by rw [e53_3]; rfl) (by decide) ?_
              refine lv_iload G.1 G.2.1 d_Mo_trace_118 (lv_at hl 0 rfl) ?_
              have J_133 : ∀ (s_j133 : St) (z0j133 : Int32) (H : Heap) (locs : List Loc), wj_Mo_trace_133 y Post a0 s_j133 z0j133 → va_P D CL (ws g ad y s_j133) H → va_D A (ws g ad y s_j133) → va_S A s.heap H locs → ∀ ls, lv_has ls 6 [] → W p l e ru_Mo_trace s m args below meth c H locs 0 0 Q (F0 m 133 ls [.int z0j133]) := by
                intro s_j133 z0j133 H locs h hP hD hS ls hl
                unfold wj_Mo_trace_133 at h
                exact hret _ _ _ _ _ _ _ ls h hP hD hS (Nat.le_refl _) (Nat.le_refl _) d_Mo_trace_133
              refine lv_if_ge (tgt := 128) G.1 G.2.1 d_Mo_trace_120 (by decide) (fun c120 => ?_) (fun c120 => ?_)
              · skip
                have h := h.1 c120
                refine lv_iload G.1 G.2.1 d_Mo_trace_128 (lv_at hl 0 rfl) ?_
                refine lv_bipush (v := 12) G.1 G.2.1 d_Mo_trace_130 (by decide) ?_
                refine lv_irem G.1 G.2.1 d_Mo_trace_132 (by decide) ?_
                exact J_133 s_2 (x_5 - x_5 / 12 * 12) H locs h hP hD hS ls (lv_sub hl [] rfl)
              · skip
                have h := h.2 c120
                refine lv_bipush (v := (-2)) G.1 G.2.1 d_Mo_trace_123 (by decide) ?_
                refine lv_goto (tgt := 133) G.1 G.2.1 d_Mo_trace_125 (by decide) ?_
                exact J_133 s_2 (-2) H locs h hP hD hS ls (lv_sub hl [] rfl)
            replace h := h.2 e53_3
            have te53_0 := lv_neT (a := 0) e53_0 (by decide)
            have te53_1 := lv_neT (a := 1) e53_1 (by decide)
            have te53_2 := lv_neT (a := 2) e53_2 (by decide)
            have te53_3 := lv_neT (a := 3) e53_3 (by decide)
            refine lv_tableOut (tgt := 134) G.1 G.2.1 d_Mo_trace_53 (by omega) (by decide) ?_
            refine lv_aload G.1 G.2.1 d_Mo_trace_134 (lv_at hl 1 rfl) ?_
            refine ugfN (v := .ref (yP y b_3 69)) G hP (oa_14 h_a0 n_4) iMw rfl 69 (by decide) rfl q2831 rfl rfl d_Mo_trace_136 ?_
            refine lv_iload_n G.1 G.2.1 d_Mo_trace_139 rfl (lv_at hl 4 rfl) ?_
            refine uiald G hP (kdp (oa_14 h_a0 n_4) rfl) (typ (oa_14 h_a0 n_4) rfl) h d_Mo_trace_140 (fun x_8 h => ?_)
            exact hret _ _ _ _ _ _ _ ls h hP hD hS (Nat.le_refl _) (Nat.le_refl _) d_Mo_trace_141
          · skip
            have h := h.2 c37
            refine lv_bipush (v := (-2)) G.1 G.2.1 d_Mo_trace_40 (by decide) ?_
            exact hret _ _ _ _ _ _ _ ls h hP hD hS (Nat.le_refl _) (Nat.le_refl _) d_Mo_trace_42
        · skip
          have h := h.2 c18
          exact J_21 s_2 H locs h hP hD hS ls (lv_sub hl [] rfl)
def y_Mo_done : MethodName := ⟨"ClassWorksModel", "done", "(II)I"⟩
abbrev b_Mo_done : ByteArray := prog_14_method_193_code
theorem d_Mo_done_0 : decode b_Mo_done 0 = .ok (.aload_n 0, 1) := by decide +kernel
theorem d_Mo_done_1 : decode b_Mo_done 1 = .ok (.iload_n 1, 1) := by decide +kernel
theorem d_Mo_done_2 : decode b_Mo_done 2 = .ok (.invokevirtual 1118, 3) := by decide +kernel
theorem d_Mo_done_5 : decode b_Mo_done 5 = .ok (.ifCond .eq 27, 3) := by decide +kernel
theorem d_Mo_done_8 : decode b_Mo_done 8 = .ok (.iload_n 2, 1) := by decide +kernel
theorem d_Mo_done_9 : decode b_Mo_done 9 = .ok (.ifCond .lt 23, 3) := by decide +kernel
theorem d_Mo_done_12 : decode b_Mo_done 12 = .ok (.iload_n 2, 1) := by decide +kernel
theorem d_Mo_done_13 : decode b_Mo_done 13 = .ok (.bipush 62, 2) := by decide +kernel
theorem d_Mo_done_15 : decode b_Mo_done 15 = .ok (.if_icmp .ge 17, 3) := by decide +kernel
theorem d_Mo_done_18 : decode b_Mo_done 18 = .ok (.aload_n 0, 1) := by decide +kernel
theorem d_Mo_done_19 : decode b_Mo_done 19 = .ok (.getfield 263, 3) := by decide +kernel
theorem d_Mo_done_22 : decode b_Mo_done 22 = .ok (.iload_n 1, 1) := by decide +kernel
theorem d_Mo_done_23 : decode b_Mo_done 23 = .ok (.aaload, 1) := by decide +kernel
theorem d_Mo_done_24 : decode b_Mo_done 24 = .ok (.getfield 504, 3) := by decide +kernel
theorem d_Mo_done_27 : decode b_Mo_done 27 = .ok (.iload_n 2, 1) := by decide +kernel
theorem d_Mo_done_28 : decode b_Mo_done 28 = .ok (.iaload, 1) := by decide +kernel
theorem d_Mo_done_29 : decode b_Mo_done 29 = .ok (.goto 4, 3) := by decide +kernel
theorem d_Mo_done_32 : decode b_Mo_done 32 = .ok (.iconst (-1), 1) := by decide +kernel
theorem d_Mo_done_33 : decode b_Mo_done 33 = .ok (.ireturn, 1) := by decide +kernel
abbrev ru_Mo_done : Room := { frames := 1, cells := 0, slots := 0, locals := 21 }
def wj_Mo_done_33 (y : Ly) (Post : St → Int32 → Prop) (a0 : Nat) (s_j33 : St) (z0j33 : Int32) : Prop := Post s_j33 z0j33
def wj_Mo_done_32 (y : Ly) (Post : St → Int32 → Prop) (a0 : Nat) (s_j32 : St) : Prop := wj_Mo_done_33 y Post a0 s_j32 (-1)
def wu_Mo_done (y : Ly) (Post : St → Int32 → Prop) (σ : St) (a0 : Nat) (v1 : Int32) (v2 : Int32) : Prop := wu_Mo_isWorld y (fun (s_2 : St) (r_1 : Int32) => ((r_1 = 0 → wj_Mo_done_32 y Post a0 s_2) ∧ (¬ (r_1 = 0) → ((v2 < 0 → wj_Mo_done_32 y Post a0 s_2) ∧ (¬ (v2 < 0) → ((62 ≤ v2 → wj_Mo_done_32 y Post a0 s_2) ∧ (¬ (62 ≤ v2) → xQ y a0 44 v1 (fun b_3 : Nat => xA y s_2 b_3 71 v2 (fun x_5 : Int32 => wj_Mo_done_33 y Post a0 s_2 x_5))))))))) σ a0 v1
set_option maxHeartbeats 4000000 in
set_option maxRecDepth 100000 in
theorem cu_Mo_done (l : Launch) (D : va_G) (g : Nat → ClassId) (ad : Nat → Nat) (y : Ly) (Post : St → Int32 → Prop) (σ : St) (a0 : Nat) (v1 : Int32) (v2 : Int32) (sz : Nat) (h_a0 : cl a0 = 14) (h : wu_Mo_done y Post σ a0 v1 v2) : Met l y_Mo_done (mw y_Mo_done b_Mo_done 3 (some .int)) ru_Mo_done (PC g D [] [.ref (ad a0), .int v1, .int v2] sz (ws g ad y σ)) (va_Qi (fun (r : Int32) (u : St) => Post u r) (QW D (va_A (ws g ad y σ) sz) (fun u => ws g ad y u)) (va_A (ws g ad y σ) sz)) 0 0 (va_A (ws g ad y σ) sz) := by
  refine ofI (by decide +kernel) (Nat.le_of_ble_eq_true rfl) ?_
  intro p e s m args below meth c A Q ls H locs G hsz hP hD hS hl hret
  subst hsz
  have hl : lv_has ls 3 [(0, .ref (ad a0)), (1, .int v1), (2, .int v2)] := hl
  unfold wu_Mo_done at h
  refine lv_aload_n G.1 G.2.1 d_Mo_done_0 rfl (lv_at hl 0 rfl) ?_
  refine lv_iload_n G.1 G.2.1 d_Mo_done_1 rfl (lv_at hl 1 rfl) ?_
  refine ucVi (As := [.int v1]) (rest := []) G hP hD hS (cu_Mo_isWorld l D g ad y _ σ a0 v1 H.size h_a0 h) w9_Mo_isWorld q3482 ⟨Nat.le_of_ble_eq_true rfl, Nat.le_of_ble_eq_true rfl⟩ rfl rfl h_a0 (q := (RMo, TMo, 131)) rfl rfl hl.1 rfl (Nat.le_of_ble_eq_true rfl) rfl ⟨Nat.le_refl _, Nat.le_refl _⟩ d_Mo_done_2 (fun r_1 s_2 H locs h hP hD hS => ?_)
  have J_33 : ∀ (s_j33 : St) (z0j33 : Int32) (H : Heap) (locs : List Loc), wj_Mo_done_33 y Post a0 s_j33 z0j33 → va_P D CL (ws g ad y s_j33) H → va_D A (ws g ad y s_j33) → va_S A s.heap H locs → ∀ ls, lv_has ls 3 [] → W p l e ru_Mo_done s m args below meth c H locs 0 0 Q (F0 m 33 ls [.int z0j33]) := by
    intro s_j33 z0j33 H locs h hP hD hS ls hl
    unfold wj_Mo_done_33 at h
    exact hret _ _ _ _ _ _ _ ls h hP hD hS (Nat.le_refl _) (Nat.le_refl _) d_Mo_done_33
  have J_32 : ∀ (s_j32 : St) (H : Heap) (locs : List Loc), wj_Mo_done_32 y Post a0 s_j32 → va_P D CL (ws g ad y s_j32) H → va_D A (ws g ad y s_j32) → va_S A s.heap H locs → ∀ ls, lv_has ls 3 [] → W p l e ru_Mo_done s m args below meth c H locs 0 0 Q (F0 m 32 ls []) := by
    intro s_j32 H locs h hP hD hS ls hl
    unfold wj_Mo_done_32 at h
    refine lv_iconst (v := (-1)) G.1 G.2.1 d_Mo_done_32 (by decide) ?_
    exact J_33 s_j32 (-1) H locs h hP hD hS ls (lv_sub hl [] rfl)
  refine lv_if_eq (tgt := 32) G.1 G.2.1 d_Mo_done_5 (by decide) (fun c5 => ?_) (fun c5 => ?_)
  · skip
    have h := h.1 c5
    exact J_32 s_2 H locs h hP hD hS ls (lv_sub hl [] rfl)
  · skip
    have h := h.2 c5
    refine lv_iload_n G.1 G.2.1 d_Mo_done_8 rfl (lv_at hl 2 rfl) ?_
    refine lv_if_lt (tgt := 32) G.1 G.2.1 d_Mo_done_9 (by decide) (fun c9 => ?_) (fun c9 => ?_)
    · skip
      have h := h.1 c9
      exact J_32 s_2 H locs h hP hD hS ls (lv_sub hl [] rfl)
    · skip
      have h := h.2 c9
      refine lv_iload_n G.1 G.2.1 d_Mo_done_12 rfl (lv_at hl 2 rfl) ?_
      refine lv_bipush (v := 62) G.1 G.2.1 d_Mo_done_13 (by decide) ?_
      refine lv_icmp_ge (tgt := 32) G.1 G.2.1 d_Mo_done_15 (by decide) (fun c15 => ?_) (fun c15 => ?_)
      · skip
        have h := h.1 c15
        exact J_32 s_2 H locs h hP hD hS ls (lv_sub hl [] rfl)
      · skip
        have h := h.2 c15
        refine lv_aload_n G.1 G.2.1 d_Mo_done_18 rfl (lv_at hl 0 rfl) ?_
        refine ugf (v := .ref (yP y a0 44)) G hP h_a0 iMo rfl 44 (by decide) rfl q3108 rfl rfl d_Mo_done_19 ?_
        refine W.eq (g2 := F0 m 22 ls [.ref (yP y a0 44)]) rfl ?_
        refine lv_iload_n G.1 G.2.1 d_Mo_done_22 rfl (lv_at hl 1 rfl) ?_
        refine uqald G hP (kdp h_a0 rfl) (typ h_a0 rfl) rfl h d_Mo_done_23 (fun b_3 n_4 h => ?_)
        refine ugfN (v := .ref (yP y b_3 71)) G hP (oa_14 h_a0 n_4) iMw rfl 71 (by decide) rfl q2834 rfl rfl d_Mo_done_24 ?_
        refine lv_iload_n G.1 G.2.1 d_Mo_done_27 rfl (lv_at hl 2 rfl) ?_
        refine uiald G hP (kdp (oa_14 h_a0 n_4) rfl) (typ (oa_14 h_a0 n_4) rfl) h d_Mo_done_28 (fun x_5 h => ?_)
        refine lv_goto (tgt := 33) G.1 G.2.1 d_Mo_done_29 (by decide) ?_
        exact J_33 s_2 x_5 H locs h hP hD hS ls (lv_sub hl [] rfl)
def y_Mo_keepDraft : MethodName := ⟨"ClassWorksModel", "keepDraft", "()I"⟩
abbrev b_Mo_keepDraft : ByteArray := prog_14_method_195_code
theorem q3186 : Cond.fieldLink "ClassWorksModel" 387 "ClassWorksModel" "draft" "[B" ∈ lw_ok := lw_okmem (List.mem_of_getElem? (i := 3186) (by decide +kernel)) rfl
theorem q3180 : Cond.fieldLink "ClassWorksModel" 372 "ClassWorksModel" "stock" "[B" ∈ lw_ok := lw_okmem (List.mem_of_getElem? (i := 3180) (by decide +kernel)) rfl
theorem q3185 : Cond.fieldLink "ClassWorksModel" 1314 "ClassWorksModel" "trials" "I" ∈ lw_ok := lw_okmem (List.mem_of_getElem? (i := 3185) (by decide +kernel)) rfl
theorem q3187 : Cond.fieldLink "ClassWorksModel" 1317 "ClassWorksModel" "drafted" "I" ∈ lw_ok := lw_okmem (List.mem_of_getElem? (i := 3187) (by decide +kernel)) rfl
theorem q3181 : Cond.fieldLink "ClassWorksModel" 375 "ClassWorksModel" "trialSizes" "[I" ∈ lw_ok := lw_okmem (List.mem_of_getElem? (i := 3181) (by decide +kernel)) rfl
theorem q3182 : Cond.fieldLink "ClassWorksModel" 378 "ClassWorksModel" "trialLooked" "[Z" ∈ lw_ok := lw_okmem (List.mem_of_getElem? (i := 3182) (by decide +kernel)) rfl
theorem d_Mo_keepDraft_0 : decode b_Mo_keepDraft 0 = .ok (.aload_n 0, 1) := by decide +kernel
theorem d_Mo_keepDraft_1 : decode b_Mo_keepDraft 1 = .ok (.getfield 387, 3) := by decide +kernel
theorem d_Mo_keepDraft_4 : decode b_Mo_keepDraft 4 = .ok (.iconst 0, 1) := by decide +kernel
theorem d_Mo_keepDraft_5 : decode b_Mo_keepDraft 5 = .ok (.aload_n 0, 1) := by decide +kernel
theorem d_Mo_keepDraft_6 : decode b_Mo_keepDraft 6 = .ok (.getfield 372, 3) := by decide +kernel
theorem d_Mo_keepDraft_9 : decode b_Mo_keepDraft 9 = .ok (.sipush 1204, 3) := by decide +kernel
theorem d_Mo_keepDraft_12 : decode b_Mo_keepDraft 12 = .ok (.aload_n 0, 1) := by decide +kernel
theorem d_Mo_keepDraft_13 : decode b_Mo_keepDraft 13 = .ok (.getfield 1314, 3) := by decide +kernel
theorem d_Mo_keepDraft_16 : decode b_Mo_keepDraft 16 = .ok (.imul, 1) := by decide +kernel
theorem d_Mo_keepDraft_17 : decode b_Mo_keepDraft 17 = .ok (.aload_n 0, 1) := by decide +kernel
theorem d_Mo_keepDraft_18 : decode b_Mo_keepDraft 18 = .ok (.getfield 1317, 3) := by decide +kernel
theorem d_Mo_keepDraft_21 : decode b_Mo_keepDraft 21 = .ok (.invokestatic 11, 3) := by decide +kernel
theorem d_Mo_keepDraft_24 : decode b_Mo_keepDraft 24 = .ok (.aload_n 0, 1) := by decide +kernel
theorem d_Mo_keepDraft_25 : decode b_Mo_keepDraft 25 = .ok (.getfield 375, 3) := by decide +kernel
theorem d_Mo_keepDraft_28 : decode b_Mo_keepDraft 28 = .ok (.aload_n 0, 1) := by decide +kernel
theorem d_Mo_keepDraft_29 : decode b_Mo_keepDraft 29 = .ok (.getfield 1314, 3) := by decide +kernel
theorem d_Mo_keepDraft_32 : decode b_Mo_keepDraft 32 = .ok (.aload_n 0, 1) := by decide +kernel
theorem d_Mo_keepDraft_33 : decode b_Mo_keepDraft 33 = .ok (.getfield 1317, 3) := by decide +kernel
theorem d_Mo_keepDraft_36 : decode b_Mo_keepDraft 36 = .ok (.iastore, 1) := by decide +kernel
theorem d_Mo_keepDraft_37 : decode b_Mo_keepDraft 37 = .ok (.aload_n 0, 1) := by decide +kernel
theorem d_Mo_keepDraft_38 : decode b_Mo_keepDraft 38 = .ok (.getfield 378, 3) := by decide +kernel
theorem d_Mo_keepDraft_41 : decode b_Mo_keepDraft 41 = .ok (.aload_n 0, 1) := by decide +kernel
theorem d_Mo_keepDraft_42 : decode b_Mo_keepDraft 42 = .ok (.getfield 1314, 3) := by decide +kernel
theorem d_Mo_keepDraft_45 : decode b_Mo_keepDraft 45 = .ok (.iconst 0, 1) := by decide +kernel
theorem d_Mo_keepDraft_46 : decode b_Mo_keepDraft 46 = .ok (.bastore, 1) := by decide +kernel
theorem d_Mo_keepDraft_47 : decode b_Mo_keepDraft 47 = .ok (.aload_n 0, 1) := by decide +kernel
theorem d_Mo_keepDraft_48 : decode b_Mo_keepDraft 48 = .ok (.dup, 1) := by decide +kernel
theorem d_Mo_keepDraft_49 : decode b_Mo_keepDraft 49 = .ok (.getfield 1314, 3) := by decide +kernel
theorem d_Mo_keepDraft_52 : decode b_Mo_keepDraft 52 = .ok (.iconst 1, 1) := by decide +kernel
theorem d_Mo_keepDraft_53 : decode b_Mo_keepDraft 53 = .ok (.iadd, 1) := by decide +kernel
theorem d_Mo_keepDraft_54 : decode b_Mo_keepDraft 54 = .ok (.putfield 1314, 3) := by decide +kernel
theorem d_Mo_keepDraft_57 : decode b_Mo_keepDraft 57 = .ok (.aload_n 0, 1) := by decide +kernel
theorem d_Mo_keepDraft_58 : decode b_Mo_keepDraft 58 = .ok (.getfield 1314, 3) := by decide +kernel
theorem d_Mo_keepDraft_61 : decode b_Mo_keepDraft 61 = .ok (.iconst 1, 1) := by decide +kernel
theorem d_Mo_keepDraft_62 : decode b_Mo_keepDraft 62 = .ok (.isub, 1) := by decide +kernel
theorem d_Mo_keepDraft_63 : decode b_Mo_keepDraft 63 = .ok (.ireturn, 1) := by decide +kernel
abbrev ru_Mo_keepDraft : Room := { frames := 1, cells := 0, slots := 0, locals := 120 }
def wu_Mo_keepDraft (y : Ly) (Post : St → Int32 → Prop) (σ : St) (a0 : Nat) : Prop := xC y σ a0 122 a0 116 .byte 0 (1204 * (sV σ a0 121)) (sV σ a0 123) (fun s_1 : St => xS y s_1 a0 117 (sV s_1 a0 121) (sV s_1 a0 123) (fun s_2 : St => xS y s_2 a0 118 (sV s_2 a0 121) (vp_nar .boolean 0) (fun s_3 : St => xP (uV s_3 a0 121 ((sV s_3 a0 121) + 1)) (fun s_4 : St => Post s_4 ((sV s_4 a0 121) - 1)))))
set_option maxHeartbeats 4000000 in
set_option maxRecDepth 100000 in
theorem cu_Mo_keepDraft (l : Launch) (D : va_G) (g : Nat → ClassId) (ad : Nat → Nat) (y : Ly) (Post : St → Int32 → Prop) (σ : St) (a0 : Nat) (sz : Nat) (h_a0 : cl a0 = 14) (h : wu_Mo_keepDraft y Post σ a0) : Met l y_Mo_keepDraft (mw y_Mo_keepDraft b_Mo_keepDraft 1 (some .int)) ru_Mo_keepDraft (PC g D [] [.ref (ad a0)] sz (ws g ad y σ)) (va_Qi (fun (r : Int32) (u : St) => Post u r) (QW D (va_A (ws g ad y σ) sz) (fun u => ws g ad y u)) (va_A (ws g ad y σ) sz)) 0 0 (va_A (ws g ad y σ) sz) := by
  refine ofI (by decide +kernel) (Nat.le_of_ble_eq_true rfl) ?_
  intro p e s m args below meth c A Q ls H locs G hsz hP hD hS hl hret
  subst hsz
  have hl : lv_has ls 1 [(0, .ref (ad a0))] := hl
  unfold wu_Mo_keepDraft at h
  refine lv_aload_n G.1 G.2.1 d_Mo_keepDraft_0 rfl (lv_at hl 0 rfl) ?_
  refine ugf (v := .ref (yP y a0 122)) G hP h_a0 iMo rfl 122 (by decide) rfl q3186 rfl rfl d_Mo_keepDraft_1 ?_
  refine lv_iconst (v := 0) G.1 G.2.1 d_Mo_keepDraft_4 (by decide) ?_
  refine lv_aload_n G.1 G.2.1 d_Mo_keepDraft_5 rfl (lv_at hl 0 rfl) ?_
  refine ugf (v := .ref (yP y a0 116)) G hP h_a0 iMo rfl 116 (by decide) rfl q3180 rfl rfl d_Mo_keepDraft_6 ?_
  refine lv_sipush (v := 1204) G.1 G.2.1 d_Mo_keepDraft_9 (by decide) ?_
  refine lv_aload_n G.1 G.2.1 d_Mo_keepDraft_12 rfl (lv_at hl 0 rfl) ?_
  refine ugf (v := .int (sV σ a0 121)) G hP h_a0 iMo rfl 121 (by decide) rfl q3185 rfl rfl d_Mo_keepDraft_13 ?_
  refine lv_imul G.1 G.2.1 d_Mo_keepDraft_16 ?_
  refine lv_aload_n G.1 G.2.1 d_Mo_keepDraft_17 rfl (lv_at hl 0 rfl) ?_
  refine ugf (v := .int (sV σ a0 123)) G hP h_a0 iMo rfl 123 (by decide) rfl q3187 rfl rfl d_Mo_keepDraft_18 ?_
  refine W.eq (g2 := F0 m 21 ls [.int (sV σ a0 123), .int (1204 * (sV σ a0 121)), .ref (yP y a0 116), .int 0, .ref (yP y a0 122)]) rfl ?_
  refine ucpy G hP hD hS (kdp h_a0 rfl) (typ h_a0 rfl) (kdp h_a0 rfl) (typ h_a0 rfl) rfl rfl h hl.1 q2595 q488 q487 q338 (Nat.le_of_ble_eq_true rfl) (Nat.le_of_ble_eq_true rfl) d_Mo_keepDraft_21 (fun s_1 H locs h hP hD hS => ?_)
  refine lv_aload_n G.1 G.2.1 d_Mo_keepDraft_24 rfl (lv_at hl 0 rfl) ?_
  refine ugf (v := .ref (yP y a0 117)) G hP h_a0 iMo rfl 117 (by decide) rfl q3181 rfl rfl d_Mo_keepDraft_25 ?_
  refine lv_aload_n G.1 G.2.1 d_Mo_keepDraft_28 rfl (lv_at hl 0 rfl) ?_
  refine ugf (v := .int (sV s_1 a0 121)) G hP h_a0 iMo rfl 121 (by decide) rfl q3185 rfl rfl d_Mo_keepDraft_29 ?_
  refine lv_aload_n G.1 G.2.1 d_Mo_keepDraft_32 rfl (lv_at hl 0 rfl) ?_
  refine ugf (v := .int (sV s_1 a0 123)) G hP h_a0 iMo rfl 123 (by decide) rfl q3187 rfl rfl d_Mo_keepDraft_33 ?_
  refine uiast G hP hD hS (kdp h_a0 rfl) (typ h_a0 rfl) h d_Mo_keepDraft_36 (fun s_2 H locs h hP hD hS => ?_)
  refine lv_aload_n G.1 G.2.1 d_Mo_keepDraft_37 rfl (lv_at hl 0 rfl) ?_
  refine ugf (v := .ref (yP y a0 118)) G hP h_a0 iMo rfl 118 (by decide) rfl q3182 rfl rfl d_Mo_keepDraft_38 ?_
  refine lv_aload_n G.1 G.2.1 d_Mo_keepDraft_41 rfl (lv_at hl 0 rfl) ?_
  refine ugf (v := .int (sV s_2 a0 121)) G hP h_a0 iMo rfl 121 (by decide) rfl q3185 rfl rfl d_Mo_keepDraft_42 ?_
  refine W.eq (g2 := F0 m 45 ls [.int (sV s_2 a0 121), .ref (yP y a0 118)]) rfl ?_
  refine lv_iconst (v := 0) G.1 G.2.1 d_Mo_keepDraft_45 (by decide) ?_
  refine uzast G hP hD hS (kdp h_a0 rfl) (typ h_a0 rfl) h d_Mo_keepDraft_46 (fun s_3 H locs h hP hD hS => ?_)
  refine lv_aload_n G.1 G.2.1 d_Mo_keepDraft_47 rfl (lv_at hl 0 rfl) ?_
  refine lv_dup G.1 G.2.1 d_Mo_keepDraft_48 rfl ?_
  refine ugf (v := .int (sV s_3 a0 121)) G hP h_a0 iMo rfl 121 (by decide) rfl q3185 rfl rfl d_Mo_keepDraft_49 ?_
  refine lv_iconst (v := 1) G.1 G.2.1 d_Mo_keepDraft_52 (by decide) ?_
  refine lv_iadd G.1 G.2.1 d_Mo_keepDraft_53 ?_
  refine upf G hP hD hS h 121 putV h_a0 iMo tMo tMo_ok nMo rfl (by decide) rfl q3185 rfl rfl fV rfl rfl d_Mo_keepDraft_54 (fun s_4 H locs h hP hD hS => ?_)
  refine lv_aload_n G.1 G.2.1 d_Mo_keepDraft_57 rfl (lv_at hl 0 rfl) ?_
  refine ugf (v := .int (sV s_4 a0 121)) G hP h_a0 iMo rfl 121 (by decide) rfl q3185 rfl rfl d_Mo_keepDraft_58 ?_
  refine lv_iconst (v := 1) G.1 G.2.1 d_Mo_keepDraft_61 (by decide) ?_
  refine lv_isub G.1 G.2.1 d_Mo_keepDraft_62 ?_
  refine W.eq (g2 := F0 m 63 ls [.int ((sV s_4 a0 121) - 1)]) rfl ?_
  exact hret _ _ _ _ _ _ _ ls h hP hD hS (Nat.le_refl _) (Nat.le_refl _) d_Mo_keepDraft_63
def y_Mo_isTrial : MethodName := ⟨"ClassWorksModel", "isTrial", "(I)Z"⟩
abbrev b_Mo_isTrial : ByteArray := prog_14_method_198_code
theorem d_Mo_isTrial_0 : decode b_Mo_isTrial 0 = .ok (.iload_n 1, 1) := by decide +kernel
theorem d_Mo_isTrial_1 : decode b_Mo_isTrial 1 = .ok (.ifCond .lt 15, 3) := by decide +kernel
theorem d_Mo_isTrial_4 : decode b_Mo_isTrial 4 = .ok (.iload_n 1, 1) := by decide +kernel
theorem d_Mo_isTrial_5 : decode b_Mo_isTrial 5 = .ok (.aload_n 0, 1) := by decide +kernel
theorem d_Mo_isTrial_6 : decode b_Mo_isTrial 6 = .ok (.getfield 1314, 3) := by decide +kernel
theorem d_Mo_isTrial_9 : decode b_Mo_isTrial 9 = .ok (.if_icmp .ge 7, 3) := by decide +kernel
theorem d_Mo_isTrial_12 : decode b_Mo_isTrial 12 = .ok (.iconst 1, 1) := by decide +kernel
theorem d_Mo_isTrial_13 : decode b_Mo_isTrial 13 = .ok (.goto 4, 3) := by decide +kernel
theorem d_Mo_isTrial_16 : decode b_Mo_isTrial 16 = .ok (.iconst 0, 1) := by decide +kernel
theorem d_Mo_isTrial_17 : decode b_Mo_isTrial 17 = .ok (.ireturn, 1) := by decide +kernel
abbrev ru_Mo_isTrial : Room := { frames := 0, cells := 0, slots := 0, locals := 0 }
def wj_Mo_isTrial_17 (y : Ly) (Post : St → Int32 → Prop) (a0 : Nat) (s_j17 : St) (z0j17 : Int32) : Prop := (nb z0j17 ∧ Post s_j17 z0j17)
def wj_Mo_isTrial_16 (y : Ly) (Post : St → Int32 → Prop) (a0 : Nat) (s_j16 : St) : Prop := wj_Mo_isTrial_17 y Post a0 s_j16 0
def wu_Mo_isTrial (y : Ly) (Post : St → Int32 → Prop) (σ : St) (a0 : Nat) (v1 : Int32) : Prop := ((v1 < 0 → wj_Mo_isTrial_16 y Post a0 σ) ∧ (¬ (v1 < 0) → (((sV σ a0 121) ≤ v1 → wj_Mo_isTrial_16 y Post a0 σ) ∧ (¬ ((sV σ a0 121) ≤ v1) → wj_Mo_isTrial_17 y Post a0 σ 1))))
set_option maxHeartbeats 4000000 in
set_option maxRecDepth 100000 in
theorem cu_Mo_isTrial (l : Launch) (D : va_G) (g : Nat → ClassId) (ad : Nat → Nat) (y : Ly) (Post : St → Int32 → Prop) (σ : St) (a0 : Nat) (v1 : Int32) (sz : Nat) (h_a0 : cl a0 = 14) (h : wu_Mo_isTrial y Post σ a0 v1) : Met l y_Mo_isTrial (mw y_Mo_isTrial b_Mo_isTrial 2 (some (.boolean))) ru_Mo_isTrial (PC g D [] [.ref (ad a0), .int v1] sz (ws g ad y σ)) (va_Qi (fun (r : Int32) (u : St) => Post u r) (QW D (va_A (ws g ad y σ) sz) (fun u => ws g ad y u)) (va_A (ws g ad y σ) sz)) 0 0 (va_A (ws g ad y σ) sz) := by
  refine ofZ (by decide +kernel) (Nat.le_of_ble_eq_true rfl) ?_
  intro p e s m args below meth c A Q ls H locs G hsz hP hD hS hl hret
  subst hsz
  have hl : lv_has ls 2 [(0, .ref (ad a0)), (1, .int v1)] := hl
  unfold wu_Mo_isTrial at h
  refine lv_iload_n G.1 G.2.1 d_Mo_isTrial_0 rfl (lv_at hl 1 rfl) ?_
  have J_17 : ∀ (s_j17 : St) (z0j17 : Int32) (H : Heap) (locs : List Loc), wj_Mo_isTrial_17 y Post a0 s_j17 z0j17 → va_P D CL (ws g ad y s_j17) H → va_D A (ws g ad y s_j17) → va_S A s.heap H locs → ∀ ls, lv_has ls 2 [] → W p l e ru_Mo_isTrial s m args below meth c H locs 0 0 Q (F0 m 17 ls [.int z0j17]) := by
    intro s_j17 z0j17 H locs h hP hD hS ls hl
    unfold wj_Mo_isTrial_17 at h
    exact hret _ _ _ _ _ _ _ ls (nb_n h.1) h.2 hP hD hS (Nat.le_refl _) (Nat.le_refl _) d_Mo_isTrial_17
  have J_16 : ∀ (s_j16 : St) (H : Heap) (locs : List Loc), wj_Mo_isTrial_16 y Post a0 s_j16 → va_P D CL (ws g ad y s_j16) H → va_D A (ws g ad y s_j16) → va_S A s.heap H locs → ∀ ls, lv_has ls 2 [] → W p l e ru_Mo_isTrial s m args below meth c H locs 0 0 Q (F0 m 16 ls []) := by
    intro s_j16 H locs h hP hD hS ls hl
    unfold wj_Mo_isTrial_16 at h
    refine lv_iconst (v := 0) G.1 G.2.1 d_Mo_isTrial_16 (by decide) ?_
    exact J_17 s_j16 0 H locs h hP hD hS ls (lv_sub hl [] rfl)
  refine lv_if_lt (tgt := 16) G.1 G.2.1 d_Mo_isTrial_1 (by decide) (fun c1 => ?_) (fun c1 => ?_)
  · skip
    have h := h.1 c1
    exact J_16 σ H locs h hP hD hS ls (lv_sub hl [] rfl)
  · skip
    have h := h.2 c1
    refine lv_iload_n G.1 G.2.1 d_Mo_isTrial_4 rfl (lv_at hl 1 rfl) ?_
    refine lv_aload_n G.1 G.2.1 d_Mo_isTrial_5 rfl (lv_at hl 0 rfl) ?_
    refine ugf (v := .int (sV σ a0 121)) G hP h_a0 iMo rfl 121 (by decide) rfl q3185 rfl rfl d_Mo_isTrial_6 ?_
    refine lv_icmp_ge (tgt := 16) G.1 G.2.1 d_Mo_isTrial_9 (by decide) (fun c9 => ?_) (fun c9 => ?_)
    · skip
      have h := h.1 c9
      exact J_16 σ H locs h hP hD hS ls (lv_sub hl [] rfl)
    · skip
      have h := h.2 c9
      refine lv_iconst (v := 1) G.1 G.2.1 d_Mo_isTrial_12 (by decide) ?_
      refine lv_goto (tgt := 17) G.1 G.2.1 d_Mo_isTrial_13 (by decide) ?_
      exact J_17 σ 1 H locs h hP hD hS ls (lv_sub hl [] rfl)
def y_Mo_draftTrial : MethodName := ⟨"ClassWorksModel", "draftTrial", "(I)V"⟩
abbrev b_Mo_draftTrial : ByteArray := prog_14_method_197_code
theorem d_Mo_draftTrial_0 : decode b_Mo_draftTrial 0 = .ok (.aload_n 0, 1) := by decide +kernel
theorem d_Mo_draftTrial_1 : decode b_Mo_draftTrial 1 = .ok (.aload_n 0, 1) := by decide +kernel
theorem d_Mo_draftTrial_2 : decode b_Mo_draftTrial 2 = .ok (.getfield 375, 3) := by decide +kernel
theorem d_Mo_draftTrial_5 : decode b_Mo_draftTrial 5 = .ok (.iload_n 1, 1) := by decide +kernel
theorem d_Mo_draftTrial_6 : decode b_Mo_draftTrial 6 = .ok (.iaload, 1) := by decide +kernel
theorem d_Mo_draftTrial_7 : decode b_Mo_draftTrial 7 = .ok (.putfield 1317, 3) := by decide +kernel
theorem d_Mo_draftTrial_10 : decode b_Mo_draftTrial 10 = .ok (.aload_n 0, 1) := by decide +kernel
theorem d_Mo_draftTrial_11 : decode b_Mo_draftTrial 11 = .ok (.getfield 372, 3) := by decide +kernel
theorem d_Mo_draftTrial_14 : decode b_Mo_draftTrial 14 = .ok (.sipush 1204, 3) := by decide +kernel
theorem d_Mo_draftTrial_17 : decode b_Mo_draftTrial 17 = .ok (.iload_n 1, 1) := by decide +kernel
theorem d_Mo_draftTrial_18 : decode b_Mo_draftTrial 18 = .ok (.imul, 1) := by decide +kernel
theorem d_Mo_draftTrial_19 : decode b_Mo_draftTrial 19 = .ok (.aload_n 0, 1) := by decide +kernel
theorem d_Mo_draftTrial_20 : decode b_Mo_draftTrial 20 = .ok (.getfield 387, 3) := by decide +kernel
theorem d_Mo_draftTrial_23 : decode b_Mo_draftTrial 23 = .ok (.iconst 0, 1) := by decide +kernel
theorem d_Mo_draftTrial_24 : decode b_Mo_draftTrial 24 = .ok (.aload_n 0, 1) := by decide +kernel
theorem d_Mo_draftTrial_25 : decode b_Mo_draftTrial 25 = .ok (.getfield 1317, 3) := by decide +kernel
theorem d_Mo_draftTrial_28 : decode b_Mo_draftTrial 28 = .ok (.invokestatic 11, 3) := by decide +kernel
theorem d_Mo_draftTrial_31 : decode b_Mo_draftTrial 31 = .ok (.return_, 1) := by decide +kernel
abbrev ru_Mo_draftTrial : Room := { frames := 1, cells := 0, slots := 0, locals := 120 }
def wu_Mo_draftTrial (y : Ly) (Post : St → Prop) (σ : St) (a0 : Nat) (v1 : Int32) : Prop := xA y σ a0 117 v1 (fun x_1 : Int32 => xP (uV σ a0 123 x_1) (fun s_2 : St => xC y s_2 a0 116 a0 122 .byte (1204 * v1) 0 (sV s_2 a0 123) (fun s_3 : St => Post s_3)))
set_option maxHeartbeats 4000000 in
set_option maxRecDepth 100000 in
theorem cu_Mo_draftTrial (l : Launch) (D : va_G) (g : Nat → ClassId) (ad : Nat → Nat) (y : Ly) (Post : St → Prop) (σ : St) (a0 : Nat) (v1 : Int32) (sz : Nat) (h_a0 : cl a0 = 14) (h : wu_Mo_draftTrial y Post σ a0 v1) : Met l y_Mo_draftTrial (mw y_Mo_draftTrial b_Mo_draftTrial 2 (none)) ru_Mo_draftTrial (PC g D [] [.ref (ad a0), .int v1] sz (ws g ad y σ)) (va_Qv (fun u : St => Post u) (QW D (va_A (ws g ad y σ) sz) (fun u => ws g ad y u)) (va_A (ws g ad y σ) sz)) 0 0 (va_A (ws g ad y σ) sz) := by
  refine ofV (by decide +kernel) (Nat.le_of_ble_eq_true rfl) ?_
  intro p e s m args below meth c A Q ls H locs G hsz hP hD hS hl hret
  subst hsz
  have hl : lv_has ls 2 [(0, .ref (ad a0)), (1, .int v1)] := hl
  unfold wu_Mo_draftTrial at h
  refine lv_aload_n G.1 G.2.1 d_Mo_draftTrial_0 rfl (lv_at hl 0 rfl) ?_
  refine lv_aload_n G.1 G.2.1 d_Mo_draftTrial_1 rfl (lv_at hl 0 rfl) ?_
  refine ugf (v := .ref (yP y a0 117)) G hP h_a0 iMo rfl 117 (by decide) rfl q3181 rfl rfl d_Mo_draftTrial_2 ?_
  refine lv_iload_n G.1 G.2.1 d_Mo_draftTrial_5 rfl (lv_at hl 1 rfl) ?_
  refine uiald G hP (kdp h_a0 rfl) (typ h_a0 rfl) h d_Mo_draftTrial_6 (fun x_1 h => ?_)
  refine upf G hP hD hS h 123 putV h_a0 iMo tMo tMo_ok nMo rfl (by decide) rfl q3187 rfl rfl fV rfl rfl d_Mo_draftTrial_7 (fun s_2 H locs h hP hD hS => ?_)
  refine lv_aload_n G.1 G.2.1 d_Mo_draftTrial_10 rfl (lv_at hl 0 rfl) ?_
  refine ugf (v := .ref (yP y a0 116)) G hP h_a0 iMo rfl 116 (by decide) rfl q3180 rfl rfl d_Mo_draftTrial_11 ?_
  refine lv_sipush (v := 1204) G.1 G.2.1 d_Mo_draftTrial_14 (by decide) ?_
  refine lv_iload_n G.1 G.2.1 d_Mo_draftTrial_17 rfl (lv_at hl 1 rfl) ?_
  refine lv_imul G.1 G.2.1 d_Mo_draftTrial_18 ?_
  refine W.eq (g2 := F0 m 19 ls [.int (1204 * v1), .ref (yP y a0 116)]) rfl ?_
  refine lv_aload_n G.1 G.2.1 d_Mo_draftTrial_19 rfl (lv_at hl 0 rfl) ?_
  refine ugf (v := .ref (yP y a0 122)) G hP h_a0 iMo rfl 122 (by decide) rfl q3186 rfl rfl d_Mo_draftTrial_20 ?_
  refine lv_iconst (v := 0) G.1 G.2.1 d_Mo_draftTrial_23 (by decide) ?_
  refine lv_aload_n G.1 G.2.1 d_Mo_draftTrial_24 rfl (lv_at hl 0 rfl) ?_
  refine ugf (v := .int (sV s_2 a0 123)) G hP h_a0 iMo rfl 123 (by decide) rfl q3187 rfl rfl d_Mo_draftTrial_25 ?_
  refine ucpy G hP hD hS (kdp h_a0 rfl) (typ h_a0 rfl) (kdp h_a0 rfl) (typ h_a0 rfl) rfl rfl h hl.1 q2595 q488 q487 q338 (Nat.le_of_ble_eq_true rfl) (Nat.le_of_ble_eq_true rfl) d_Mo_draftTrial_28 (fun s_3 H locs h hP hD hS => ?_)
  exact hret _ _ _ _ _ _ ls h hP hD hS (Nat.le_refl _) (Nat.le_refl _) d_Mo_draftTrial_31
def y_Mo_isRule : MethodName := ⟨"ClassWorksModel", "isRule", "(I)Z"⟩
abbrev b_Mo_isRule : ByteArray := prog_14_method_203_code
theorem d_Mo_isRule_0 : decode b_Mo_isRule 0 = .ok (.iload_n 0, 1) := by decide +kernel
theorem d_Mo_isRule_1 : decode b_Mo_isRule 1 = .ok (.iconst 1, 1) := by decide +kernel
theorem d_Mo_isRule_2 : decode b_Mo_isRule 2 = .ok (.if_icmp .lt 9, 3) := by decide +kernel
theorem d_Mo_isRule_5 : decode b_Mo_isRule 5 = .ok (.iload_n 0, 1) := by decide +kernel
theorem d_Mo_isRule_6 : decode b_Mo_isRule 6 = .ok (.bipush 14, 2) := by decide +kernel
theorem d_Mo_isRule_8 : decode b_Mo_isRule 8 = .ok (.if_icmp .le 39, 3) := by decide +kernel
theorem d_Mo_isRule_11 : decode b_Mo_isRule 11 = .ok (.iload_n 0, 1) := by decide +kernel
theorem d_Mo_isRule_12 : decode b_Mo_isRule 12 = .ok (.bipush 20, 2) := by decide +kernel
theorem d_Mo_isRule_14 : decode b_Mo_isRule 14 = .ok (.if_icmp .lt 9, 3) := by decide +kernel
theorem d_Mo_isRule_17 : decode b_Mo_isRule 17 = .ok (.iload_n 0, 1) := by decide +kernel
theorem d_Mo_isRule_18 : decode b_Mo_isRule 18 = .ok (.bipush 25, 2) := by decide +kernel
theorem d_Mo_isRule_20 : decode b_Mo_isRule 20 = .ok (.if_icmp .le 27, 3) := by decide +kernel
theorem d_Mo_isRule_23 : decode b_Mo_isRule 23 = .ok (.iload_n 0, 1) := by decide +kernel
theorem d_Mo_isRule_24 : decode b_Mo_isRule 24 = .ok (.bipush 30, 2) := by decide +kernel
theorem d_Mo_isRule_26 : decode b_Mo_isRule 26 = .ok (.if_icmp .lt 9, 3) := by decide +kernel
theorem d_Mo_isRule_29 : decode b_Mo_isRule 29 = .ok (.iload_n 0, 1) := by decide +kernel
theorem d_Mo_isRule_30 : decode b_Mo_isRule 30 = .ok (.bipush 43, 2) := by decide +kernel
theorem d_Mo_isRule_32 : decode b_Mo_isRule 32 = .ok (.if_icmp .le 15, 3) := by decide +kernel
theorem d_Mo_isRule_35 : decode b_Mo_isRule 35 = .ok (.iload_n 0, 1) := by decide +kernel
theorem d_Mo_isRule_36 : decode b_Mo_isRule 36 = .ok (.bipush 50, 2) := by decide +kernel
theorem d_Mo_isRule_38 : decode b_Mo_isRule 38 = .ok (.if_icmp .lt 13, 3) := by decide +kernel
theorem d_Mo_isRule_41 : decode b_Mo_isRule 41 = .ok (.iload_n 0, 1) := by decide +kernel
theorem d_Mo_isRule_42 : decode b_Mo_isRule 42 = .ok (.bipush 59, 2) := by decide +kernel
theorem d_Mo_isRule_44 : decode b_Mo_isRule 44 = .ok (.if_icmp .gt 7, 3) := by decide +kernel
theorem d_Mo_isRule_47 : decode b_Mo_isRule 47 = .ok (.iconst 1, 1) := by decide +kernel
theorem d_Mo_isRule_48 : decode b_Mo_isRule 48 = .ok (.goto 4, 3) := by decide +kernel
theorem d_Mo_isRule_51 : decode b_Mo_isRule 51 = .ok (.iconst 0, 1) := by decide +kernel
theorem d_Mo_isRule_52 : decode b_Mo_isRule 52 = .ok (.ireturn, 1) := by decide +kernel
abbrev ru_Mo_isRule : Room := { frames := 0, cells := 0, slots := 0, locals := 0 }
def wj_Mo_isRule_52 (y : Ly) (Post : St → Int32 → Prop) (s_j52 : St) (z0j52 : Int32) : Prop := (nb z0j52 ∧ Post s_j52 z0j52)
def wj_Mo_isRule_47 (y : Ly) (Post : St → Int32 → Prop) (s_j47 : St) : Prop := wj_Mo_isRule_52 y Post s_j47 1
def wj_Mo_isRule_51 (y : Ly) (Post : St → Int32 → Prop) (s_j51 : St) : Prop := wj_Mo_isRule_52 y Post s_j51 0
def wj_Mo_isRule_35 (y : Ly) (Post : St → Int32 → Prop) (s_j35 : St) (x0j35 : Int32) : Prop := ((x0j35 < 50 → wj_Mo_isRule_51 y Post s_j35) ∧ (¬ (x0j35 < 50) → ((59 < x0j35 → wj_Mo_isRule_51 y Post s_j35) ∧ (¬ (59 < x0j35) → wj_Mo_isRule_47 y Post s_j35))))
def wj_Mo_isRule_23 (y : Ly) (Post : St → Int32 → Prop) (s_j23 : St) (x0j23 : Int32) : Prop := ((x0j23 < 30 → wj_Mo_isRule_35 y Post s_j23 x0j23) ∧ (¬ (x0j23 < 30) → ((x0j23 ≤ 43 → wj_Mo_isRule_47 y Post s_j23) ∧ (¬ (x0j23 ≤ 43) → wj_Mo_isRule_35 y Post s_j23 x0j23))))
def wj_Mo_isRule_11 (y : Ly) (Post : St → Int32 → Prop) (s_j11 : St) (x0j11 : Int32) : Prop := ((x0j11 < 20 → wj_Mo_isRule_23 y Post s_j11 x0j11) ∧ (¬ (x0j11 < 20) → ((x0j11 ≤ 25 → wj_Mo_isRule_47 y Post s_j11) ∧ (¬ (x0j11 ≤ 25) → wj_Mo_isRule_23 y Post s_j11 x0j11))))
def wu_Mo_isRule (y : Ly) (Post : St → Int32 → Prop) (σ : St) (v0 : Int32) : Prop := ((v0 < 1 → wj_Mo_isRule_11 y Post σ v0) ∧ (¬ (v0 < 1) → ((v0 ≤ 14 → wj_Mo_isRule_47 y Post σ) ∧ (¬ (v0 ≤ 14) → wj_Mo_isRule_11 y Post σ v0))))
set_option maxHeartbeats 4000000 in
set_option maxRecDepth 100000 in
theorem cu_Mo_isRule (l : Launch) (D : va_G) (g : Nat → ClassId) (ad : Nat → Nat) (y : Ly) (Post : St → Int32 → Prop) (σ : St) (v0 : Int32) (sz : Nat) (h : wu_Mo_isRule y Post σ v0) : Met l y_Mo_isRule (mw y_Mo_isRule b_Mo_isRule 1 (some (.boolean))) ru_Mo_isRule (PC g D [] [.int v0] sz (ws g ad y σ)) (va_Qi (fun (r : Int32) (u : St) => Post u r) (QW D (va_A (ws g ad y σ) sz) (fun u => ws g ad y u)) (va_A (ws g ad y σ) sz)) 0 0 (va_A (ws g ad y σ) sz) := by
  refine ofZ (by decide +kernel) (Nat.le_of_ble_eq_true rfl) ?_
  intro p e s m args below meth c A Q ls H locs G hsz hP hD hS hl hret
  subst hsz
  have hl : lv_has ls 1 [(0, .int v0)] := hl
  unfold wu_Mo_isRule at h
  refine lv_iload_n G.1 G.2.1 d_Mo_isRule_0 rfl (lv_at hl 0 rfl) ?_
  refine lv_iconst (v := 1) G.1 G.2.1 d_Mo_isRule_1 (by decide) ?_
  have J_52 : ∀ (s_j52 : St) (z0j52 : Int32) (H : Heap) (locs : List Loc), wj_Mo_isRule_52 y Post s_j52 z0j52 → va_P D CL (ws g ad y s_j52) H → va_D A (ws g ad y s_j52) → va_S A s.heap H locs → ∀ ls, lv_has ls 1 [] → W p l e ru_Mo_isRule s m args below meth c H locs 0 0 Q (F0 m 52 ls [.int z0j52]) := by
    intro s_j52 z0j52 H locs h hP hD hS ls hl
    unfold wj_Mo_isRule_52 at h
    exact hret _ _ _ _ _ _ _ ls (nb_n h.1) h.2 hP hD hS (Nat.le_refl _) (Nat.le_refl _) d_Mo_isRule_52
  have J_47 : ∀ (s_j47 : St) (H : Heap) (locs : List Loc), wj_Mo_isRule_47 y Post s_j47 → va_P D CL (ws g ad y s_j47) H → va_D A (ws g ad y s_j47) → va_S A s.heap H locs → ∀ ls, lv_has ls 1 [] → W p l e ru_Mo_isRule s m args below meth c H locs 0 0 Q (F0 m 47 ls []) := by
    intro s_j47 H locs h hP hD hS ls hl
    unfold wj_Mo_isRule_47 at h
    refine lv_iconst (v := 1) G.1 G.2.1 d_Mo_isRule_47 (by decide) ?_
    refine lv_goto (tgt := 52) G.1 G.2.1 d_Mo_isRule_48 (by decide) ?_
    exact J_52 s_j47 1 H locs h hP hD hS ls (lv_sub hl [] rfl)
  have J_11 : ∀ (s_j11 : St) (x0j11 : Int32) (H : Heap) (locs : List Loc), wj_Mo_isRule_11 y Post s_j11 x0j11 → va_P D CL (ws g ad y s_j11) H → va_D A (ws g ad y s_j11) → va_S A s.heap H locs → ∀ ls, lv_has ls 1 [(0, .int x0j11)] → W p l e ru_Mo_isRule s m args below meth c H locs 0 0 Q (F0 m 11 ls []) := by
    intro s_j11 x0j11 H locs h hP hD hS ls hl
    unfold wj_Mo_isRule_11 at h
    refine lv_iload_n G.1 G.2.1 d_Mo_isRule_11 rfl (lv_at hl 0 rfl) ?_
    refine lv_bipush (v := 20) G.1 G.2.1 d_Mo_isRule_12 (by decide) ?_
    have J_23 : ∀ (s_j23 : St) (x0j23 : Int32) (H : Heap) (locs : List Loc), wj_Mo_isRule_23 y Post s_j23 x0j23 → va_P D CL (ws g ad y s_j23) H → va_D A (ws g ad y s_j23) → va_S A s.heap H locs → ∀ ls, lv_has ls 1 [(0, .int x0j23)] → W p l e ru_Mo_isRule s m args below meth c H locs 0 0 Q (F0 m 23 ls []) := by
      intro s_j23 x0j23 H locs h hP hD hS ls hl
      unfold wj_Mo_isRule_23 at h
      refine lv_iload_n G.1 G.2.1 d_Mo_isRule_23 rfl (lv_at hl 0 rfl) ?_
      refine lv_bipush (v := 30) G.1 G.2.1 d_Mo_isRule_24 (by decide) ?_
      have J_35 : ∀ (s_j35 : St) (x0j35 : Int32) (H : Heap) (locs : List Loc), wj_Mo_isRule_35 y Post s_j35 x0j35 → va_P D CL (ws g ad y s_j35) H → va_D A (ws g ad y s_j35) → va_S A s.heap H locs → ∀ ls, lv_has ls 1 [(0, .int x0j35)] → W p l e ru_Mo_isRule s m args below meth c H locs 0 0 Q (F0 m 35 ls []) := by
        intro s_j35 x0j35 H locs h hP hD hS ls hl
        unfold wj_Mo_isRule_35 at h
        refine lv_iload_n G.1 G.2.1 d_Mo_isRule_35 rfl (lv_at hl 0 rfl) ?_
        refine lv_bipush (v := 50) G.1 G.2.1 d_Mo_isRule_36 (by decide) ?_
        have J_51 : ∀ (s_j51 : St) (H : Heap) (locs : List Loc), wj_Mo_isRule_51 y Post s_j51 → va_P D CL (ws g ad y s_j51) H → va_D A (ws g ad y s_j51) → va_S A s.heap H locs → ∀ ls, lv_has ls 1 [] → W p l e ru_Mo_isRule s m args below meth c H locs 0 0 Q (F0 m 51 ls []) := by
          intro s_j51 H locs h hP hD hS ls hl
          unfold wj_Mo_isRule_51 at h
          refine lv_iconst (v := 0) G.1 G.2.1 d_Mo_isRule_51 (by decide) ?_
          exact J_52 s_j51 0 H locs h hP hD hS ls (lv_sub hl [] rfl)
        refine lv_icmp_lt (tgt := 51) G.1 G.2.1 d_Mo_isRule_38 (by decide) (fun c38 => ?_) (fun c38 => ?_)
        · skip
          have h := h.1 c38
          exact J_51 s_j35 H locs h hP hD hS ls (lv_sub hl [] rfl)
        · skip
          have h := h.2 c38
          refine lv_iload_n G.1 G.2.1 d_Mo_isRule_41 rfl (lv_at hl 0 rfl) ?_
          refine lv_bipush (v := 59) G.1 G.2.1 d_Mo_isRule_42 (by decide) ?_
          refine lv_icmp_gt (tgt := 51) G.1 G.2.1 d_Mo_isRule_44 (by decide) (fun c44 => ?_) (fun c44 => ?_)
          · skip
            have h := h.1 c44
            exact J_51 s_j35 H locs h hP hD hS ls (lv_sub hl [] rfl)
          · skip
            have h := h.2 c44
            exact J_47 s_j35 H locs h hP hD hS ls (lv_sub hl [] rfl)
      refine lv_icmp_lt (tgt := 35) G.1 G.2.1 d_Mo_isRule_26 (by decide) (fun c26 => ?_) (fun c26 => ?_)
      · skip
        have h := h.1 c26
        exact J_35 s_j23 x0j23 H locs h hP hD hS ls (lv_sub hl [0] rfl)
      · skip
        have h := h.2 c26
        refine lv_iload_n G.1 G.2.1 d_Mo_isRule_29 rfl (lv_at hl 0 rfl) ?_
        refine lv_bipush (v := 43) G.1 G.2.1 d_Mo_isRule_30 (by decide) ?_
        refine lv_icmp_le (tgt := 47) G.1 G.2.1 d_Mo_isRule_32 (by decide) (fun c32 => ?_) (fun c32 => ?_)
        · skip
          have h := h.1 c32
          exact J_47 s_j23 H locs h hP hD hS ls (lv_sub hl [] rfl)
        · skip
          have h := h.2 c32
          exact J_35 s_j23 x0j23 H locs h hP hD hS ls (lv_sub hl [0] rfl)
    refine lv_icmp_lt (tgt := 23) G.1 G.2.1 d_Mo_isRule_14 (by decide) (fun c14 => ?_) (fun c14 => ?_)
    · skip
      have h := h.1 c14
      exact J_23 s_j11 x0j11 H locs h hP hD hS ls (lv_sub hl [0] rfl)
    · skip
      have h := h.2 c14
      refine lv_iload_n G.1 G.2.1 d_Mo_isRule_17 rfl (lv_at hl 0 rfl) ?_
      refine lv_bipush (v := 25) G.1 G.2.1 d_Mo_isRule_18 (by decide) ?_
      refine lv_icmp_le (tgt := 47) G.1 G.2.1 d_Mo_isRule_20 (by decide) (fun c20 => ?_) (fun c20 => ?_)
      · skip
        have h := h.1 c20
        exact J_47 s_j11 H locs h hP hD hS ls (lv_sub hl [] rfl)
      · skip
        have h := h.2 c20
        exact J_23 s_j11 x0j11 H locs h hP hD hS ls (lv_sub hl [0] rfl)
  refine lv_icmp_lt (tgt := 11) G.1 G.2.1 d_Mo_isRule_2 (by decide) (fun c2 => ?_) (fun c2 => ?_)
  · skip
    have h := h.1 c2
    exact J_11 σ v0 H locs h hP hD hS ls (lv_sub hl [0] rfl)
  · skip
    have h := h.2 c2
    refine lv_iload_n G.1 G.2.1 d_Mo_isRule_5 rfl (lv_at hl 0 rfl) ?_
    refine lv_bipush (v := 14) G.1 G.2.1 d_Mo_isRule_6 (by decide) ?_
    refine lv_icmp_le (tgt := 47) G.1 G.2.1 d_Mo_isRule_8 (by decide) (fun c8 => ?_) (fun c8 => ?_)
    · skip
      have h := h.1 c8
      exact J_47 σ H locs h hP hD hS ls (lv_sub hl [] rfl)
    · skip
      have h := h.2 c8
      exact J_11 σ v0 H locs h hP hD hS ls (lv_sub hl [0] rfl)
def y_Mo_together : MethodName := ⟨"ClassWorksModel", "together", "(IZ)J"⟩
abbrev b_Mo_together : ByteArray := prog_14_method_205_code
theorem q3183 : Cond.fieldLink "ClassWorksModel" 381 "ClassWorksModel" "trialMet" "[I" ∈ lw_ok := lw_okmem (List.mem_of_getElem? (i := 3183) (by decide +kernel)) rfl
theorem q3184 : Cond.fieldLink "ClassWorksModel" 384 "ClassWorksModel" "trialFound" "[I" ∈ lw_ok := lw_okmem (List.mem_of_getElem? (i := 3184) (by decide +kernel)) rfl
theorem d_Mo_together_0 : decode b_Mo_together 0 = .ok (.lconst 0, 1) := by decide +kernel
theorem d_Mo_together_1 : decode b_Mo_together 1 = .ok (.lstore_n 3, 1) := by decide +kernel
theorem d_Mo_together_2 : decode b_Mo_together 2 = .ok (.iconst 0, 1) := by decide +kernel
theorem d_Mo_together_3 : decode b_Mo_together 3 = .ok (.istore 5, 2) := by decide +kernel
theorem d_Mo_together_5 : decode b_Mo_together 5 = .ok (.iload 5, 2) := by decide +kernel
theorem d_Mo_together_7 : decode b_Mo_together 7 = .ok (.aload_n 0, 1) := by decide +kernel
theorem d_Mo_together_8 : decode b_Mo_together 8 = .ok (.getfield 1314, 3) := by decide +kernel
theorem d_Mo_together_11 : decode b_Mo_together 11 = .ok (.if_icmp .ge 56, 3) := by decide +kernel
theorem d_Mo_together_14 : decode b_Mo_together 14 = .ok (.iload 5, 2) := by decide +kernel
theorem d_Mo_together_16 : decode b_Mo_together 16 = .ok (.iload_n 1, 1) := by decide +kernel
theorem d_Mo_together_17 : decode b_Mo_together 17 = .ok (.if_icmp .eq 44, 3) := by decide +kernel
theorem d_Mo_together_20 : decode b_Mo_together 20 = .ok (.lload_n 3, 1) := by decide +kernel
theorem d_Mo_together_21 : decode b_Mo_together 21 = .ok (.iload_n 2, 1) := by decide +kernel
theorem d_Mo_together_22 : decode b_Mo_together 22 = .ok (.ifCond .eq 14, 3) := by decide +kernel
theorem d_Mo_together_25 : decode b_Mo_together 25 = .ok (.aload_n 0, 1) := by decide +kernel
theorem d_Mo_together_26 : decode b_Mo_together 26 = .ok (.getfield 384, 3) := by decide +kernel
theorem d_Mo_together_29 : decode b_Mo_together 29 = .ok (.iload 5, 2) := by decide +kernel
theorem d_Mo_together_31 : decode b_Mo_together 31 = .ok (.iaload, 1) := by decide +kernel
theorem d_Mo_together_32 : decode b_Mo_together 32 = .ok (.i2l, 1) := by decide +kernel
theorem d_Mo_together_33 : decode b_Mo_together 33 = .ok (.goto 26, 3) := by decide +kernel
theorem d_Mo_together_36 : decode b_Mo_together 36 = .ok (.aload_n 0, 1) := by decide +kernel
theorem d_Mo_together_37 : decode b_Mo_together 37 = .ok (.getfield 381, 3) := by decide +kernel
theorem d_Mo_together_40 : decode b_Mo_together 40 = .ok (.iload 5, 2) := by decide +kernel
theorem d_Mo_together_42 : decode b_Mo_together 42 = .ok (.iaload, 1) := by decide +kernel
theorem d_Mo_together_43 : decode b_Mo_together 43 = .ok (.ifCond .le 15, 3) := by decide +kernel
theorem d_Mo_together_46 : decode b_Mo_together 46 = .ok (.lconst 1, 1) := by decide +kernel
theorem d_Mo_together_47 : decode b_Mo_together 47 = .ok (.aload_n 0, 1) := by decide +kernel
theorem d_Mo_together_48 : decode b_Mo_together 48 = .ok (.getfield 381, 3) := by decide +kernel
theorem d_Mo_together_51 : decode b_Mo_together 51 = .ok (.iload 5, 2) := by decide +kernel
theorem d_Mo_together_53 : decode b_Mo_together 53 = .ok (.iaload, 1) := by decide +kernel
theorem d_Mo_together_54 : decode b_Mo_together 54 = .ok (.lshl, 1) := by decide +kernel
theorem d_Mo_together_55 : decode b_Mo_together 55 = .ok (.goto 4, 3) := by decide +kernel
theorem d_Mo_together_58 : decode b_Mo_together 58 = .ok (.lconst 0, 1) := by decide +kernel
theorem d_Mo_together_59 : decode b_Mo_together 59 = .ok (.lor, 1) := by decide +kernel
theorem d_Mo_together_60 : decode b_Mo_together 60 = .ok (.lstore_n 3, 1) := by decide +kernel
theorem d_Mo_together_61 : decode b_Mo_together 61 = .ok (.iinc 5 1, 3) := by decide +kernel
theorem d_Mo_together_64 : decode b_Mo_together 64 = .ok (.goto (-59), 3) := by decide +kernel
theorem d_Mo_together_67 : decode b_Mo_together 67 = .ok (.lload_n 3, 1) := by decide +kernel
theorem d_Mo_together_68 : decode b_Mo_together 68 = .ok (.lreturn, 1) := by decide +kernel
abbrev ru_Mo_together : Room := { frames := 0, cells := 0, slots := 0, locals := 0 }
def wj_Mo_together_61 (y : Ly) (Post : St → Int64 → Prop) (K_5 : St → Int32 → Int32 → Int64 → Int32 → Prop) (a0 : Nat) (s_j61 : St) (x1j61 : Int32) (x2j61 : Int32) (x3j61 : Int64) (x5j61 : Int32) : Prop := K_5 s_j61 x1j61 x2j61 x3j61 (x5j61 + 1)
def wj_Mo_together_59 (y : Ly) (Post : St → Int64 → Prop) (K_5 : St → Int32 → Int32 → Int64 → Int32 → Prop) (a0 : Nat) (s_j59 : St) (x1j59 : Int32) (x2j59 : Int32) (x5j59 : Int32) (z0j59 : Int64) (z1j59 : Int64) : Prop := wj_Mo_together_61 y Post K_5 a0 s_j59 x1j59 x2j59 (z0j59 ||| z1j59) x5j59
def wb_Mo_together_5 (y : Ly) (Post : St → Int64 → Prop) (K_5 : St → Int32 → Int32 → Int64 → Int32 → Prop) (a0 : Nat) (s_h5 : St) (x1h5 : Int32) (x2h5 : Int32) (x3h5 : Int64) (x5h5 : Int32) : Prop := (((sV s_h5 a0 121) ≤ x5h5 → Post s_h5 x3h5) ∧ (¬ ((sV s_h5 a0 121) ≤ x5h5) → ((x5h5 = x1h5 → wj_Mo_together_61 y Post K_5 a0 s_h5 x1h5 x2h5 x3h5 x5h5) ∧ (¬ (x5h5 = x1h5) → ((x2h5 = 0 → xA y s_h5 a0 119 x5h5 (fun x_1 : Int32 => ((x_1 ≤ 0 → wj_Mo_together_59 y Post K_5 a0 s_h5 x1h5 x2h5 x5h5 x3h5 0) ∧ (¬ (x_1 ≤ 0) → xA y s_h5 a0 119 x5h5 (fun x_2 : Int32 => wj_Mo_together_59 y Post K_5 a0 s_h5 x1h5 x2h5 x5h5 x3h5 (1 <<< (x_2.toInt64 &&& 63))))))) ∧ (¬ (x2h5 = 0) → xA y s_h5 a0 120 x5h5 (fun x_3 : Int32 => wj_Mo_together_59 y Post K_5 a0 s_h5 x1h5 x2h5 x5h5 x3h5 x_3.toInt64)))))))
def wl_Mo_together_5 (y : Ly) (Post : St → Int64 → Prop) (a0 : Nat) (s_h5 : St) (x1h5 : Int32) (x2h5 : Int32) (x3h5 : Int64) (x5h5 : Int32) : Prop := ∃ (I : St → Int32 → Int32 → Int64 → Int32 → Prop) (μ : St → Int32 → Int32 → Int64 → Int32 → Nat), I s_h5 x1h5 x2h5 x3h5 x5h5 ∧ ∀ (u : St) (t0 : Int32) (t1 : Int32) (t2 : Int64) (t3 : Int32), I u t0 t1 t2 t3 → wb_Mo_together_5 y Post (fun z t0q t1q t2q t3q => I z t0q t1q t2q t3q ∧ μ z t0q t1q t2q t3q < μ u t0 t1 t2 t3) a0 u t0 t1 t2 t3
def wu_Mo_together (y : Ly) (Post : St → Int64 → Prop) (σ : St) (a0 : Nat) (v1 : Int32) (v2 : Int32) : Prop := wl_Mo_together_5 y Post a0 σ v1 v2 0 0
set_option maxHeartbeats 4000000 in
set_option maxRecDepth 100000 in
theorem cu_Mo_together (l : Launch) (D : va_G) (g : Nat → ClassId) (ad : Nat → Nat) (y : Ly) (Post : St → Int64 → Prop) (σ : St) (a0 : Nat) (v1 : Int32) (v2 : Int32) (sz : Nat) (h_a0 : cl a0 = 14) (h : wu_Mo_together y Post σ a0 v1 v2) : Met l y_Mo_together (mw y_Mo_together b_Mo_together 6 (some (.long))) ru_Mo_together (PC g D [] [.ref (ad a0), .int v1, .int v2] sz (ws g ad y σ)) (va_Ql (fun (r : Int64) (u : St) => Post u r) (QW D (va_A (ws g ad y σ) sz) (fun u => ws g ad y u)) (va_A (ws g ad y σ) sz)) 0 0 (va_A (ws g ad y σ) sz) := by
  refine ofL (by decide +kernel) (Nat.le_of_ble_eq_true rfl) ?_
  intro p e s m args below meth c A Q ls H locs G hsz hP hD hS hl hret
  subst hsz
  have hl : lv_has ls 6 [(0, .ref (ad a0)), (1, .int v1), (2, .int v2)] := hl
  unfold wu_Mo_together at h
  refine lv_lconst (v := 0) G.1 G.2.1 d_Mo_together_0 (by decide) ?_
  refine lv_lstore_n (lv' := [(3, .long 0), (0, .ref (ad a0)), (1, .int v1), (2, .int v2)]) G.1 G.2.1 d_Mo_together_1 rfl hl (by decide) rfl (fun ls hl => ?_)
  refine lv_iconst (v := 0) G.1 G.2.1 d_Mo_together_2 (by decide) ?_
  refine lv_istore (lv' := [(5, .int 0), (3, .long 0), (0, .ref (ad a0)), (1, .int v1), (2, .int v2)]) G.1 G.2.1 d_Mo_together_3 hl (by decide) rfl (fun ls hl => ?_)
  unfold wl_Mo_together_5 at h
  obtain ⟨I_5, μ_5, hI_5, hB_5⟩ := h
  have L_5 : ∀ (n_5 : Nat) (s_h5 : St) (x1h5 : Int32) (x2h5 : Int32) (x3h5 : Int64) (x5h5 : Int32), μ_5 s_h5 x1h5 x2h5 x3h5 x5h5 < n_5 → I_5 s_h5 x1h5 x2h5 x3h5 x5h5 → ∀ (H : Heap) (locs : List Loc), va_P D CL (ws g ad y s_h5) H → va_D A (ws g ad y s_h5) → va_S A s.heap H locs → ∀ ls, lv_has ls 6 [(0, .ref (ad a0)), (1, .int x1h5), (2, .int x2h5), (3, .long x3h5), (5, .int x5h5)] → W p l e ru_Mo_together s m args below meth c H locs 0 0 Q (F0 m 5 ls []) := by
    intro n_5
    induction n_5 with
    | zero => intro s_h5 x1h5 x2h5 x3h5 x5h5 hμ; exact absurd hμ (Nat.not_lt_zero _)
    | succ n_5 ih_5 =>
      intro s_h5 x1h5 x2h5 x3h5 x5h5 hμ_5 hJ H locs hP hD hS ls hl
      obtain ⟨K_5, hK_5, h⟩ : ∃ K : St → Int32 → Int32 → Int64 → Int32 → Prop, (∀ z (t0 : Int32) (t1 : Int32) (t2 : Int64) (t3 : Int32), K z t0 t1 t2 t3 → I_5 z t0 t1 t2 t3 ∧ μ_5 z t0 t1 t2 t3 < μ_5 s_h5 x1h5 x2h5 x3h5 x5h5) ∧ wb_Mo_together_5 y Post K a0 s_h5 x1h5 x2h5 x3h5 x5h5 := ⟨_, fun _ _ _ _ _ h => h, hB_5 s_h5 x1h5 x2h5 x3h5 x5h5 hJ⟩
      unfold wb_Mo_together_5 at h
      refine lv_iload G.1 G.2.1 d_Mo_together_5 (lv_at hl 4 rfl) ?_
      refine lv_aload_n G.1 G.2.1 d_Mo_together_7 rfl (lv_at hl 0 rfl) ?_
      refine ugf (v := .int (sV s_h5 a0 121)) G hP h_a0 iMo rfl 121 (by decide) rfl q3185 rfl rfl d_Mo_together_8 ?_
      refine lv_icmp_ge (tgt := 67) G.1 G.2.1 d_Mo_together_11 (by decide) (fun c11 => ?_) (fun c11 => ?_)
      · skip
        have h := h.1 c11
        refine lv_lload_n G.1 G.2.1 d_Mo_together_67 rfl (lv_at hl 3 rfl) ?_
        exact hret _ _ _ _ _ _ _ ls h hP hD hS (Nat.le_refl _) (Nat.le_refl _) d_Mo_together_68
      · skip
        have h := h.2 c11
        refine lv_iload G.1 G.2.1 d_Mo_together_14 (lv_at hl 4 rfl) ?_
        refine lv_iload_n G.1 G.2.1 d_Mo_together_16 rfl (lv_at hl 1 rfl) ?_
        have J_61 : ∀ (s_j61 : St) (x1j61 : Int32) (x2j61 : Int32) (x3j61 : Int64) (x5j61 : Int32) (H : Heap) (locs : List Loc), wj_Mo_together_61 y Post K_5 a0 s_j61 x1j61 x2j61 x3j61 x5j61 → va_P D CL (ws g ad y s_j61) H → va_D A (ws g ad y s_j61) → va_S A s.heap H locs → ∀ ls, lv_has ls 6 [(0, .ref (ad a0)), (1, .int x1j61), (2, .int x2j61), (3, .long x3j61), (5, .int x5j61)] → W p l e ru_Mo_together s m args below meth c H locs 0 0 Q (F0 m 61 ls []) := by
          intro s_j61 x1j61 x2j61 x3j61 x5j61 H locs h hP hD hS ls hl
          unfold wj_Mo_together_61 at h
          refine lv_iinc (v := x5j61 + 1) (lv' := [(5, .int (x5j61 + 1)), (0, .ref (ad a0)), (1, .int x1j61), (2, .int x2j61), (3, .long x3j61)]) G.1 G.2.1 d_Mo_together_61 hl (k := 4) rfl rfl (by decide) rfl (fun ls hl => ?_)
          refine lv_goto (tgt := 5) G.1 G.2.1 d_Mo_together_64 (by decide) ?_
          have h := hK_5 s_j61 x1j61 x2j61 x3j61 (x5j61 + 1) h
          exact ih_5 s_j61 x1j61 x2j61 x3j61 (x5j61 + 1) (Nat.lt_of_lt_of_le h.2 (Nat.le_of_lt_succ hμ_5)) h.1 H locs hP hD hS ls (lv_sub hl [1, 2, 3, 4, 0] rfl)
        refine lv_icmp_eq (tgt := 61) G.1 G.2.1 d_Mo_together_17 (by decide) (fun c17 => ?_) (fun c17 => ?_)
        · skip
          have h := h.1 c17
          exact J_61 s_h5 x1h5 x2h5 x3h5 x5h5 H locs h hP hD hS ls (lv_sub hl [0, 1, 2, 3, 4] rfl)
        · skip
          have h := h.2 c17
          refine lv_lload_n G.1 G.2.1 d_Mo_together_20 rfl (lv_at hl 3 rfl) ?_
          refine lv_iload_n G.1 G.2.1 d_Mo_together_21 rfl (lv_at hl 2 rfl) ?_
          have J_59 : ∀ (s_j59 : St) (x1j59 : Int32) (x2j59 : Int32) (x5j59 : Int32) (z0j59 : Int64) (z1j59 : Int64) (H : Heap) (locs : List Loc), wj_Mo_together_59 y Post K_5 a0 s_j59 x1j59 x2j59 x5j59 z0j59 z1j59 → va_P D CL (ws g ad y s_j59) H → va_D A (ws g ad y s_j59) → va_S A s.heap H locs → ∀ ls, lv_has ls 6 [(0, .ref (ad a0)), (1, .int x1j59), (2, .int x2j59), (5, .int x5j59)] → W p l e ru_Mo_together s m args below meth c H locs 0 0 Q (F0 m 59 ls [.long z1j59, .long z0j59]) := by
            intro s_j59 x1j59 x2j59 x5j59 z0j59 z1j59 H locs h hP hD hS ls hl
            unfold wj_Mo_together_59 at h
            refine lv_lor G.1 G.2.1 d_Mo_together_59 ?_
            refine lv_lstore_n (lv' := [(3, .long (z0j59 ||| z1j59)), (0, .ref (ad a0)), (1, .int x1j59), (2, .int x2j59), (5, .int x5j59)]) G.1 G.2.1 d_Mo_together_60 rfl hl (by decide) rfl (fun ls hl => ?_)
            exact J_61 s_j59 x1j59 x2j59 (z0j59 ||| z1j59) x5j59 H locs h hP hD hS ls (lv_sub hl [1, 2, 3, 0, 4] rfl)
          refine lv_if_eq (tgt := 36) G.1 G.2.1 d_Mo_together_22 (by decide) (fun c22 => ?_) (fun c22 => ?_)
          · skip
            have h := h.1 c22
            refine lv_aload_n G.1 G.2.1 d_Mo_together_36 rfl (lv_at hl 0 rfl) ?_
            refine W.eq (g2 := F0 m 37 ls [.ref (ad a0), .long x3h5]) rfl ?_
            refine ugf (v := .ref (yP y a0 119)) G hP h_a0 iMo rfl 119 (by decide) rfl q3183 rfl rfl d_Mo_together_37 ?_
            refine lv_iload G.1 G.2.1 d_Mo_together_40 (lv_at hl 4 rfl) ?_
            refine uiald G hP (kdp h_a0 rfl) (typ h_a0 rfl) h d_Mo_together_42 (fun x_1 h => ?_)
            refine lv_if_le (tgt := 58) G.1 G.2.1 d_Mo_together_43 (by decide) (fun c43 => ?_) (fun c43 => ?_)
            · skip
              have h := h.1 c43
              refine lv_lconst (v := 0) G.1 G.2.1 d_Mo_together_58 (by decide) ?_
              exact J_59 s_h5 x1h5 x2h5 x5h5 x3h5 0 H locs h hP hD hS ls (lv_sub hl [0, 1, 2, 4] rfl)
            · skip
              have h := h.2 c43
              refine lv_lconst (v := 1) G.1 G.2.1 d_Mo_together_46 (by decide) ?_
              refine lv_aload_n G.1 G.2.1 d_Mo_together_47 rfl (lv_at hl 0 rfl) ?_
              refine ugf (v := .ref (yP y a0 119)) G hP h_a0 iMo rfl 119 (by decide) rfl q3183 rfl rfl d_Mo_together_48 ?_
              refine lv_iload G.1 G.2.1 d_Mo_together_51 (lv_at hl 4 rfl) ?_
              refine uiald G hP (kdp h_a0 rfl) (typ h_a0 rfl) h d_Mo_together_53 (fun x_2 h => ?_)
              refine lv_lshl G.1 G.2.1 d_Mo_together_54 rfl ?_
              refine lv_goto (tgt := 59) G.1 G.2.1 d_Mo_together_55 (by decide) ?_
              exact J_59 s_h5 x1h5 x2h5 x5h5 x3h5 (1 <<< (x_2.toInt64 &&& 63)) H locs h hP hD hS ls (lv_sub hl [0, 1, 2, 4] rfl)
          · skip
            have h := h.2 c22
            refine lv_aload_n G.1 G.2.1 d_Mo_together_25 rfl (lv_at hl 0 rfl) ?_
            refine W.eq (g2 := F0 m 26 ls [.ref (ad a0), .long x3h5]) rfl ?_
            refine ugf (v := .ref (yP y a0 120)) G hP h_a0 iMo rfl 120 (by decide) rfl q3184 rfl rfl d_Mo_together_26 ?_
            refine lv_iload G.1 G.2.1 d_Mo_together_29 (lv_at hl 4 rfl) ?_
            refine uiald G hP (kdp h_a0 rfl) (typ h_a0 rfl) h d_Mo_together_31 (fun x_3 h => ?_)
            refine lv_i2l G.1 G.2.1 d_Mo_together_32 rfl ?_
            refine lv_goto (tgt := 59) G.1 G.2.1 d_Mo_together_33 (by decide) ?_
            exact J_59 s_h5 x1h5 x2h5 x5h5 x3h5 x_3.toInt64 H locs h hP hD hS ls (lv_sub hl [0, 1, 2, 4] rfl)
  exact L_5 _ σ v1 v2 0 0 (Nat.lt_succ_self _) hI_5 H locs hP hD hS ls (lv_sub hl [2, 3, 4, 1, 0] rfl)
def y_Mo_addTrial : MethodName := ⟨"ClassWorksModel", "addTrial", "(I)V"⟩
abbrev b_Mo_addTrial : ByteArray := prog_14_method_208_code
theorem q3192 : Cond.fieldLink "ClassWorksModel" 396 "ClassWorksModel" "fewestOne" "[I" ∈ lw_ok := lw_okmem (List.mem_of_getElem? (i := 3192) (by decide +kernel)) rfl
theorem q3193 : Cond.fieldLink "ClassWorksModel" 399 "ClassWorksModel" "fewestNext" "[I" ∈ lw_ok := lw_okmem (List.mem_of_getElem? (i := 3193) (by decide +kernel)) rfl
theorem q3191 : Cond.fieldLink "ClassWorksModel" 393 "ClassWorksModel" "fewestNone" "[I" ∈ lw_ok := lw_okmem (List.mem_of_getElem? (i := 3191) (by decide +kernel)) rfl
theorem q3640 : Cond.methodLink "ClassWorksModel" 710 Lib.Math.min.name ∈ lw_ok := lw_okmem (List.mem_of_getElem? (i := 3640) (by decide +kernel)) rfl
theorem d_Mo_addTrial_0 : decode b_Mo_addTrial 0 = .ok (.aload_n 0, 1) := by decide +kernel
theorem d_Mo_addTrial_1 : decode b_Mo_addTrial 1 = .ok (.getfield 396, 3) := by decide +kernel
theorem d_Mo_addTrial_4 : decode b_Mo_addTrial 4 = .ok (.iconst 0, 1) := by decide +kernel
theorem d_Mo_addTrial_5 : decode b_Mo_addTrial 5 = .ok (.aload_n 0, 1) := by decide +kernel
theorem d_Mo_addTrial_6 : decode b_Mo_addTrial 6 = .ok (.getfield 399, 3) := by decide +kernel
theorem d_Mo_addTrial_9 : decode b_Mo_addTrial 9 = .ok (.iconst 0, 1) := by decide +kernel
theorem d_Mo_addTrial_10 : decode b_Mo_addTrial 10 = .ok (.sipush 256, 3) := by decide +kernel
theorem d_Mo_addTrial_13 : decode b_Mo_addTrial 13 = .ok (.invokestatic 11, 3) := by decide +kernel
theorem d_Mo_addTrial_16 : decode b_Mo_addTrial 16 = .ok (.iconst 0, 1) := by decide +kernel
theorem d_Mo_addTrial_17 : decode b_Mo_addTrial 17 = .ok (.istore_n 2, 1) := by decide +kernel
theorem d_Mo_addTrial_18 : decode b_Mo_addTrial 18 = .ok (.iload_n 2, 1) := by decide +kernel
theorem d_Mo_addTrial_19 : decode b_Mo_addTrial 19 = .ok (.sipush 256, 3) := by decide +kernel
theorem d_Mo_addTrial_22 : decode b_Mo_addTrial 22 = .ok (.if_icmp .ge 45, 3) := by decide +kernel
theorem d_Mo_addTrial_25 : decode b_Mo_addTrial 25 = .ok (.iload_n 2, 1) := by decide +kernel
theorem d_Mo_addTrial_26 : decode b_Mo_addTrial 26 = .ok (.iload_n 1, 1) := by decide +kernel
theorem d_Mo_addTrial_27 : decode b_Mo_addTrial 27 = .ok (.ior, 1) := by decide +kernel
theorem d_Mo_addTrial_28 : decode b_Mo_addTrial 28 = .ok (.istore_n 3, 1) := by decide +kernel
theorem d_Mo_addTrial_29 : decode b_Mo_addTrial 29 = .ok (.aload_n 0, 1) := by decide +kernel
theorem d_Mo_addTrial_30 : decode b_Mo_addTrial 30 = .ok (.getfield 399, 3) := by decide +kernel
theorem d_Mo_addTrial_33 : decode b_Mo_addTrial 33 = .ok (.iload_n 3, 1) := by decide +kernel
theorem d_Mo_addTrial_34 : decode b_Mo_addTrial 34 = .ok (.aload_n 0, 1) := by decide +kernel
theorem d_Mo_addTrial_35 : decode b_Mo_addTrial 35 = .ok (.getfield 399, 3) := by decide +kernel
theorem d_Mo_addTrial_38 : decode b_Mo_addTrial 38 = .ok (.iload_n 3, 1) := by decide +kernel
theorem d_Mo_addTrial_39 : decode b_Mo_addTrial 39 = .ok (.iaload, 1) := by decide +kernel
theorem d_Mo_addTrial_40 : decode b_Mo_addTrial 40 = .ok (.iconst 1, 1) := by decide +kernel
theorem d_Mo_addTrial_41 : decode b_Mo_addTrial 41 = .ok (.aload_n 0, 1) := by decide +kernel
theorem d_Mo_addTrial_42 : decode b_Mo_addTrial 42 = .ok (.getfield 393, 3) := by decide +kernel
theorem d_Mo_addTrial_45 : decode b_Mo_addTrial 45 = .ok (.iload_n 2, 1) := by decide +kernel
theorem d_Mo_addTrial_46 : decode b_Mo_addTrial 46 = .ok (.iaload, 1) := by decide +kernel
theorem d_Mo_addTrial_47 : decode b_Mo_addTrial 47 = .ok (.aload_n 0, 1) := by decide +kernel
theorem d_Mo_addTrial_48 : decode b_Mo_addTrial 48 = .ok (.getfield 396, 3) := by decide +kernel
theorem d_Mo_addTrial_51 : decode b_Mo_addTrial 51 = .ok (.iload_n 2, 1) := by decide +kernel
theorem d_Mo_addTrial_52 : decode b_Mo_addTrial 52 = .ok (.iaload, 1) := by decide +kernel
theorem d_Mo_addTrial_53 : decode b_Mo_addTrial 53 = .ok (.invokestatic 710, 3) := by decide +kernel
theorem d_Mo_addTrial_56 : decode b_Mo_addTrial 56 = .ok (.iadd, 1) := by decide +kernel
theorem d_Mo_addTrial_57 : decode b_Mo_addTrial 57 = .ok (.invokestatic 710, 3) := by decide +kernel
theorem d_Mo_addTrial_60 : decode b_Mo_addTrial 60 = .ok (.iastore, 1) := by decide +kernel
theorem d_Mo_addTrial_61 : decode b_Mo_addTrial 61 = .ok (.iinc 2 1, 3) := by decide +kernel
theorem d_Mo_addTrial_64 : decode b_Mo_addTrial 64 = .ok (.goto (-46), 3) := by decide +kernel
theorem d_Mo_addTrial_67 : decode b_Mo_addTrial 67 = .ok (.aload_n 0, 1) := by decide +kernel
theorem d_Mo_addTrial_68 : decode b_Mo_addTrial 68 = .ok (.getfield 399, 3) := by decide +kernel
theorem d_Mo_addTrial_71 : decode b_Mo_addTrial 71 = .ok (.iconst 0, 1) := by decide +kernel
theorem d_Mo_addTrial_72 : decode b_Mo_addTrial 72 = .ok (.aload_n 0, 1) := by decide +kernel
theorem d_Mo_addTrial_73 : decode b_Mo_addTrial 73 = .ok (.getfield 396, 3) := by decide +kernel
theorem d_Mo_addTrial_76 : decode b_Mo_addTrial 76 = .ok (.iconst 0, 1) := by decide +kernel
theorem d_Mo_addTrial_77 : decode b_Mo_addTrial 77 = .ok (.sipush 256, 3) := by decide +kernel
theorem d_Mo_addTrial_80 : decode b_Mo_addTrial 80 = .ok (.invokestatic 11, 3) := by decide +kernel
theorem d_Mo_addTrial_83 : decode b_Mo_addTrial 83 = .ok (.return_, 1) := by decide +kernel
abbrev ru_Mo_addTrial : Room := { frames := 1, cells := 0, slots := 0, locals := 120 }
def wb_Mo_addTrial_18 (y : Ly) (Post : St → Prop) (K_18 : St → Int32 → Int32 → Prop) (a0 : Nat) (s_h18 : St) (x1h18 : Int32) (x2h18 : Int32) : Prop := ((256 ≤ x2h18 → xC y s_h18 a0 129 a0 128 .int 0 0 256 (fun s_2 : St => Post s_2)) ∧ (¬ (256 ≤ x2h18) → xA y s_h18 a0 129 (x2h18 ||| x1h18) (fun x_3 : Int32 => xA y s_h18 a0 127 x2h18 (fun x_4 : Int32 => xA y s_h18 a0 128 x2h18 (fun x_5 : Int32 => xS y s_h18 a0 129 (x2h18 ||| x1h18) (if (1 + (if x_5 < x_4 then x_5 else x_4)) < x_3 then (1 + (if x_5 < x_4 then x_5 else x_4)) else x_3) (fun s_6 : St => K_18 s_6 x1h18 (x2h18 + 1)))))))
def wl_Mo_addTrial_18 (y : Ly) (Post : St → Prop) (a0 : Nat) (s_h18 : St) (x1h18 : Int32) (x2h18 : Int32) : Prop := ∃ (I : St → Int32 → Int32 → Prop) (μ : St → Int32 → Int32 → Nat), I s_h18 x1h18 x2h18 ∧ ∀ (u : St) (t0 : Int32) (t1 : Int32), I u t0 t1 → wb_Mo_addTrial_18 y Post (fun z t0q t1q => I z t0q t1q ∧ μ z t0q t1q < μ u t0 t1) a0 u t0 t1
def wu_Mo_addTrial (y : Ly) (Post : St → Prop) (σ : St) (a0 : Nat) (v1 : Int32) : Prop := xC y σ a0 128 a0 129 .int 0 0 256 (fun s_1 : St => wl_Mo_addTrial_18 y Post a0 s_1 v1 0)
set_option maxHeartbeats 4000000 in
set_option maxRecDepth 100000 in
theorem cu_Mo_addTrial (l : Launch) (D : va_G) (g : Nat → ClassId) (ad : Nat → Nat) (y : Ly) (Post : St → Prop) (σ : St) (a0 : Nat) (v1 : Int32) (sz : Nat) (h_a0 : cl a0 = 14) (h : wu_Mo_addTrial y Post σ a0 v1) : Met l y_Mo_addTrial (mw y_Mo_addTrial b_Mo_addTrial 4 (none)) ru_Mo_addTrial (PC g D [] [.ref (ad a0), .int v1] sz (ws g ad y σ)) (va_Qv (fun u : St => Post u) (QW D (va_A (ws g ad y σ) sz) (fun u => ws g ad y u)) (va_A (ws g ad y σ) sz)) 0 0 (va_A (ws g ad y σ) sz) := by
  refine ofV (by decide +kernel) (Nat.le_of_ble_eq_true rfl) ?_
  intro p e s m args below meth c A Q ls H locs G hsz hP hD hS hl hret
  subst hsz
  have hl : lv_has ls 4 [(0, .ref (ad a0)), (1, .int v1)] := hl
  unfold wu_Mo_addTrial at h
  refine lv_aload_n G.1 G.2.1 d_Mo_addTrial_0 rfl (lv_at hl 0 rfl) ?_
  refine ugf (v := .ref (yP y a0 128)) G hP h_a0 iMo rfl 128 (by decide) rfl q3192 rfl rfl d_Mo_addTrial_1 ?_
  refine lv_iconst (v := 0) G.1 G.2.1 d_Mo_addTrial_4 (by decide) ?_
  refine lv_aload_n G.1 G.2.1 d_Mo_addTrial_5 rfl (lv_at hl 0 rfl) ?_
  refine ugf (v := .ref (yP y a0 129)) G hP h_a0 iMo rfl 129 (by decide) rfl q3193 rfl rfl d_Mo_addTrial_6 ?_
  refine lv_iconst (v := 0) G.1 G.2.1 d_Mo_addTrial_9 (by decide) ?_
  refine lv_sipush (v := 256) G.1 G.2.1 d_Mo_addTrial_10 (by decide) ?_
  refine ucpy G hP hD hS (kdp h_a0 rfl) (typ h_a0 rfl) (kdp h_a0 rfl) (typ h_a0 rfl) rfl rfl h hl.1 q2595 q488 q487 q338 (Nat.le_of_ble_eq_true rfl) (Nat.le_of_ble_eq_true rfl) d_Mo_addTrial_13 (fun s_1 H locs h hP hD hS => ?_)
  refine lv_iconst (v := 0) G.1 G.2.1 d_Mo_addTrial_16 (by decide) ?_
  refine lv_istore_n (lv' := [(2, .int 0), (0, .ref (ad a0)), (1, .int v1)]) G.1 G.2.1 d_Mo_addTrial_17 rfl hl (by decide) rfl (fun ls hl => ?_)
  unfold wl_Mo_addTrial_18 at h
  obtain ⟨I_18, μ_18, hI_18, hB_18⟩ := h
  have L_18 : ∀ (n_18 : Nat) (s_h18 : St) (x1h18 : Int32) (x2h18 : Int32), μ_18 s_h18 x1h18 x2h18 < n_18 → I_18 s_h18 x1h18 x2h18 → ∀ (H : Heap) (locs : List Loc), va_P D CL (ws g ad y s_h18) H → va_D A (ws g ad y s_h18) → va_S A s.heap H locs → ∀ ls, lv_has ls 4 [(0, .ref (ad a0)), (1, .int x1h18), (2, .int x2h18)] → W p l e ru_Mo_addTrial s m args below meth c H locs 0 0 Q (F0 m 18 ls []) := by
    intro n_18
    induction n_18 with
    | zero => intro s_h18 x1h18 x2h18 hμ; exact absurd hμ (Nat.not_lt_zero _)
    | succ n_18 ih_18 =>
      intro s_h18 x1h18 x2h18 hμ_18 hJ H locs hP hD hS ls hl
      obtain ⟨K_18, hK_18, h⟩ : ∃ K : St → Int32 → Int32 → Prop, (∀ z (t0 : Int32) (t1 : Int32), K z t0 t1 → I_18 z t0 t1 ∧ μ_18 z t0 t1 < μ_18 s_h18 x1h18 x2h18) ∧ wb_Mo_addTrial_18 y Post K a0 s_h18 x1h18 x2h18 := ⟨_, fun _ _ _ h => h, hB_18 s_h18 x1h18 x2h18 hJ⟩
      unfold wb_Mo_addTrial_18 at h
      refine lv_iload_n G.1 G.2.1 d_Mo_addTrial_18 rfl (lv_at hl 2 rfl) ?_
      refine lv_sipush (v := 256) G.1 G.2.1 d_Mo_addTrial_19 (by decide) ?_
      refine lv_icmp_ge (tgt := 67) G.1 G.2.1 d_Mo_addTrial_22 (by decide) (fun c22 => ?_) (fun c22 => ?_)
      · skip
        have h := h.1 c22
        refine lv_aload_n G.1 G.2.1 d_Mo_addTrial_67 rfl (lv_at hl 0 rfl) ?_
        refine ugf (v := .ref (yP y a0 129)) G hP h_a0 iMo rfl 129 (by decide) rfl q3193 rfl rfl d_Mo_addTrial_68 ?_
        refine lv_iconst (v := 0) G.1 G.2.1 d_Mo_addTrial_71 (by decide) ?_
        refine lv_aload_n G.1 G.2.1 d_Mo_addTrial_72 rfl (lv_at hl 0 rfl) ?_
        refine ugf (v := .ref (yP y a0 128)) G hP h_a0 iMo rfl 128 (by decide) rfl q3192 rfl rfl d_Mo_addTrial_73 ?_
        refine lv_iconst (v := 0) G.1 G.2.1 d_Mo_addTrial_76 (by decide) ?_
        refine lv_sipush (v := 256) G.1 G.2.1 d_Mo_addTrial_77 (by decide) ?_
        refine ucpy G hP hD hS (kdp h_a0 rfl) (typ h_a0 rfl) (kdp h_a0 rfl) (typ h_a0 rfl) rfl rfl h hl.1 q2595 q488 q487 q338 (Nat.le_of_ble_eq_true rfl) (Nat.le_of_ble_eq_true rfl) d_Mo_addTrial_80 (fun s_2 H locs h hP hD hS => ?_)
        refine W.eq (g2 := F0 m 83 ls []) rfl ?_
        exact hret _ _ _ _ _ _ ls h hP hD hS (Nat.le_refl _) (Nat.le_refl _) d_Mo_addTrial_83
      · skip
        have h := h.2 c22
        refine lv_iload_n G.1 G.2.1 d_Mo_addTrial_25 rfl (lv_at hl 2 rfl) ?_
        refine lv_iload_n G.1 G.2.1 d_Mo_addTrial_26 rfl (lv_at hl 1 rfl) ?_
        refine lv_ior G.1 G.2.1 d_Mo_addTrial_27 ?_
        refine lv_istore_n (lv' := [(3, .int (x2h18 ||| x1h18)), (0, .ref (ad a0)), (1, .int x1h18), (2, .int x2h18)]) G.1 G.2.1 d_Mo_addTrial_28 rfl hl (by decide) rfl (fun ls hl => ?_)
        refine lv_aload_n G.1 G.2.1 d_Mo_addTrial_29 rfl (lv_at hl 1 rfl) ?_
        refine ugf (v := .ref (yP y a0 129)) G hP h_a0 iMo rfl 129 (by decide) rfl q3193 rfl rfl d_Mo_addTrial_30 ?_
        refine lv_iload_n G.1 G.2.1 d_Mo_addTrial_33 rfl (lv_at hl 0 rfl) ?_
        refine lv_aload_n G.1 G.2.1 d_Mo_addTrial_34 rfl (lv_at hl 1 rfl) ?_
        refine W.eq (g2 := F0 m 35 ls [.ref (ad a0), .int (x2h18 ||| x1h18), .ref (yP y a0 129)]) rfl ?_
        refine ugf (v := .ref (yP y a0 129)) G hP h_a0 iMo rfl 129 (by decide) rfl q3193 rfl rfl d_Mo_addTrial_35 ?_
        refine lv_iload_n G.1 G.2.1 d_Mo_addTrial_38 rfl (lv_at hl 0 rfl) ?_
        refine uiald G hP (kdp h_a0 rfl) (typ h_a0 rfl) h d_Mo_addTrial_39 (fun x_3 h => ?_)
        refine lv_iconst (v := 1) G.1 G.2.1 d_Mo_addTrial_40 (by decide) ?_
        refine lv_aload_n G.1 G.2.1 d_Mo_addTrial_41 rfl (lv_at hl 1 rfl) ?_
        refine ugf (v := .ref (yP y a0 127)) G hP h_a0 iMo rfl 127 (by decide) rfl q3191 rfl rfl d_Mo_addTrial_42 ?_
        refine lv_iload_n G.1 G.2.1 d_Mo_addTrial_45 rfl (lv_at hl 3 rfl) ?_
        refine uiald G hP (kdp h_a0 rfl) (typ h_a0 rfl) h d_Mo_addTrial_46 (fun x_4 h => ?_)
        refine lv_aload_n G.1 G.2.1 d_Mo_addTrial_47 rfl (lv_at hl 1 rfl) ?_
        refine ugf (v := .ref (yP y a0 128)) G hP h_a0 iMo rfl 128 (by decide) rfl q3192 rfl rfl d_Mo_addTrial_48 ?_
        refine lv_iload_n G.1 G.2.1 d_Mo_addTrial_51 rfl (lv_at hl 3 rfl) ?_
        refine uiald G hP (kdp h_a0 rfl) (typ h_a0 rfl) h d_Mo_addTrial_52 (fun x_5 h => ?_)
        refine W.eq (g2 := F0 m 53 ls [.int x_5, .int x_4, .int 1, .int x_3, .int (x2h18 ||| x1h18), .ref (yP y a0 129)]) rfl ?_
        refine va_mmin G.1 G.2.1 (G.2.2.1.trans hl.1.symm) G.2.2.2.2.2.2.1 (G.2.2.2.2.2.1 _ q3640) (G.2.2.2.2.2.1 _ q484) (G.2.2.2.2.2.1 _ q337) (G.2.2.2.2.2.1 _ q485) (Nat.le_of_ble_eq_true rfl) (Nat.le_of_ble_eq_true rfl) (Nat.zero_le _) (Nat.zero_le _) d_Mo_addTrial_53 ?_
        refine lv_iadd G.1 G.2.1 d_Mo_addTrial_56 ?_
        refine va_mmin G.1 G.2.1 (G.2.2.1.trans hl.1.symm) G.2.2.2.2.2.2.1 (G.2.2.2.2.2.1 _ q3640) (G.2.2.2.2.2.1 _ q484) (G.2.2.2.2.2.1 _ q337) (G.2.2.2.2.2.1 _ q485) (Nat.le_of_ble_eq_true rfl) (Nat.le_of_ble_eq_true rfl) (Nat.zero_le _) (Nat.zero_le _) d_Mo_addTrial_57 ?_
        refine uiast G hP hD hS (kdp h_a0 rfl) (typ h_a0 rfl) h d_Mo_addTrial_60 (fun s_6 H locs h hP hD hS => ?_)
        refine lv_iinc (v := x2h18 + 1) (lv' := [(2, .int (x2h18 + 1)), (3, .int (x2h18 ||| x1h18)), (0, .ref (ad a0)), (1, .int x1h18)]) G.1 G.2.1 d_Mo_addTrial_61 hl (k := 3) rfl rfl (by decide) rfl (fun ls hl => ?_)
        refine lv_goto (tgt := 18) G.1 G.2.1 d_Mo_addTrial_64 (by decide) ?_
        have h := hK_18 s_6 x1h18 (x2h18 + 1) h
        exact ih_18 s_6 x1h18 (x2h18 + 1) (Nat.lt_of_lt_of_le h.2 (Nat.le_of_lt_succ hμ_18)) h.1 H locs hP hD hS ls (lv_sub hl [2, 3, 0] rfl)
  exact L_18 _ s_1 v1 0 (Nat.lt_succ_self _) hI_18 H locs hP hD hS ls (lv_sub hl [1, 2, 0] rfl)
def y_Mo_linesOf : MethodName := ⟨"ClassWorksModel", "linesOf", "(I)I"⟩
abbrev b_Mo_linesOf : ByteArray := prog_14_method_209_code
theorem q3194 : Cond.fieldLink "ClassWorksModel" 402 "ClassWorksModel" "lineFroms" "[I" ∈ lw_ok := lw_okmem (List.mem_of_getElem? (i := 3194) (by decide +kernel)) rfl
theorem d_Mo_linesOf_0 : decode b_Mo_linesOf 0 = .ok (.iconst 0, 1) := by decide +kernel
theorem d_Mo_linesOf_1 : decode b_Mo_linesOf 1 = .ok (.istore_n 2, 1) := by decide +kernel
theorem d_Mo_linesOf_2 : decode b_Mo_linesOf 2 = .ok (.aload_n 0, 1) := by decide +kernel
theorem d_Mo_linesOf_3 : decode b_Mo_linesOf 3 = .ok (.getfield 402, 3) := by decide +kernel
theorem d_Mo_linesOf_6 : decode b_Mo_linesOf 6 = .ok (.iconst 0, 1) := by decide +kernel
theorem d_Mo_linesOf_7 : decode b_Mo_linesOf 7 = .ok (.iconst 0, 1) := by decide +kernel
theorem d_Mo_linesOf_8 : decode b_Mo_linesOf 8 = .ok (.iastore, 1) := by decide +kernel
theorem d_Mo_linesOf_9 : decode b_Mo_linesOf 9 = .ok (.iconst 0, 1) := by decide +kernel
theorem d_Mo_linesOf_10 : decode b_Mo_linesOf 10 = .ok (.istore_n 3, 1) := by decide +kernel
theorem d_Mo_linesOf_11 : decode b_Mo_linesOf 11 = .ok (.iload_n 3, 1) := by decide +kernel
theorem d_Mo_linesOf_12 : decode b_Mo_linesOf 12 = .ok (.aload_n 0, 1) := by decide +kernel
theorem d_Mo_linesOf_13 : decode b_Mo_linesOf 13 = .ok (.getfield 375, 3) := by decide +kernel
theorem d_Mo_linesOf_16 : decode b_Mo_linesOf 16 = .ok (.iload_n 1, 1) := by decide +kernel
theorem d_Mo_linesOf_17 : decode b_Mo_linesOf 17 = .ok (.iaload, 1) := by decide +kernel
theorem d_Mo_linesOf_18 : decode b_Mo_linesOf 18 = .ok (.if_icmp .ge 38, 3) := by decide +kernel
theorem d_Mo_linesOf_21 : decode b_Mo_linesOf 21 = .ok (.aload_n 0, 1) := by decide +kernel
theorem d_Mo_linesOf_22 : decode b_Mo_linesOf 22 = .ok (.getfield 372, 3) := by decide +kernel
theorem d_Mo_linesOf_25 : decode b_Mo_linesOf 25 = .ok (.sipush 1204, 3) := by decide +kernel
theorem d_Mo_linesOf_28 : decode b_Mo_linesOf 28 = .ok (.iload_n 1, 1) := by decide +kernel
theorem d_Mo_linesOf_29 : decode b_Mo_linesOf 29 = .ok (.imul, 1) := by decide +kernel
theorem d_Mo_linesOf_30 : decode b_Mo_linesOf 30 = .ok (.iload_n 3, 1) := by decide +kernel
theorem d_Mo_linesOf_31 : decode b_Mo_linesOf 31 = .ok (.iadd, 1) := by decide +kernel
theorem d_Mo_linesOf_32 : decode b_Mo_linesOf 32 = .ok (.baload, 1) := by decide +kernel
theorem d_Mo_linesOf_33 : decode b_Mo_linesOf 33 = .ok (.bipush 10, 2) := by decide +kernel
theorem d_Mo_linesOf_35 : decode b_Mo_linesOf 35 = .ok (.if_icmp .ne 15, 3) := by decide +kernel
theorem d_Mo_linesOf_38 : decode b_Mo_linesOf 38 = .ok (.iinc 2 1, 3) := by decide +kernel
theorem d_Mo_linesOf_41 : decode b_Mo_linesOf 41 = .ok (.aload_n 0, 1) := by decide +kernel
theorem d_Mo_linesOf_42 : decode b_Mo_linesOf 42 = .ok (.getfield 402, 3) := by decide +kernel
theorem d_Mo_linesOf_45 : decode b_Mo_linesOf 45 = .ok (.iload_n 2, 1) := by decide +kernel
theorem d_Mo_linesOf_46 : decode b_Mo_linesOf 46 = .ok (.iload_n 3, 1) := by decide +kernel
theorem d_Mo_linesOf_47 : decode b_Mo_linesOf 47 = .ok (.iconst 1, 1) := by decide +kernel
theorem d_Mo_linesOf_48 : decode b_Mo_linesOf 48 = .ok (.iadd, 1) := by decide +kernel
theorem d_Mo_linesOf_49 : decode b_Mo_linesOf 49 = .ok (.iastore, 1) := by decide +kernel
theorem d_Mo_linesOf_50 : decode b_Mo_linesOf 50 = .ok (.iinc 3 1, 3) := by decide +kernel
theorem d_Mo_linesOf_53 : decode b_Mo_linesOf 53 = .ok (.goto (-42), 3) := by decide +kernel
theorem d_Mo_linesOf_56 : decode b_Mo_linesOf 56 = .ok (.iload_n 2, 1) := by decide +kernel
theorem d_Mo_linesOf_57 : decode b_Mo_linesOf 57 = .ok (.ireturn, 1) := by decide +kernel
abbrev ru_Mo_linesOf : Room := { frames := 0, cells := 0, slots := 0, locals := 0 }
def wj_Mo_linesOf_50 (y : Ly) (Post : St → Int32 → Prop) (K_11 : St → Int32 → Int32 → Int32 → Prop) (a0 : Nat) (s_j50 : St) (x1j50 : Int32) (x2j50 : Int32) (x3j50 : Int32) : Prop := K_11 s_j50 x1j50 x2j50 (x3j50 + 1)
def wb_Mo_linesOf_11 (y : Ly) (Post : St → Int32 → Prop) (K_11 : St → Int32 → Int32 → Int32 → Prop) (a0 : Nat) (s_h11 : St) (x1h11 : Int32) (x2h11 : Int32) (x3h11 : Int32) : Prop := xA y s_h11 a0 117 x1h11 (fun x_2 : Int32 => ((x_2 ≤ x3h11 → Post s_h11 x2h11) ∧ (¬ (x_2 ≤ x3h11) → xA y s_h11 a0 116 ((1204 * x1h11) + x3h11) (fun x_3 : Int32 => ((¬ x_3 = 10 → wj_Mo_linesOf_50 y Post K_11 a0 s_h11 x1h11 x2h11 x3h11) ∧ (x_3 = 10 → xS y s_h11 a0 130 (x2h11 + 1) (x3h11 + 1) (fun s_4 : St => wj_Mo_linesOf_50 y Post K_11 a0 s_4 x1h11 (x2h11 + 1) x3h11)))))))
def wl_Mo_linesOf_11 (y : Ly) (Post : St → Int32 → Prop) (a0 : Nat) (s_h11 : St) (x1h11 : Int32) (x2h11 : Int32) (x3h11 : Int32) : Prop := ∃ (I : St → Int32 → Int32 → Int32 → Prop) (μ : St → Int32 → Int32 → Int32 → Nat), I s_h11 x1h11 x2h11 x3h11 ∧ ∀ (u : St) (t0 : Int32) (t1 : Int32) (t2 : Int32), I u t0 t1 t2 → wb_Mo_linesOf_11 y Post (fun z t0q t1q t2q => I z t0q t1q t2q ∧ μ z t0q t1q t2q < μ u t0 t1 t2) a0 u t0 t1 t2
def wu_Mo_linesOf (y : Ly) (Post : St → Int32 → Prop) (σ : St) (a0 : Nat) (v1 : Int32) : Prop := xS y σ a0 130 0 0 (fun s_1 : St => wl_Mo_linesOf_11 y Post a0 s_1 v1 0 0)
set_option maxHeartbeats 4000000 in
set_option maxRecDepth 100000 in
theorem cu_Mo_linesOf (l : Launch) (D : va_G) (g : Nat → ClassId) (ad : Nat → Nat) (y : Ly) (Post : St → Int32 → Prop) (σ : St) (a0 : Nat) (v1 : Int32) (sz : Nat) (h_a0 : cl a0 = 14) (h : wu_Mo_linesOf y Post σ a0 v1) : Met l y_Mo_linesOf (mw y_Mo_linesOf b_Mo_linesOf 4 (some .int)) ru_Mo_linesOf (PC g D [] [.ref (ad a0), .int v1] sz (ws g ad y σ)) (va_Qi (fun (r : Int32) (u : St) => Post u r) (QW D (va_A (ws g ad y σ) sz) (fun u => ws g ad y u)) (va_A (ws g ad y σ) sz)) 0 0 (va_A (ws g ad y σ) sz) := by
  refine ofI (by decide +kernel) (Nat.le_of_ble_eq_true rfl) ?_
  intro p e s m args below meth c A Q ls H locs G hsz hP hD hS hl hret
  subst hsz
  have hl : lv_has ls 4 [(0, .ref (ad a0)), (1, .int v1)] := hl
  unfold wu_Mo_linesOf at h
  refine lv_iconst (v := 0) G.1 G.2.1 d_Mo_linesOf_0 (by decide) ?_
  refine lv_istore_n (lv' := [(2, .int 0), (0, .ref (ad a0)), (1, .int v1)]) G.1 G.2.1 d_Mo_linesOf_1 rfl hl (by decide) rfl (fun ls hl => ?_)
  refine lv_aload_n G.1 G.2.1 d_Mo_linesOf_2 rfl (lv_at hl 1 rfl) ?_
  refine ugf (v := .ref (yP y a0 130)) G hP h_a0 iMo rfl 130 (by decide) rfl q3194 rfl rfl d_Mo_linesOf_3 ?_
  refine lv_iconst (v := 0) G.1 G.2.1 d_Mo_linesOf_6 (by decide) ?_
  refine lv_iconst (v := 0) G.1 G.2.1 d_Mo_linesOf_7 (by decide) ?_
  refine uiast G hP hD hS (kdp h_a0 rfl) (typ h_a0 rfl) h d_Mo_linesOf_8 (fun s_1 H locs h hP hD hS => ?_)
  refine lv_iconst (v := 0) G.1 G.2.1 d_Mo_linesOf_9 (by decide) ?_
  refine lv_istore_n (lv' := [(3, .int 0), (2, .int 0), (0, .ref (ad a0)), (1, .int v1)]) G.1 G.2.1 d_Mo_linesOf_10 rfl hl (by decide) rfl (fun ls hl => ?_)
  unfold wl_Mo_linesOf_11 at h
  obtain ⟨I_11, μ_11, hI_11, hB_11⟩ := h
  have L_11 : ∀ (n_11 : Nat) (s_h11 : St) (x1h11 : Int32) (x2h11 : Int32) (x3h11 : Int32), μ_11 s_h11 x1h11 x2h11 x3h11 < n_11 → I_11 s_h11 x1h11 x2h11 x3h11 → ∀ (H : Heap) (locs : List Loc), va_P D CL (ws g ad y s_h11) H → va_D A (ws g ad y s_h11) → va_S A s.heap H locs → ∀ ls, lv_has ls 4 [(0, .ref (ad a0)), (1, .int x1h11), (2, .int x2h11), (3, .int x3h11)] → W p l e ru_Mo_linesOf s m args below meth c H locs 0 0 Q (F0 m 11 ls []) := by
    intro n_11
    induction n_11 with
    | zero => intro s_h11 x1h11 x2h11 x3h11 hμ; exact absurd hμ (Nat.not_lt_zero _)
    | succ n_11 ih_11 =>
      intro s_h11 x1h11 x2h11 x3h11 hμ_11 hJ H locs hP hD hS ls hl
      obtain ⟨K_11, hK_11, h⟩ : ∃ K : St → Int32 → Int32 → Int32 → Prop, (∀ z (t0 : Int32) (t1 : Int32) (t2 : Int32), K z t0 t1 t2 → I_11 z t0 t1 t2 ∧ μ_11 z t0 t1 t2 < μ_11 s_h11 x1h11 x2h11 x3h11) ∧ wb_Mo_linesOf_11 y Post K a0 s_h11 x1h11 x2h11 x3h11 := ⟨_, fun _ _ _ _ h => h, hB_11 s_h11 x1h11 x2h11 x3h11 hJ⟩
      unfold wb_Mo_linesOf_11 at h
      refine lv_iload_n G.1 G.2.1 d_Mo_linesOf_11 rfl (lv_at hl 3 rfl) ?_
      refine lv_aload_n G.1 G.2.1 d_Mo_linesOf_12 rfl (lv_at hl 0 rfl) ?_
      refine ugf (v := .ref (yP y a0 117)) G hP h_a0 iMo rfl 117 (by decide) rfl q3181 rfl rfl d_Mo_linesOf_13 ?_
      refine lv_iload_n G.1 G.2.1 d_Mo_linesOf_16 rfl (lv_at hl 1 rfl) ?_
      refine uiald G hP (kdp h_a0 rfl) (typ h_a0 rfl) h d_Mo_linesOf_17 (fun x_2 h => ?_)
      refine lv_icmp_ge (tgt := 56) G.1 G.2.1 d_Mo_linesOf_18 (by decide) (fun c18 => ?_) (fun c18 => ?_)
      · skip
        have h := h.1 c18
        refine lv_iload_n G.1 G.2.1 d_Mo_linesOf_56 rfl (lv_at hl 2 rfl) ?_
        exact hret _ _ _ _ _ _ _ ls h hP hD hS (Nat.le_refl _) (Nat.le_refl _) d_Mo_linesOf_57
      · skip
        have h := h.2 c18
        refine lv_aload_n G.1 G.2.1 d_Mo_linesOf_21 rfl (lv_at hl 0 rfl) ?_
        refine ugf (v := .ref (yP y a0 116)) G hP h_a0 iMo rfl 116 (by decide) rfl q3180 rfl rfl d_Mo_linesOf_22 ?_
        refine lv_sipush (v := 1204) G.1 G.2.1 d_Mo_linesOf_25 (by decide) ?_
        refine lv_iload_n G.1 G.2.1 d_Mo_linesOf_28 rfl (lv_at hl 1 rfl) ?_
        refine lv_imul G.1 G.2.1 d_Mo_linesOf_29 ?_
        refine W.eq (g2 := F0 m 30 ls [.int (1204 * x1h11), .ref (yP y a0 116)]) rfl ?_
        refine lv_iload_n G.1 G.2.1 d_Mo_linesOf_30 rfl (lv_at hl 3 rfl) ?_
        refine lv_iadd G.1 G.2.1 d_Mo_linesOf_31 ?_
        refine ubald G hP (kdp h_a0 rfl) (typ h_a0 rfl) h d_Mo_linesOf_32 (fun x_3 h => ?_)
        refine lv_bipush (v := 10) G.1 G.2.1 d_Mo_linesOf_33 (by decide) ?_
        have J_50 : ∀ (s_j50 : St) (x1j50 : Int32) (x2j50 : Int32) (x3j50 : Int32) (H : Heap) (locs : List Loc), wj_Mo_linesOf_50 y Post K_11 a0 s_j50 x1j50 x2j50 x3j50 → va_P D CL (ws g ad y s_j50) H → va_D A (ws g ad y s_j50) → va_S A s.heap H locs → ∀ ls, lv_has ls 4 [(0, .ref (ad a0)), (1, .int x1j50), (2, .int x2j50), (3, .int x3j50)] → W p l e ru_Mo_linesOf s m args below meth c H locs 0 0 Q (F0 m 50 ls []) := by
          intro s_j50 x1j50 x2j50 x3j50 H locs h hP hD hS ls hl
          unfold wj_Mo_linesOf_50 at h
          refine lv_iinc (v := x3j50 + 1) (lv' := [(3, .int (x3j50 + 1)), (0, .ref (ad a0)), (1, .int x1j50), (2, .int x2j50)]) G.1 G.2.1 d_Mo_linesOf_50 hl (k := 3) rfl rfl (by decide) rfl (fun ls hl => ?_)
          refine lv_goto (tgt := 11) G.1 G.2.1 d_Mo_linesOf_53 (by decide) ?_
          have h := hK_11 s_j50 x1j50 x2j50 (x3j50 + 1) h
          exact ih_11 s_j50 x1j50 x2j50 (x3j50 + 1) (Nat.lt_of_lt_of_le h.2 (Nat.le_of_lt_succ hμ_11)) h.1 H locs hP hD hS ls (lv_sub hl [1, 2, 3, 0] rfl)
        refine lv_icmp_ne (tgt := 50) G.1 G.2.1 d_Mo_linesOf_35 (by decide) (fun c35 => ?_) (fun c35 => ?_)
        · skip
          have h := h.1 c35
          exact J_50 s_h11 x1h11 x2h11 x3h11 H locs h hP hD hS ls (lv_sub hl [0, 1, 2, 3] rfl)
        · skip
          have h := h.2 c35
          refine lv_iinc (v := x2h11 + 1) (lv' := [(2, .int (x2h11 + 1)), (0, .ref (ad a0)), (1, .int x1h11), (3, .int x3h11)]) G.1 G.2.1 d_Mo_linesOf_38 hl (k := 2) rfl rfl (by decide) rfl (fun ls hl => ?_)
          refine lv_aload_n G.1 G.2.1 d_Mo_linesOf_41 rfl (lv_at hl 1 rfl) ?_
          refine ugf (v := .ref (yP y a0 130)) G hP h_a0 iMo rfl 130 (by decide) rfl q3194 rfl rfl d_Mo_linesOf_42 ?_
          refine lv_iload_n G.1 G.2.1 d_Mo_linesOf_45 rfl (lv_at hl 0 rfl) ?_
          refine lv_iload_n G.1 G.2.1 d_Mo_linesOf_46 rfl (lv_at hl 3 rfl) ?_
          refine lv_iconst (v := 1) G.1 G.2.1 d_Mo_linesOf_47 (by decide) ?_
          refine lv_iadd G.1 G.2.1 d_Mo_linesOf_48 ?_
          refine W.eq (g2 := F0 m 49 ls [.int (x3h11 + 1), .int (x2h11 + 1), .ref (yP y a0 130)]) rfl ?_
          refine uiast G hP hD hS (kdp h_a0 rfl) (typ h_a0 rfl) h d_Mo_linesOf_49 (fun s_4 H locs h hP hD hS => ?_)
          exact J_50 s_4 x1h11 (x2h11 + 1) x3h11 H locs h hP hD hS ls (lv_sub hl [1, 2, 0, 3] rfl)
  exact L_11 _ s_1 v1 0 0 (Nat.lt_succ_self _) hI_11 H locs hP hD hS ls (lv_sub hl [2, 3, 1, 0] rfl)
def y_Mo_draftLine : MethodName := ⟨"ClassWorksModel", "draftLine", "(II)V"⟩
abbrev b_Mo_draftLine : ByteArray := prog_14_method_210_code
theorem d_Mo_draftLine_0 : decode b_Mo_draftLine 0 = .ok (.aload_n 0, 1) := by decide +kernel
theorem d_Mo_draftLine_1 : decode b_Mo_draftLine 1 = .ok (.getfield 402, 3) := by decide +kernel
theorem d_Mo_draftLine_4 : decode b_Mo_draftLine 4 = .ok (.iload_n 2, 1) := by decide +kernel
theorem d_Mo_draftLine_5 : decode b_Mo_draftLine 5 = .ok (.iconst 1, 1) := by decide +kernel
theorem d_Mo_draftLine_6 : decode b_Mo_draftLine 6 = .ok (.iadd, 1) := by decide +kernel
theorem d_Mo_draftLine_7 : decode b_Mo_draftLine 7 = .ok (.iaload, 1) := by decide +kernel
theorem d_Mo_draftLine_8 : decode b_Mo_draftLine 8 = .ok (.aload_n 0, 1) := by decide +kernel
theorem d_Mo_draftLine_9 : decode b_Mo_draftLine 9 = .ok (.getfield 402, 3) := by decide +kernel
theorem d_Mo_draftLine_12 : decode b_Mo_draftLine 12 = .ok (.iload_n 2, 1) := by decide +kernel
theorem d_Mo_draftLine_13 : decode b_Mo_draftLine 13 = .ok (.iaload, 1) := by decide +kernel
theorem d_Mo_draftLine_14 : decode b_Mo_draftLine 14 = .ok (.isub, 1) := by decide +kernel
theorem d_Mo_draftLine_15 : decode b_Mo_draftLine 15 = .ok (.istore_n 3, 1) := by decide +kernel
theorem d_Mo_draftLine_16 : decode b_Mo_draftLine 16 = .ok (.aload_n 0, 1) := by decide +kernel
theorem d_Mo_draftLine_17 : decode b_Mo_draftLine 17 = .ok (.getfield 372, 3) := by decide +kernel
theorem d_Mo_draftLine_20 : decode b_Mo_draftLine 20 = .ok (.sipush 1204, 3) := by decide +kernel
theorem d_Mo_draftLine_23 : decode b_Mo_draftLine 23 = .ok (.iload_n 1, 1) := by decide +kernel
theorem d_Mo_draftLine_24 : decode b_Mo_draftLine 24 = .ok (.imul, 1) := by decide +kernel
theorem d_Mo_draftLine_25 : decode b_Mo_draftLine 25 = .ok (.aload_n 0, 1) := by decide +kernel
theorem d_Mo_draftLine_26 : decode b_Mo_draftLine 26 = .ok (.getfield 402, 3) := by decide +kernel
theorem d_Mo_draftLine_29 : decode b_Mo_draftLine 29 = .ok (.iload_n 2, 1) := by decide +kernel
theorem d_Mo_draftLine_30 : decode b_Mo_draftLine 30 = .ok (.iaload, 1) := by decide +kernel
theorem d_Mo_draftLine_31 : decode b_Mo_draftLine 31 = .ok (.iadd, 1) := by decide +kernel
theorem d_Mo_draftLine_32 : decode b_Mo_draftLine 32 = .ok (.aload_n 0, 1) := by decide +kernel
theorem d_Mo_draftLine_33 : decode b_Mo_draftLine 33 = .ok (.getfield 387, 3) := by decide +kernel
theorem d_Mo_draftLine_36 : decode b_Mo_draftLine 36 = .ok (.aload_n 0, 1) := by decide +kernel
theorem d_Mo_draftLine_37 : decode b_Mo_draftLine 37 = .ok (.getfield 1317, 3) := by decide +kernel
theorem d_Mo_draftLine_40 : decode b_Mo_draftLine 40 = .ok (.iload_n 3, 1) := by decide +kernel
theorem d_Mo_draftLine_41 : decode b_Mo_draftLine 41 = .ok (.invokestatic 11, 3) := by decide +kernel
theorem d_Mo_draftLine_44 : decode b_Mo_draftLine 44 = .ok (.aload_n 0, 1) := by decide +kernel
theorem d_Mo_draftLine_45 : decode b_Mo_draftLine 45 = .ok (.dup, 1) := by decide +kernel
theorem d_Mo_draftLine_46 : decode b_Mo_draftLine 46 = .ok (.getfield 1317, 3) := by decide +kernel
theorem d_Mo_draftLine_49 : decode b_Mo_draftLine 49 = .ok (.iload_n 3, 1) := by decide +kernel
theorem d_Mo_draftLine_50 : decode b_Mo_draftLine 50 = .ok (.iadd, 1) := by decide +kernel
theorem d_Mo_draftLine_51 : decode b_Mo_draftLine 51 = .ok (.putfield 1317, 3) := by decide +kernel
theorem d_Mo_draftLine_54 : decode b_Mo_draftLine 54 = .ok (.return_, 1) := by decide +kernel
abbrev ru_Mo_draftLine : Room := { frames := 1, cells := 0, slots := 0, locals := 120 }
def wu_Mo_draftLine (y : Ly) (Post : St → Prop) (σ : St) (a0 : Nat) (v1 : Int32) (v2 : Int32) : Prop := xA y σ a0 130 (v2 + 1) (fun x_1 : Int32 => xA y σ a0 130 v2 (fun x_2 : Int32 => xA y σ a0 130 v2 (fun x_3 : Int32 => xC y σ a0 116 a0 122 .byte ((1204 * v1) + x_3) (sV σ a0 123) (x_1 - x_2) (fun s_4 : St => xP (uV s_4 a0 123 ((sV s_4 a0 123) + (x_1 - x_2))) (fun s_5 : St => Post s_5)))))
set_option maxHeartbeats 4000000 in
set_option maxRecDepth 100000 in
theorem cu_Mo_draftLine (l : Launch) (D : va_G) (g : Nat → ClassId) (ad : Nat → Nat) (y : Ly) (Post : St → Prop) (σ : St) (a0 : Nat) (v1 : Int32) (v2 : Int32) (sz : Nat) (h_a0 : cl a0 = 14) (h : wu_Mo_draftLine y Post σ a0 v1 v2) : Met l y_Mo_draftLine (mw y_Mo_draftLine b_Mo_draftLine 4 (none)) ru_Mo_draftLine (PC g D [] [.ref (ad a0), .int v1, .int v2] sz (ws g ad y σ)) (va_Qv (fun u : St => Post u) (QW D (va_A (ws g ad y σ) sz) (fun u => ws g ad y u)) (va_A (ws g ad y σ) sz)) 0 0 (va_A (ws g ad y σ) sz) := by
  refine ofV (by decide +kernel) (Nat.le_of_ble_eq_true rfl) ?_
  intro p e s m args below meth c A Q ls H locs G hsz hP hD hS hl hret
  subst hsz
  have hl : lv_has ls 4 [(0, .ref (ad a0)), (1, .int v1), (2, .int v2)] := hl
  unfold wu_Mo_draftLine at h
  refine lv_aload_n G.1 G.2.1 d_Mo_draftLine_0 rfl (lv_at hl 0 rfl) ?_
  refine ugf (v := .ref (yP y a0 130)) G hP h_a0 iMo rfl 130 (by decide) rfl q3194 rfl rfl d_Mo_draftLine_1 ?_
  refine lv_iload_n G.1 G.2.1 d_Mo_draftLine_4 rfl (lv_at hl 2 rfl) ?_
  refine lv_iconst (v := 1) G.1 G.2.1 d_Mo_draftLine_5 (by decide) ?_
  refine lv_iadd G.1 G.2.1 d_Mo_draftLine_6 ?_
  refine uiald G hP (kdp h_a0 rfl) (typ h_a0 rfl) h d_Mo_draftLine_7 (fun x_1 h => ?_)
  refine lv_aload_n G.1 G.2.1 d_Mo_draftLine_8 rfl (lv_at hl 0 rfl) ?_
  refine ugf (v := .ref (yP y a0 130)) G hP h_a0 iMo rfl 130 (by decide) rfl q3194 rfl rfl d_Mo_draftLine_9 ?_
  refine lv_iload_n G.1 G.2.1 d_Mo_draftLine_12 rfl (lv_at hl 2 rfl) ?_
  refine uiald G hP (kdp h_a0 rfl) (typ h_a0 rfl) h d_Mo_draftLine_13 (fun x_2 h => ?_)
  refine lv_isub G.1 G.2.1 d_Mo_draftLine_14 ?_
  refine W.eq (g2 := F0 m 15 ls [.int (x_1 - x_2)]) rfl ?_
  refine lv_istore_n (lv' := [(3, .int (x_1 - x_2)), (0, .ref (ad a0)), (1, .int v1), (2, .int v2)]) G.1 G.2.1 d_Mo_draftLine_15 rfl hl (by decide) rfl (fun ls hl => ?_)
  refine lv_aload_n G.1 G.2.1 d_Mo_draftLine_16 rfl (lv_at hl 1 rfl) ?_
  refine ugf (v := .ref (yP y a0 116)) G hP h_a0 iMo rfl 116 (by decide) rfl q3180 rfl rfl d_Mo_draftLine_17 ?_
  refine lv_sipush (v := 1204) G.1 G.2.1 d_Mo_draftLine_20 (by decide) ?_
  refine lv_iload_n G.1 G.2.1 d_Mo_draftLine_23 rfl (lv_at hl 2 rfl) ?_
  refine lv_imul G.1 G.2.1 d_Mo_draftLine_24 ?_
  refine lv_aload_n G.1 G.2.1 d_Mo_draftLine_25 rfl (lv_at hl 1 rfl) ?_
  refine ugf (v := .ref (yP y a0 130)) G hP h_a0 iMo rfl 130 (by decide) rfl q3194 rfl rfl d_Mo_draftLine_26 ?_
  refine lv_iload_n G.1 G.2.1 d_Mo_draftLine_29 rfl (lv_at hl 3 rfl) ?_
  refine uiald G hP (kdp h_a0 rfl) (typ h_a0 rfl) h d_Mo_draftLine_30 (fun x_3 h => ?_)
  refine lv_iadd G.1 G.2.1 d_Mo_draftLine_31 ?_
  refine lv_aload_n G.1 G.2.1 d_Mo_draftLine_32 rfl (lv_at hl 1 rfl) ?_
  refine W.eq (g2 := F0 m 33 ls [.ref (ad a0), .int ((1204 * v1) + x_3), .ref (yP y a0 116)]) rfl ?_
  refine ugf (v := .ref (yP y a0 122)) G hP h_a0 iMo rfl 122 (by decide) rfl q3186 rfl rfl d_Mo_draftLine_33 ?_
  refine lv_aload_n G.1 G.2.1 d_Mo_draftLine_36 rfl (lv_at hl 1 rfl) ?_
  refine ugf (v := .int (sV σ a0 123)) G hP h_a0 iMo rfl 123 (by decide) rfl q3187 rfl rfl d_Mo_draftLine_37 ?_
  refine lv_iload_n G.1 G.2.1 d_Mo_draftLine_40 rfl (lv_at hl 0 rfl) ?_
  refine ucpy G hP hD hS (kdp h_a0 rfl) (typ h_a0 rfl) (kdp h_a0 rfl) (typ h_a0 rfl) rfl rfl h hl.1 q2595 q488 q487 q338 (Nat.le_of_ble_eq_true rfl) (Nat.le_of_ble_eq_true rfl) d_Mo_draftLine_41 (fun s_4 H locs h hP hD hS => ?_)
  refine lv_aload_n G.1 G.2.1 d_Mo_draftLine_44 rfl (lv_at hl 1 rfl) ?_
  refine lv_dup G.1 G.2.1 d_Mo_draftLine_45 rfl ?_
  refine ugf (v := .int (sV s_4 a0 123)) G hP h_a0 iMo rfl 123 (by decide) rfl q3187 rfl rfl d_Mo_draftLine_46 ?_
  refine lv_iload_n G.1 G.2.1 d_Mo_draftLine_49 rfl (lv_at hl 0 rfl) ?_
  refine lv_iadd G.1 G.2.1 d_Mo_draftLine_50 ?_
  refine upf G hP hD hS h 123 putV h_a0 iMo tMo tMo_ok nMo rfl (by decide) rfl q3187 rfl rfl fV rfl rfl d_Mo_draftLine_51 (fun s_5 H locs h hP hD hS => ?_)
  exact hret _ _ _ _ _ _ ls h hP hD hS (Nat.le_refl _) (Nat.le_refl _) d_Mo_draftLine_54
theorem q4224 : Cond.methodLink "ClassWorksModel" 1329 y_Mo_isTrial ∈ lw_ok := lw_okmem (List.mem_of_getElem? (i := 4224) (by decide +kernel)) rfl
theorem q4227 : Cond.code y_Mo_isTrial b_Mo_isTrial 2 (some (.boolean)) ∈ lw_ok := lw_okmem (List.mem_of_getElem? (i := 4227) (by decide +kernel)) rfl
theorem q4226 : Cond.instanceMethod y_Mo_isTrial ∈ lw_ok := lw_okmem (List.mem_of_getElem? (i := 4226) (by decide +kernel)) rfl
theorem q320 : Cond.selects y_Mo_isTrial.cls y_Mo_isTrial y_Mo_isTrial ∈ lw_ok := lw_okmem (List.mem_of_getElem? (i := 320) (by decide +kernel)) rfl
theorem w9_Mo_isTrial : CWv y_Mo_isTrial b_Mo_isTrial 2 (some (.boolean)) 1 ∧ Cond.instanceMethod y_Mo_isTrial ∈ lw_ok ∧ Cond.selects y_Mo_isTrial.cls y_Mo_isTrial y_Mo_isTrial ∈ lw_ok := ⟨⟨q4227, q348, by decide +kernel, by decide +kernel, by decide +kernel⟩, q4226, q320⟩
theorem q4275 : Cond.methodLink "ClassWorksModel" 1350 y_Mo_linesOf ∈ lw_ok := lw_okmem (List.mem_of_getElem? (i := 4275) (by decide +kernel)) rfl
theorem q4278 : Cond.code y_Mo_linesOf b_Mo_linesOf 4 (some .int) ∈ lw_ok := lw_okmem (List.mem_of_getElem? (i := 4278) (by decide +kernel)) rfl
theorem q4277 : Cond.instanceMethod y_Mo_linesOf ∈ lw_ok := lw_okmem (List.mem_of_getElem? (i := 4277) (by decide +kernel)) rfl
theorem q326 : Cond.selects y_Mo_linesOf.cls y_Mo_linesOf y_Mo_linesOf ∈ lw_ok := lw_okmem (List.mem_of_getElem? (i := 326) (by decide +kernel)) rfl
theorem w9_Mo_linesOf : CWv y_Mo_linesOf b_Mo_linesOf 4 (some .int) 1 ∧ Cond.instanceMethod y_Mo_linesOf ∈ lw_ok ∧ Cond.selects y_Mo_linesOf.cls y_Mo_linesOf y_Mo_linesOf ∈ lw_ok := ⟨⟨q4278, q348, by decide +kernel, by decide +kernel, by decide +kernel⟩, q4277, q326⟩
theorem q4216 : Cond.methodLink "ClassWorksModel" 1320 y_Mo_keepDraft ∈ lw_ok := lw_okmem (List.mem_of_getElem? (i := 4216) (by decide +kernel)) rfl
theorem q4219 : Cond.code y_Mo_keepDraft b_Mo_keepDraft 1 (some .int) ∈ lw_ok := lw_okmem (List.mem_of_getElem? (i := 4219) (by decide +kernel)) rfl
theorem q4218 : Cond.instanceMethod y_Mo_keepDraft ∈ lw_ok := lw_okmem (List.mem_of_getElem? (i := 4218) (by decide +kernel)) rfl
theorem q319 : Cond.selects y_Mo_keepDraft.cls y_Mo_keepDraft y_Mo_keepDraft ∈ lw_ok := lw_okmem (List.mem_of_getElem? (i := 319) (by decide +kernel)) rfl
theorem w9_Mo_keepDraft : CWv y_Mo_keepDraft b_Mo_keepDraft 1 (some .int) 0 ∧ Cond.instanceMethod y_Mo_keepDraft ∈ lw_ok ∧ Cond.selects y_Mo_keepDraft.cls y_Mo_keepDraft y_Mo_keepDraft ∈ lw_ok := ⟨⟨q4219, q348, by decide +kernel, by decide +kernel, by decide +kernel⟩, q4218, q319⟩
theorem q4279 : Cond.methodLink "ClassWorksModel" 1353 y_Mo_draftLine ∈ lw_ok := lw_okmem (List.mem_of_getElem? (i := 4279) (by decide +kernel)) rfl
theorem q4282 : Cond.code y_Mo_draftLine b_Mo_draftLine 4 (none) ∈ lw_ok := lw_okmem (List.mem_of_getElem? (i := 4282) (by decide +kernel)) rfl
theorem q4281 : Cond.instanceMethod y_Mo_draftLine ∈ lw_ok := lw_okmem (List.mem_of_getElem? (i := 4281) (by decide +kernel)) rfl
theorem q327 : Cond.selects y_Mo_draftLine.cls y_Mo_draftLine y_Mo_draftLine ∈ lw_ok := lw_okmem (List.mem_of_getElem? (i := 327) (by decide +kernel)) rfl
theorem w9_Mo_draftLine : CWv y_Mo_draftLine b_Mo_draftLine 4 (none) 2 ∧ Cond.instanceMethod y_Mo_draftLine ∈ lw_ok ∧ Cond.selects y_Mo_draftLine.cls y_Mo_draftLine y_Mo_draftLine ∈ lw_ok := ⟨⟨q4282, q348, by decide +kernel, by decide +kernel, by decide +kernel⟩, q4281, q327⟩
def y_Mo_change : MethodName := ⟨"ClassWorksModel", "change", "(IIII)I"⟩
abbrev b_Mo_change : ByteArray := prog_14_method_212_code
theorem d_Mo_change_0 : decode b_Mo_change 0 = .ok (.aload_n 0, 1) := by decide +kernel
theorem d_Mo_change_1 : decode b_Mo_change 1 = .ok (.iload_n 1, 1) := by decide +kernel
theorem d_Mo_change_2 : decode b_Mo_change 2 = .ok (.invokevirtual 1329, 3) := by decide +kernel
theorem d_Mo_change_5 : decode b_Mo_change 5 = .ok (.ifCond .eq 12, 3) := by decide +kernel
theorem d_Mo_change_8 : decode b_Mo_change 8 = .ok (.iload_n 2, 1) := by decide +kernel
theorem d_Mo_change_9 : decode b_Mo_change 9 = .ok (.ifCond .lt 8, 3) := by decide +kernel
theorem d_Mo_change_12 : decode b_Mo_change 12 = .ok (.iload_n 2, 1) := by decide +kernel
theorem d_Mo_change_13 : decode b_Mo_change 13 = .ok (.iconst 3, 1) := by decide +kernel
theorem d_Mo_change_14 : decode b_Mo_change 14 = .ok (.if_icmp .le 5, 3) := by decide +kernel
theorem d_Mo_change_17 : decode b_Mo_change 17 = .ok (.iconst (-1), 1) := by decide +kernel
theorem d_Mo_change_18 : decode b_Mo_change 18 = .ok (.ireturn, 1) := by decide +kernel
theorem d_Mo_change_19 : decode b_Mo_change 19 = .ok (.aload_n 0, 1) := by decide +kernel
theorem d_Mo_change_20 : decode b_Mo_change 20 = .ok (.iload_n 1, 1) := by decide +kernel
theorem d_Mo_change_21 : decode b_Mo_change 21 = .ok (.invokevirtual 1350, 3) := by decide +kernel
theorem d_Mo_change_24 : decode b_Mo_change 24 = .ok (.istore 5, 2) := by decide +kernel
theorem d_Mo_change_26 : decode b_Mo_change 26 = .ok (.iload_n 3, 1) := by decide +kernel
theorem d_Mo_change_27 : decode b_Mo_change 27 = .ok (.ifCond .lt 30, 3) := by decide +kernel
theorem d_Mo_change_30 : decode b_Mo_change 30 = .ok (.iload_n 3, 1) := by decide +kernel
theorem d_Mo_change_31 : decode b_Mo_change 31 = .ok (.iload 5, 2) := by decide +kernel
theorem d_Mo_change_33 : decode b_Mo_change 33 = .ok (.iconst 1, 1) := by decide +kernel
theorem d_Mo_change_34 : decode b_Mo_change 34 = .ok (.isub, 1) := by decide +kernel
theorem d_Mo_change_35 : decode b_Mo_change 35 = .ok (.if_icmp .ge 22, 3) := by decide +kernel
theorem d_Mo_change_38 : decode b_Mo_change 38 = .ok (.iload_n 2, 1) := by decide +kernel
theorem d_Mo_change_39 : decode b_Mo_change 39 = .ok (.iconst 1, 1) := by decide +kernel
theorem d_Mo_change_40 : decode b_Mo_change 40 = .ok (.if_icmp .le 19, 3) := by decide +kernel
theorem d_Mo_change_43 : decode b_Mo_change 43 = .ok (.iload 4, 2) := by decide +kernel
theorem d_Mo_change_45 : decode b_Mo_change 45 = .ok (.ifCond .lt 12, 3) := by decide +kernel
theorem d_Mo_change_48 : decode b_Mo_change 48 = .ok (.iload 4, 2) := by decide +kernel
theorem d_Mo_change_50 : decode b_Mo_change 50 = .ok (.iload 5, 2) := by decide +kernel
theorem d_Mo_change_52 : decode b_Mo_change 52 = .ok (.iconst 1, 1) := by decide +kernel
theorem d_Mo_change_53 : decode b_Mo_change 53 = .ok (.isub, 1) := by decide +kernel
theorem d_Mo_change_54 : decode b_Mo_change 54 = .ok (.if_icmp .lt 5, 3) := by decide +kernel
theorem d_Mo_change_57 : decode b_Mo_change 57 = .ok (.iconst (-1), 1) := by decide +kernel
theorem d_Mo_change_58 : decode b_Mo_change 58 = .ok (.ireturn, 1) := by decide +kernel
theorem d_Mo_change_59 : decode b_Mo_change 59 = .ok (.aload_n 0, 1) := by decide +kernel
theorem d_Mo_change_60 : decode b_Mo_change 60 = .ok (.getfield 375, 3) := by decide +kernel
theorem d_Mo_change_63 : decode b_Mo_change 63 = .ok (.iload_n 1, 1) := by decide +kernel
theorem d_Mo_change_64 : decode b_Mo_change 64 = .ok (.iaload, 1) := by decide +kernel
theorem d_Mo_change_65 : decode b_Mo_change 65 = .ok (.istore 6, 2) := by decide +kernel
theorem d_Mo_change_67 : decode b_Mo_change 67 = .ok (.aload_n 0, 1) := by decide +kernel
theorem d_Mo_change_68 : decode b_Mo_change 68 = .ok (.getfield 402, 3) := by decide +kernel
theorem d_Mo_change_71 : decode b_Mo_change 71 = .ok (.iload_n 3, 1) := by decide +kernel
theorem d_Mo_change_72 : decode b_Mo_change 72 = .ok (.iconst 1, 1) := by decide +kernel
theorem d_Mo_change_73 : decode b_Mo_change 73 = .ok (.iadd, 1) := by decide +kernel
theorem d_Mo_change_74 : decode b_Mo_change 74 = .ok (.iaload, 1) := by decide +kernel
theorem d_Mo_change_75 : decode b_Mo_change 75 = .ok (.aload_n 0, 1) := by decide +kernel
theorem d_Mo_change_76 : decode b_Mo_change 76 = .ok (.getfield 402, 3) := by decide +kernel
theorem d_Mo_change_79 : decode b_Mo_change 79 = .ok (.iload_n 3, 1) := by decide +kernel
theorem d_Mo_change_80 : decode b_Mo_change 80 = .ok (.iaload, 1) := by decide +kernel
theorem d_Mo_change_81 : decode b_Mo_change 81 = .ok (.isub, 1) := by decide +kernel
theorem d_Mo_change_82 : decode b_Mo_change 82 = .ok (.istore 7, 2) := by decide +kernel
theorem d_Mo_change_84 : decode b_Mo_change 84 = .ok (.iload_n 2, 1) := by decide +kernel
theorem d_Mo_change_85 : decode b_Mo_change 85 = .ok (.iconst 1, 1) := by decide +kernel
theorem d_Mo_change_86 : decode b_Mo_change 86 = .ok (.if_icmp .ne 13, 3) := by decide +kernel
theorem d_Mo_change_89 : decode b_Mo_change 89 = .ok (.iload 6, 2) := by decide +kernel
theorem d_Mo_change_91 : decode b_Mo_change 91 = .ok (.iload 7, 2) := by decide +kernel
theorem d_Mo_change_93 : decode b_Mo_change 93 = .ok (.iadd, 1) := by decide +kernel
theorem d_Mo_change_94 : decode b_Mo_change 94 = .ok (.istore 6, 2) := by decide +kernel
theorem d_Mo_change_96 : decode b_Mo_change 96 = .ok (.goto 33, 3) := by decide +kernel
theorem d_Mo_change_99 : decode b_Mo_change 99 = .ok (.iload_n 2, 1) := by decide +kernel
theorem d_Mo_change_100 : decode b_Mo_change 100 = .ok (.iconst 3, 1) := by decide +kernel
theorem d_Mo_change_101 : decode b_Mo_change 101 = .ok (.if_icmp .ne 28, 3) := by decide +kernel
theorem d_Mo_change_104 : decode b_Mo_change 104 = .ok (.iload 6, 2) := by decide +kernel
theorem d_Mo_change_106 : decode b_Mo_change 106 = .ok (.aload_n 0, 1) := by decide +kernel
theorem d_Mo_change_107 : decode b_Mo_change 107 = .ok (.getfield 402, 3) := by decide +kernel
theorem d_Mo_change_110 : decode b_Mo_change 110 = .ok (.iload 4, 2) := by decide +kernel
theorem d_Mo_change_112 : decode b_Mo_change 112 = .ok (.iconst 1, 1) := by decide +kernel
theorem d_Mo_change_113 : decode b_Mo_change 113 = .ok (.iadd, 1) := by decide +kernel
theorem d_Mo_change_114 : decode b_Mo_change 114 = .ok (.iaload, 1) := by decide +kernel
theorem d_Mo_change_115 : decode b_Mo_change 115 = .ok (.aload_n 0, 1) := by decide +kernel
theorem d_Mo_change_116 : decode b_Mo_change 116 = .ok (.getfield 402, 3) := by decide +kernel
theorem d_Mo_change_119 : decode b_Mo_change 119 = .ok (.iload 4, 2) := by decide +kernel
theorem d_Mo_change_121 : decode b_Mo_change 121 = .ok (.iaload, 1) := by decide +kernel
theorem d_Mo_change_122 : decode b_Mo_change 122 = .ok (.isub, 1) := by decide +kernel
theorem d_Mo_change_123 : decode b_Mo_change 123 = .ok (.iload 7, 2) := by decide +kernel
theorem d_Mo_change_125 : decode b_Mo_change 125 = .ok (.isub, 1) := by decide +kernel
theorem d_Mo_change_126 : decode b_Mo_change 126 = .ok (.iadd, 1) := by decide +kernel
theorem d_Mo_change_127 : decode b_Mo_change 127 = .ok (.istore 6, 2) := by decide +kernel
theorem d_Mo_change_129 : decode b_Mo_change 129 = .ok (.aload_n 0, 1) := by decide +kernel
theorem d_Mo_change_130 : decode b_Mo_change 130 = .ok (.getfield 1314, 3) := by decide +kernel
theorem d_Mo_change_133 : decode b_Mo_change 133 = .ok (.bipush 40, 2) := by decide +kernel
theorem d_Mo_change_135 : decode b_Mo_change 135 = .ok (.if_icmp .eq 32, 3) := by decide +kernel
theorem d_Mo_change_138 : decode b_Mo_change 138 = .ok (.iload 6, 2) := by decide +kernel
theorem d_Mo_change_140 : decode b_Mo_change 140 = .ok (.sipush 1200, 3) := by decide +kernel
theorem d_Mo_change_143 : decode b_Mo_change 143 = .ok (.if_icmp .le 12, 3) := by decide +kernel
theorem d_Mo_change_146 : decode b_Mo_change 146 = .ok (.iload_n 2, 1) := by decide +kernel
theorem d_Mo_change_147 : decode b_Mo_change 147 = .ok (.ifCond .eq 8, 3) := by decide +kernel
theorem d_Mo_change_150 : decode b_Mo_change 150 = .ok (.iload_n 2, 1) := by decide +kernel
theorem d_Mo_change_151 : decode b_Mo_change 151 = .ok (.iconst 2, 1) := by decide +kernel
theorem d_Mo_change_152 : decode b_Mo_change 152 = .ok (.if_icmp .ne 15, 3) := by decide +kernel
theorem d_Mo_change_155 : decode b_Mo_change 155 = .ok (.iload_n 2, 1) := by decide +kernel
theorem d_Mo_change_156 : decode b_Mo_change 156 = .ok (.iconst 1, 1) := by decide +kernel
theorem d_Mo_change_157 : decode b_Mo_change 157 = .ok (.if_icmp .ne 13, 3) := by decide +kernel
theorem d_Mo_change_160 : decode b_Mo_change 160 = .ok (.iload 5, 2) := by decide +kernel
theorem d_Mo_change_162 : decode b_Mo_change 162 = .ok (.bipush 60, 2) := by decide +kernel
theorem d_Mo_change_164 : decode b_Mo_change 164 = .ok (.if_icmp .ne 6, 3) := by decide +kernel
theorem d_Mo_change_167 : decode b_Mo_change 167 = .ok (.bipush (-3), 2) := by decide +kernel
theorem d_Mo_change_169 : decode b_Mo_change 169 = .ok (.ireturn, 1) := by decide +kernel
theorem d_Mo_change_170 : decode b_Mo_change 170 = .ok (.aload_n 0, 1) := by decide +kernel
theorem d_Mo_change_171 : decode b_Mo_change 171 = .ok (.iconst 0, 1) := by decide +kernel
theorem d_Mo_change_172 : decode b_Mo_change 172 = .ok (.putfield 1317, 3) := by decide +kernel
theorem d_Mo_change_175 : decode b_Mo_change 175 = .ok (.iconst 0, 1) := by decide +kernel
theorem d_Mo_change_176 : decode b_Mo_change 176 = .ok (.istore 8, 2) := by decide +kernel
theorem d_Mo_change_178 : decode b_Mo_change 178 = .ok (.iload 8, 2) := by decide +kernel
theorem d_Mo_change_180 : decode b_Mo_change 180 = .ok (.iload 5, 2) := by decide +kernel
theorem d_Mo_change_182 : decode b_Mo_change 182 = .ok (.if_icmp .ge 96, 3) := by decide +kernel
theorem d_Mo_change_185 : decode b_Mo_change 185 = .ok (.iload_n 2, 1) := by decide +kernel
theorem d_Mo_change_186 : decode b_Mo_change 186 = .ok (.iconst 2, 1) := by decide +kernel
theorem d_Mo_change_187 : decode b_Mo_change 187 = .ok (.if_icmp .ne 14, 3) := by decide +kernel
theorem d_Mo_change_190 : decode b_Mo_change 190 = .ok (.iload 8, 2) := by decide +kernel
theorem d_Mo_change_192 : decode b_Mo_change 192 = .ok (.iload_n 3, 1) := by decide +kernel
theorem d_Mo_change_193 : decode b_Mo_change 193 = .ok (.if_icmp .ne 8, 3) := by decide +kernel
theorem d_Mo_change_196 : decode b_Mo_change 196 = .ok (.iload 4, 2) := by decide +kernel
theorem d_Mo_change_198 : decode b_Mo_change 198 = .ok (.goto 37, 3) := by decide +kernel
theorem d_Mo_change_201 : decode b_Mo_change 201 = .ok (.iload_n 2, 1) := by decide +kernel
theorem d_Mo_change_202 : decode b_Mo_change 202 = .ok (.iconst 2, 1) := by decide +kernel
theorem d_Mo_change_203 : decode b_Mo_change 203 = .ok (.if_icmp .ne 14, 3) := by decide +kernel
theorem d_Mo_change_206 : decode b_Mo_change 206 = .ok (.iload 8, 2) := by decide +kernel
theorem d_Mo_change_208 : decode b_Mo_change 208 = .ok (.iload 4, 2) := by decide +kernel
theorem d_Mo_change_210 : decode b_Mo_change 210 = .ok (.if_icmp .ne 7, 3) := by decide +kernel
theorem d_Mo_change_213 : decode b_Mo_change 213 = .ok (.iload_n 3, 1) := by decide +kernel
theorem d_Mo_change_214 : decode b_Mo_change 214 = .ok (.goto 21, 3) := by decide +kernel
theorem d_Mo_change_217 : decode b_Mo_change 217 = .ok (.iload_n 2, 1) := by decide +kernel
theorem d_Mo_change_218 : decode b_Mo_change 218 = .ok (.iconst 3, 1) := by decide +kernel
theorem d_Mo_change_219 : decode b_Mo_change 219 = .ok (.if_icmp .ne 14, 3) := by decide +kernel
theorem d_Mo_change_222 : decode b_Mo_change 222 = .ok (.iload 8, 2) := by decide +kernel
theorem d_Mo_change_224 : decode b_Mo_change 224 = .ok (.iload_n 3, 1) := by decide +kernel
theorem d_Mo_change_225 : decode b_Mo_change 225 = .ok (.if_icmp .ne 8, 3) := by decide +kernel
theorem d_Mo_change_228 : decode b_Mo_change 228 = .ok (.iload 4, 2) := by decide +kernel
theorem d_Mo_change_230 : decode b_Mo_change 230 = .ok (.goto 5, 3) := by decide +kernel
theorem d_Mo_change_233 : decode b_Mo_change 233 = .ok (.iload 8, 2) := by decide +kernel
theorem d_Mo_change_235 : decode b_Mo_change 235 = .ok (.istore 9, 2) := by decide +kernel
theorem d_Mo_change_237 : decode b_Mo_change 237 = .ok (.iload_n 2, 1) := by decide +kernel
theorem d_Mo_change_238 : decode b_Mo_change 238 = .ok (.ifCond .ne 9, 3) := by decide +kernel
theorem d_Mo_change_241 : decode b_Mo_change 241 = .ok (.iload 8, 2) := by decide +kernel
theorem d_Mo_change_243 : decode b_Mo_change 243 = .ok (.iload_n 3, 1) := by decide +kernel
theorem d_Mo_change_244 : decode b_Mo_change 244 = .ok (.if_icmp .eq 10, 3) := by decide +kernel
theorem d_Mo_change_247 : decode b_Mo_change 247 = .ok (.aload_n 0, 1) := by decide +kernel
theorem d_Mo_change_248 : decode b_Mo_change 248 = .ok (.iload_n 1, 1) := by decide +kernel
theorem d_Mo_change_249 : decode b_Mo_change 249 = .ok (.iload 9, 2) := by decide +kernel
theorem d_Mo_change_251 : decode b_Mo_change 251 = .ok (.invokevirtual 1353, 3) := by decide +kernel
theorem d_Mo_change_254 : decode b_Mo_change 254 = .ok (.iload_n 2, 1) := by decide +kernel
theorem d_Mo_change_255 : decode b_Mo_change 255 = .ok (.iconst 1, 1) := by decide +kernel
theorem d_Mo_change_256 : decode b_Mo_change 256 = .ok (.if_icmp .ne 16, 3) := by decide +kernel
theorem d_Mo_change_259 : decode b_Mo_change 259 = .ok (.iload 8, 2) := by decide +kernel
theorem d_Mo_change_261 : decode b_Mo_change 261 = .ok (.iload_n 3, 1) := by decide +kernel
theorem d_Mo_change_262 : decode b_Mo_change 262 = .ok (.if_icmp .ne 10, 3) := by decide +kernel
theorem d_Mo_change_265 : decode b_Mo_change 265 = .ok (.aload_n 0, 1) := by decide +kernel
theorem d_Mo_change_266 : decode b_Mo_change 266 = .ok (.iload_n 1, 1) := by decide +kernel
theorem d_Mo_change_267 : decode b_Mo_change 267 = .ok (.iload 9, 2) := by decide +kernel
theorem d_Mo_change_269 : decode b_Mo_change 269 = .ok (.invokevirtual 1353, 3) := by decide +kernel
theorem d_Mo_change_272 : decode b_Mo_change 272 = .ok (.iinc 8 1, 3) := by decide +kernel
theorem d_Mo_change_275 : decode b_Mo_change 275 = .ok (.goto (-97), 3) := by decide +kernel
theorem d_Mo_change_278 : decode b_Mo_change 278 = .ok (.aload_n 0, 1) := by decide +kernel
theorem d_Mo_change_279 : decode b_Mo_change 279 = .ok (.getfield 1317, 3) := by decide +kernel
theorem d_Mo_change_282 : decode b_Mo_change 282 = .ok (.sipush 1200, 3) := by decide +kernel
theorem d_Mo_change_285 : decode b_Mo_change 285 = .ok (.if_icmp .le 6, 3) := by decide +kernel
theorem d_Mo_change_288 : decode b_Mo_change 288 = .ok (.bipush (-3), 2) := by decide +kernel
theorem d_Mo_change_290 : decode b_Mo_change 290 = .ok (.ireturn, 1) := by decide +kernel
theorem d_Mo_change_291 : decode b_Mo_change 291 = .ok (.aload_n 0, 1) := by decide +kernel
theorem d_Mo_change_292 : decode b_Mo_change 292 = .ok (.invokevirtual 1320, 3) := by decide +kernel
theorem d_Mo_change_295 : decode b_Mo_change 295 = .ok (.ireturn, 1) := by decide +kernel
abbrev ru_Mo_change : Room := { frames := 2, cells := 0, slots := 0, locals := 143 }
def wj_Mo_change_17 (y : Ly) (Post : St → Int32 → Prop) (a0 : Nat) (s_j17 : St) : Prop := Post s_j17 (-1)
def wj_Mo_change_57 (y : Ly) (Post : St → Int32 → Prop) (a0 : Nat) (s_j57 : St) : Prop := Post s_j57 (-1)
def wj_Mo_change_167 (y : Ly) (Post : St → Int32 → Prop) (a0 : Nat) (s_j167 : St) : Prop := Post s_j167 (-3)
def wj_Mo_change_272 (y : Ly) (Post : St → Int32 → Prop) (K_178 : St → Int32 → Int32 → Int32 → Int32 → Int32 → Int32 → Prop) (a0 : Nat) (s_j272 : St) (x1j272 : Int32) (x2j272 : Int32) (x3j272 : Int32) (x4j272 : Int32) (x5j272 : Int32) (x8j272 : Int32) : Prop := K_178 s_j272 x1j272 x2j272 x3j272 x4j272 x5j272 (x8j272 + 1)
def wj_Mo_change_254 (y : Ly) (Post : St → Int32 → Prop) (K_178 : St → Int32 → Int32 → Int32 → Int32 → Int32 → Int32 → Prop) (a0 : Nat) (s_j254 : St) (x1j254 : Int32) (x2j254 : Int32) (x3j254 : Int32) (x4j254 : Int32) (x5j254 : Int32) (x8j254 : Int32) (x9j254 : Int32) : Prop := ((¬ x2j254 = 1 → wj_Mo_change_272 y Post K_178 a0 s_j254 x1j254 x2j254 x3j254 x4j254 x5j254 x8j254) ∧ (x2j254 = 1 → ((¬ x8j254 = x3j254 → wj_Mo_change_272 y Post K_178 a0 s_j254 x1j254 x2j254 x3j254 x4j254 x5j254 x8j254) ∧ (x8j254 = x3j254 → wu_Mo_draftLine y (fun (s_12 : St) => wj_Mo_change_272 y Post K_178 a0 s_12 x1j254 x2j254 x3j254 x4j254 x5j254 x8j254) s_j254 a0 x1j254 x9j254))))
def wj_Mo_change_247 (y : Ly) (Post : St → Int32 → Prop) (K_178 : St → Int32 → Int32 → Int32 → Int32 → Int32 → Int32 → Prop) (a0 : Nat) (s_j247 : St) (x1j247 : Int32) (x2j247 : Int32) (x3j247 : Int32) (x4j247 : Int32) (x5j247 : Int32) (x8j247 : Int32) (x9j247 : Int32) : Prop := wu_Mo_draftLine y (fun (s_14 : St) => wj_Mo_change_254 y Post K_178 a0 s_14 x1j247 x2j247 x3j247 x4j247 x5j247 x8j247 x9j247) s_j247 a0 x1j247 x9j247
def wj_Mo_change_235 (y : Ly) (Post : St → Int32 → Prop) (K_178 : St → Int32 → Int32 → Int32 → Int32 → Int32 → Int32 → Prop) (a0 : Nat) (s_j235 : St) (x1j235 : Int32) (x2j235 : Int32) (x3j235 : Int32) (x4j235 : Int32) (x5j235 : Int32) (x8j235 : Int32) (z0j235 : Int32) : Prop := ((¬ x2j235 = 0 → wj_Mo_change_247 y Post K_178 a0 s_j235 x1j235 x2j235 x3j235 x4j235 x5j235 x8j235 z0j235) ∧ (x2j235 = 0 → ((x8j235 = x3j235 → wj_Mo_change_254 y Post K_178 a0 s_j235 x1j235 x2j235 x3j235 x4j235 x5j235 x8j235 z0j235) ∧ (¬ (x8j235 = x3j235) → wj_Mo_change_247 y Post K_178 a0 s_j235 x1j235 x2j235 x3j235 x4j235 x5j235 x8j235 z0j235))))
def wj_Mo_change_233 (y : Ly) (Post : St → Int32 → Prop) (K_178 : St → Int32 → Int32 → Int32 → Int32 → Int32 → Int32 → Prop) (a0 : Nat) (s_j233 : St) (x1j233 : Int32) (x2j233 : Int32) (x3j233 : Int32) (x4j233 : Int32) (x5j233 : Int32) (x8j233 : Int32) : Prop := wj_Mo_change_235 y Post K_178 a0 s_j233 x1j233 x2j233 x3j233 x4j233 x5j233 x8j233 x8j233
def wj_Mo_change_217 (y : Ly) (Post : St → Int32 → Prop) (K_178 : St → Int32 → Int32 → Int32 → Int32 → Int32 → Int32 → Prop) (a0 : Nat) (s_j217 : St) (x1j217 : Int32) (x2j217 : Int32) (x3j217 : Int32) (x4j217 : Int32) (x5j217 : Int32) (x8j217 : Int32) : Prop := ((¬ x2j217 = 3 → wj_Mo_change_233 y Post K_178 a0 s_j217 x1j217 x2j217 x3j217 x4j217 x5j217 x8j217) ∧ (x2j217 = 3 → ((¬ x8j217 = x3j217 → wj_Mo_change_233 y Post K_178 a0 s_j217 x1j217 x2j217 x3j217 x4j217 x5j217 x8j217) ∧ (x8j217 = x3j217 → wj_Mo_change_235 y Post K_178 a0 s_j217 x1j217 x2j217 x3j217 x4j217 x5j217 x8j217 x4j217))))
def wj_Mo_change_201 (y : Ly) (Post : St → Int32 → Prop) (K_178 : St → Int32 → Int32 → Int32 → Int32 → Int32 → Int32 → Prop) (a0 : Nat) (s_j201 : St) (x1j201 : Int32) (x2j201 : Int32) (x3j201 : Int32) (x4j201 : Int32) (x5j201 : Int32) (x8j201 : Int32) : Prop := ((¬ x2j201 = 2 → wj_Mo_change_217 y Post K_178 a0 s_j201 x1j201 x2j201 x3j201 x4j201 x5j201 x8j201) ∧ (x2j201 = 2 → ((¬ x8j201 = x4j201 → wj_Mo_change_217 y Post K_178 a0 s_j201 x1j201 x2j201 x3j201 x4j201 x5j201 x8j201) ∧ (x8j201 = x4j201 → wj_Mo_change_235 y Post K_178 a0 s_j201 x1j201 x2j201 x3j201 x4j201 x5j201 x8j201 x3j201))))
def wb_Mo_change_178 (y : Ly) (Post : St → Int32 → Prop) (K_178 : St → Int32 → Int32 → Int32 → Int32 → Int32 → Int32 → Prop) (a0 : Nat) (s_h178 : St) (x1h178 : Int32) (x2h178 : Int32) (x3h178 : Int32) (x4h178 : Int32) (x5h178 : Int32) (x8h178 : Int32) : Prop := ((x5h178 ≤ x8h178 → (((sV s_h178 a0 123) ≤ 1200 → wu_Mo_keepDraft y (fun (s_10 : St) (r_9 : Int32) => Post s_10 r_9) s_h178 a0) ∧ (¬ ((sV s_h178 a0 123) ≤ 1200) → Post s_h178 (-3)))) ∧ (¬ (x5h178 ≤ x8h178) → ((¬ x2h178 = 2 → wj_Mo_change_201 y Post K_178 a0 s_h178 x1h178 x2h178 x3h178 x4h178 x5h178 x8h178) ∧ (x2h178 = 2 → ((¬ x8h178 = x3h178 → wj_Mo_change_201 y Post K_178 a0 s_h178 x1h178 x2h178 x3h178 x4h178 x5h178 x8h178) ∧ (x8h178 = x3h178 → wj_Mo_change_235 y Post K_178 a0 s_h178 x1h178 x2h178 x3h178 x4h178 x5h178 x8h178 x4h178))))))
def wl_Mo_change_178 (y : Ly) (Post : St → Int32 → Prop) (a0 : Nat) (s_h178 : St) (x1h178 : Int32) (x2h178 : Int32) (x3h178 : Int32) (x4h178 : Int32) (x5h178 : Int32) (x8h178 : Int32) : Prop := ∃ (I : St → Int32 → Int32 → Int32 → Int32 → Int32 → Int32 → Prop) (μ : St → Int32 → Int32 → Int32 → Int32 → Int32 → Int32 → Nat), I s_h178 x1h178 x2h178 x3h178 x4h178 x5h178 x8h178 ∧ ∀ (u : St) (t0 : Int32) (t1 : Int32) (t2 : Int32) (t3 : Int32) (t4 : Int32) (t5 : Int32), I u t0 t1 t2 t3 t4 t5 → wb_Mo_change_178 y Post (fun z t0q t1q t2q t3q t4q t5q => I z t0q t1q t2q t3q t4q t5q ∧ μ z t0q t1q t2q t3q t4q t5q < μ u t0 t1 t2 t3 t4 t5) a0 u t0 t1 t2 t3 t4 t5
def wj_Mo_change_170 (y : Ly) (Post : St → Int32 → Prop) (a0 : Nat) (s_j170 : St) (x1j170 : Int32) (x2j170 : Int32) (x3j170 : Int32) (x4j170 : Int32) (x5j170 : Int32) : Prop := xP (uV s_j170 a0 123 0) (fun s_8 : St => wl_Mo_change_178 y Post a0 s_8 x1j170 x2j170 x3j170 x4j170 x5j170 0)
def wj_Mo_change_155 (y : Ly) (Post : St → Int32 → Prop) (a0 : Nat) (s_j155 : St) (x1j155 : Int32) (x2j155 : Int32) (x3j155 : Int32) (x4j155 : Int32) (x5j155 : Int32) : Prop := ((¬ x2j155 = 1 → wj_Mo_change_170 y Post a0 s_j155 x1j155 x2j155 x3j155 x4j155 x5j155) ∧ (x2j155 = 1 → ((¬ x5j155 = 60 → wj_Mo_change_170 y Post a0 s_j155 x1j155 x2j155 x3j155 x4j155 x5j155) ∧ (x5j155 = 60 → wj_Mo_change_167 y Post a0 s_j155))))
def wj_Mo_change_129 (y : Ly) (Post : St → Int32 → Prop) (a0 : Nat) (s_j129 : St) (x1j129 : Int32) (x2j129 : Int32) (x3j129 : Int32) (x4j129 : Int32) (x5j129 : Int32) (x6j129 : Int32) : Prop := (((sV s_j129 a0 121) = 40 → wj_Mo_change_167 y Post a0 s_j129) ∧ (¬ ((sV s_j129 a0 121) = 40) → ((x6j129 ≤ 1200 → wj_Mo_change_155 y Post a0 s_j129 x1j129 x2j129 x3j129 x4j129 x5j129) ∧ (¬ (x6j129 ≤ 1200) → ((x2j129 = 0 → wj_Mo_change_155 y Post a0 s_j129 x1j129 x2j129 x3j129 x4j129 x5j129) ∧ (¬ (x2j129 = 0) → ((¬ x2j129 = 2 → wj_Mo_change_167 y Post a0 s_j129) ∧ (x2j129 = 2 → wj_Mo_change_155 y Post a0 s_j129 x1j129 x2j129 x3j129 x4j129 x5j129))))))))
def wj_Mo_change_59 (y : Ly) (Post : St → Int32 → Prop) (a0 : Nat) (s_j59 : St) (x1j59 : Int32) (x2j59 : Int32) (x3j59 : Int32) (x4j59 : Int32) (x5j59 : Int32) : Prop := xA y s_j59 a0 117 x1j59 (fun x_5 : Int32 => xA y s_j59 a0 130 (x3j59 + 1) (fun x_6 : Int32 => xA y s_j59 a0 130 x3j59 (fun x_7 : Int32 => ((¬ x2j59 = 1 → ((¬ x2j59 = 3 → wj_Mo_change_129 y Post a0 s_j59 x1j59 x2j59 x3j59 x4j59 x5j59 x_5) ∧ (x2j59 = 3 → xA y s_j59 a0 130 (x4j59 + 1) (fun x_15 : Int32 => xA y s_j59 a0 130 x4j59 (fun x_16 : Int32 => wj_Mo_change_129 y Post a0 s_j59 x1j59 x2j59 x3j59 x4j59 x5j59 (x_5 + ((x_15 - x_16) - (x_6 - x_7)))))))) ∧ (x2j59 = 1 → wj_Mo_change_129 y Post a0 s_j59 x1j59 x2j59 x3j59 x4j59 x5j59 (x_5 + (x_6 - x_7)))))))
def wu_Mo_change (y : Ly) (Post : St → Int32 → Prop) (σ : St) (a0 : Nat) (v1 : Int32) (v2 : Int32) (v3 : Int32) (v4 : Int32) : Prop := wu_Mo_isTrial y (fun (s_2 : St) (r_1 : Int32) => ((r_1 = 0 → wj_Mo_change_17 y Post a0 s_2) ∧ (¬ (r_1 = 0) → ((v2 < 0 → wj_Mo_change_17 y Post a0 s_2) ∧ (¬ (v2 < 0) → ((v2 ≤ 3 → wu_Mo_linesOf y (fun (s_4 : St) (r_3 : Int32) => ((v3 < 0 → wj_Mo_change_57 y Post a0 s_4) ∧ (¬ (v3 < 0) → (((r_3 - 1) ≤ v3 → wj_Mo_change_57 y Post a0 s_4) ∧ (¬ ((r_3 - 1) ≤ v3) → ((v2 ≤ 1 → wj_Mo_change_59 y Post a0 s_4 v1 v2 v3 v4 r_3) ∧ (¬ (v2 ≤ 1) → ((v4 < 0 → wj_Mo_change_57 y Post a0 s_4) ∧ (¬ (v4 < 0) → ((v4 < (r_3 - 1) → wj_Mo_change_59 y Post a0 s_4 v1 v2 v3 v4 r_3) ∧ (¬ (v4 < (r_3 - 1)) → wj_Mo_change_57 y Post a0 s_4))))))))))) s_2 a0 v1) ∧ (¬ (v2 ≤ 3) → wj_Mo_change_17 y Post a0 s_2))))))) σ a0 v1
set_option maxHeartbeats 4000000 in
set_option maxRecDepth 100000 in
theorem cu_Mo_change (l : Launch) (D : va_G) (g : Nat → ClassId) (ad : Nat → Nat) (y : Ly) (Post : St → Int32 → Prop) (σ : St) (a0 : Nat) (v1 : Int32) (v2 : Int32) (v3 : Int32) (v4 : Int32) (sz : Nat) (h_a0 : cl a0 = 14) (h : wu_Mo_change y Post σ a0 v1 v2 v3 v4) : Met l y_Mo_change (mw y_Mo_change b_Mo_change 10 (some .int)) ru_Mo_change (PC g D [] [.ref (ad a0), .int v1, .int v2, .int v3, .int v4] sz (ws g ad y σ)) (va_Qi (fun (r : Int32) (u : St) => Post u r) (QW D (va_A (ws g ad y σ) sz) (fun u => ws g ad y u)) (va_A (ws g ad y σ) sz)) 0 0 (va_A (ws g ad y σ) sz) := by
  refine ofI (by decide +kernel) (Nat.le_of_ble_eq_true rfl) ?_
  intro p e s m args below meth c A Q ls H locs G hsz hP hD hS hl hret
  subst hsz
  have hl : lv_has ls 10 [(0, .ref (ad a0)), (1, .int v1), (2, .int v2), (3, .int v3), (4, .int v4)] := hl
  unfold wu_Mo_change at h
  refine lv_aload_n G.1 G.2.1 d_Mo_change_0 rfl (lv_at hl 0 rfl) ?_
  refine lv_iload_n G.1 G.2.1 d_Mo_change_1 rfl (lv_at hl 1 rfl) ?_
  refine ucVi (As := [.int v1]) (rest := []) G hP hD hS (cu_Mo_isTrial l D g ad y _ σ a0 v1 H.size h_a0 h) w9_Mo_isTrial q4224 ⟨Nat.le_of_ble_eq_true rfl, Nat.le_of_ble_eq_true rfl⟩ rfl rfl h_a0 (q := (RMo, TMo, 131)) rfl rfl hl.1 rfl (Nat.le_of_ble_eq_true rfl) rfl ⟨Nat.le_refl _, Nat.le_refl _⟩ d_Mo_change_2 (fun r_1 s_2 H locs h hP hD hS => ?_)
  have J_17 : ∀ (s_j17 : St) (H : Heap) (locs : List Loc), wj_Mo_change_17 y Post a0 s_j17 → va_P D CL (ws g ad y s_j17) H → va_D A (ws g ad y s_j17) → va_S A s.heap H locs → ∀ ls, lv_has ls 10 [] → W p l e ru_Mo_change s m args below meth c H locs 0 0 Q (F0 m 17 ls []) := by
    intro s_j17 H locs h hP hD hS ls hl
    unfold wj_Mo_change_17 at h
    refine lv_iconst (v := (-1)) G.1 G.2.1 d_Mo_change_17 (by decide) ?_
    exact hret _ _ _ _ _ _ _ ls h hP hD hS (Nat.le_refl _) (Nat.le_refl _) d_Mo_change_18
  refine lv_if_eq (tgt := 17) G.1 G.2.1 d_Mo_change_5 (by decide) (fun c5 => ?_) (fun c5 => ?_)
  · skip
    have h := h.1 c5
    exact J_17 s_2 H locs h hP hD hS ls (lv_sub hl [] rfl)
  · skip
    have h := h.2 c5
    refine lv_iload_n G.1 G.2.1 d_Mo_change_8 rfl (lv_at hl 2 rfl) ?_
    refine lv_if_lt (tgt := 17) G.1 G.2.1 d_Mo_change_9 (by decide) (fun c9 => ?_) (fun c9 => ?_)
    · skip
      have h := h.1 c9
      exact J_17 s_2 H locs h hP hD hS ls (lv_sub hl [] rfl)
    · skip
      have h := h.2 c9
      refine lv_iload_n G.1 G.2.1 d_Mo_change_12 rfl (lv_at hl 2 rfl) ?_
      refine lv_iconst (v := 3) G.1 G.2.1 d_Mo_change_13 (by decide) ?_
      refine lv_icmp_le (tgt := 19) G.1 G.2.1 d_Mo_change_14 (by decide) (fun c14 => ?_) (fun c14 => ?_)
      · skip
        have h := h.1 c14
        refine lv_aload_n G.1 G.2.1 d_Mo_change_19 rfl (lv_at hl 0 rfl) ?_
        refine lv_iload_n G.1 G.2.1 d_Mo_change_20 rfl (lv_at hl 1 rfl) ?_
        refine W.eq (g2 := F0 m 21 ls [.int v1, .ref (ad a0)]) rfl ?_
        refine ucVi (As := [.int v1]) (rest := []) G hP hD hS (cu_Mo_linesOf l D g ad y _ s_2 a0 v1 H.size h_a0 h) w9_Mo_linesOf q4275 ⟨Nat.le_of_ble_eq_true rfl, Nat.le_of_ble_eq_true rfl⟩ rfl rfl h_a0 (q := (RMo, TMo, 131)) rfl rfl hl.1 rfl (Nat.le_of_ble_eq_true rfl) rfl ⟨Nat.le_refl _, Nat.le_refl _⟩ d_Mo_change_21 (fun r_3 s_4 H locs h hP hD hS => ?_)
        refine lv_istore (lv' := [(5, .int r_3), (0, .ref (ad a0)), (1, .int v1), (2, .int v2), (3, .int v3), (4, .int v4)]) G.1 G.2.1 d_Mo_change_24 hl (by decide) rfl (fun ls hl => ?_)
        refine lv_iload_n G.1 G.2.1 d_Mo_change_26 rfl (lv_at hl 4 rfl) ?_
        have J_57 : ∀ (s_j57 : St) (H : Heap) (locs : List Loc), wj_Mo_change_57 y Post a0 s_j57 → va_P D CL (ws g ad y s_j57) H → va_D A (ws g ad y s_j57) → va_S A s.heap H locs → ∀ ls, lv_has ls 10 [] → W p l e ru_Mo_change s m args below meth c H locs 0 0 Q (F0 m 57 ls []) := by
          intro s_j57 H locs h hP hD hS ls hl
          unfold wj_Mo_change_57 at h
          refine lv_iconst (v := (-1)) G.1 G.2.1 d_Mo_change_57 (by decide) ?_
          exact hret _ _ _ _ _ _ _ ls h hP hD hS (Nat.le_refl _) (Nat.le_refl _) d_Mo_change_58
        refine lv_if_lt (tgt := 57) G.1 G.2.1 d_Mo_change_27 (by decide) (fun c27 => ?_) (fun c27 => ?_)
        · skip
          have h := h.1 c27
          exact J_57 s_4 H locs h hP hD hS ls (lv_sub hl [] rfl)
        · skip
          have h := h.2 c27
          refine lv_iload_n G.1 G.2.1 d_Mo_change_30 rfl (lv_at hl 4 rfl) ?_
          refine lv_iload G.1 G.2.1 d_Mo_change_31 (lv_at hl 0 rfl) ?_
          refine lv_iconst (v := 1) G.1 G.2.1 d_Mo_change_33 (by decide) ?_
          refine lv_isub G.1 G.2.1 d_Mo_change_34 ?_
          refine lv_icmp_ge (tgt := 57) G.1 G.2.1 d_Mo_change_35 (by decide) (fun c35 => ?_) (fun c35 => ?_)
          · skip
            have h := h.1 c35
            exact J_57 s_4 H locs h hP hD hS ls (lv_sub hl [] rfl)
          · skip
            have h := h.2 c35
            refine lv_iload_n G.1 G.2.1 d_Mo_change_38 rfl (lv_at hl 3 rfl) ?_
            refine lv_iconst (v := 1) G.1 G.2.1 d_Mo_change_39 (by decide) ?_
            have J_59 : ∀ (s_j59 : St) (x1j59 : Int32) (x2j59 : Int32) (x3j59 : Int32) (x4j59 : Int32) (x5j59 : Int32) (H : Heap) (locs : List Loc), wj_Mo_change_59 y Post a0 s_j59 x1j59 x2j59 x3j59 x4j59 x5j59 → va_P D CL (ws g ad y s_j59) H → va_D A (ws g ad y s_j59) → va_S A s.heap H locs → ∀ ls, lv_has ls 10 [(0, .ref (ad a0)), (1, .int x1j59), (2, .int x2j59), (3, .int x3j59), (4, .int x4j59), (5, .int x5j59)] → W p l e ru_Mo_change s m args below meth c H locs 0 0 Q (F0 m 59 ls []) := by
              intro s_j59 x1j59 x2j59 x3j59 x4j59 x5j59 H locs h hP hD hS ls hl
              unfold wj_Mo_change_59 at h
              refine lv_aload_n G.1 G.2.1 d_Mo_change_59 rfl (lv_at hl 0 rfl) ?_
              refine ugf (v := .ref (yP y a0 117)) G hP h_a0 iMo rfl 117 (by decide) rfl q3181 rfl rfl d_Mo_change_60 ?_
              refine lv_iload_n G.1 G.2.1 d_Mo_change_63 rfl (lv_at hl 1 rfl) ?_
              refine uiald G hP (kdp h_a0 rfl) (typ h_a0 rfl) h d_Mo_change_64 (fun x_5 h => ?_)
              refine lv_istore (lv' := [(6, .int x_5), (0, .ref (ad a0)), (1, .int x1j59), (2, .int x2j59), (3, .int x3j59), (4, .int x4j59), (5, .int x5j59)]) G.1 G.2.1 d_Mo_change_65 hl (by decide) rfl (fun ls hl => ?_)
              refine lv_aload_n G.1 G.2.1 d_Mo_change_67 rfl (lv_at hl 1 rfl) ?_
              refine ugf (v := .ref (yP y a0 130)) G hP h_a0 iMo rfl 130 (by decide) rfl q3194 rfl rfl d_Mo_change_68 ?_
              refine lv_iload_n G.1 G.2.1 d_Mo_change_71 rfl (lv_at hl 4 rfl) ?_
              refine lv_iconst (v := 1) G.1 G.2.1 d_Mo_change_72 (by decide) ?_
              refine lv_iadd G.1 G.2.1 d_Mo_change_73 ?_
              refine uiald G hP (kdp h_a0 rfl) (typ h_a0 rfl) h d_Mo_change_74 (fun x_6 h => ?_)
              refine W.eq (g2 := F0 m 75 ls [.int x_6]) rfl ?_
              refine lv_aload_n G.1 G.2.1 d_Mo_change_75 rfl (lv_at hl 1 rfl) ?_
              refine ugf (v := .ref (yP y a0 130)) G hP h_a0 iMo rfl 130 (by decide) rfl q3194 rfl rfl d_Mo_change_76 ?_
              refine lv_iload_n G.1 G.2.1 d_Mo_change_79 rfl (lv_at hl 4 rfl) ?_
              refine uiald G hP (kdp h_a0 rfl) (typ h_a0 rfl) h d_Mo_change_80 (fun x_7 h => ?_)
              refine lv_isub G.1 G.2.1 d_Mo_change_81 ?_
              refine lv_istore (lv' := [(7, .int (x_6 - x_7)), (6, .int x_5), (0, .ref (ad a0)), (1, .int x1j59), (2, .int x2j59), (3, .int x3j59), (4, .int x4j59), (5, .int x5j59)]) G.1 G.2.1 d_Mo_change_82 hl (by decide) rfl (fun ls hl => ?_)
              refine lv_iload_n G.1 G.2.1 d_Mo_change_84 rfl (lv_at hl 4 rfl) ?_
              refine lv_iconst (v := 1) G.1 G.2.1 d_Mo_change_85 (by decide) ?_
              have J_129 : ∀ (s_j129 : St) (x1j129 : Int32) (x2j129 : Int32) (x3j129 : Int32) (x4j129 : Int32) (x5j129 : Int32) (x6j129 : Int32) (H : Heap) (locs : List Loc), wj_Mo_change_129 y Post a0 s_j129 x1j129 x2j129 x3j129 x4j129 x5j129 x6j129 → va_P D CL (ws g ad y s_j129) H → va_D A (ws g ad y s_j129) → va_S A s.heap H locs → ∀ ls, lv_has ls 10 [(0, .ref (ad a0)), (1, .int x1j129), (2, .int x2j129), (3, .int x3j129), (4, .int x4j129), (5, .int x5j129), (6, .int x6j129)] → W p l e ru_Mo_change s m args below meth c H locs 0 0 Q (F0 m 129 ls []) := by
                intro s_j129 x1j129 x2j129 x3j129 x4j129 x5j129 x6j129 H locs h hP hD hS ls hl
                unfold wj_Mo_change_129 at h
                refine lv_aload_n G.1 G.2.1 d_Mo_change_129 rfl (lv_at hl 0 rfl) ?_
                refine ugf (v := .int (sV s_j129 a0 121)) G hP h_a0 iMo rfl 121 (by decide) rfl q3185 rfl rfl d_Mo_change_130 ?_
                refine lv_bipush (v := 40) G.1 G.2.1 d_Mo_change_133 (by decide) ?_
                have J_167 : ∀ (s_j167 : St) (H : Heap) (locs : List Loc), wj_Mo_change_167 y Post a0 s_j167 → va_P D CL (ws g ad y s_j167) H → va_D A (ws g ad y s_j167) → va_S A s.heap H locs → ∀ ls, lv_has ls 10 [] → W p l e ru_Mo_change s m args below meth c H locs 0 0 Q (F0 m 167 ls []) := by
                  intro s_j167 H locs h hP hD hS ls hl
                  unfold wj_Mo_change_167 at h
                  refine lv_bipush (v := (-3)) G.1 G.2.1 d_Mo_change_167 (by decide) ?_
                  exact hret _ _ _ _ _ _ _ ls h hP hD hS (Nat.le_refl _) (Nat.le_refl _) d_Mo_change_169
                refine lv_icmp_eq (tgt := 167) G.1 G.2.1 d_Mo_change_135 (by decide) (fun c135 => ?_) (fun c135 => ?_)
                · skip
                  have h := h.1 c135
                  exact J_167 s_j129 H locs h hP hD hS ls (lv_sub hl [] rfl)
                · skip
                  have h := h.2 c135
                  refine lv_iload G.1 G.2.1 d_Mo_change_138 (lv_at hl 6 rfl) ?_
                  refine lv_sipush (v := 1200) G.1 G.2.1 d_Mo_change_140 (by decide) ?_
                  have J_155 : ∀ (s_j155 : St) (x1j155 : Int32) (x2j155 : Int32) (x3j155 : Int32) (x4j155 : Int32) (x5j155 : Int32) (H : Heap) (locs : List Loc), wj_Mo_change_155 y Post a0 s_j155 x1j155 x2j155 x3j155 x4j155 x5j155 → va_P D CL (ws g ad y s_j155) H → va_D A (ws g ad y s_j155) → va_S A s.heap H locs → ∀ ls, lv_has ls 10 [(0, .ref (ad a0)), (1, .int x1j155), (2, .int x2j155), (3, .int x3j155), (4, .int x4j155), (5, .int x5j155)] → W p l e ru_Mo_change s m args below meth c H locs 0 0 Q (F0 m 155 ls []) := by
                    intro s_j155 x1j155 x2j155 x3j155 x4j155 x5j155 H locs h hP hD hS ls hl
                    unfold wj_Mo_change_155 at h
                    refine lv_iload_n G.1 G.2.1 d_Mo_change_155 rfl (lv_at hl 2 rfl) ?_
                    refine lv_iconst (v := 1) G.1 G.2.1 d_Mo_change_156 (by decide) ?_
                    have J_170 : ∀ (s_j170 : St) (x1j170 : Int32) (x2j170 : Int32) (x3j170 : Int32) (x4j170 : Int32) (x5j170 : Int32) (H : Heap) (locs : List Loc), wj_Mo_change_170 y Post a0 s_j170 x1j170 x2j170 x3j170 x4j170 x5j170 → va_P D CL (ws g ad y s_j170) H → va_D A (ws g ad y s_j170) → va_S A s.heap H locs → ∀ ls, lv_has ls 10 [(0, .ref (ad a0)), (1, .int x1j170), (2, .int x2j170), (3, .int x3j170), (4, .int x4j170), (5, .int x5j170)] → W p l e ru_Mo_change s m args below meth c H locs 0 0 Q (F0 m 170 ls []) := by
                      intro s_j170 x1j170 x2j170 x3j170 x4j170 x5j170 H locs h hP hD hS ls hl
                      unfold wj_Mo_change_170 at h
                      refine lv_aload_n G.1 G.2.1 d_Mo_change_170 rfl (lv_at hl 0 rfl) ?_
                      refine lv_iconst (v := 0) G.1 G.2.1 d_Mo_change_171 (by decide) ?_
                      refine upf G hP hD hS h 123 putV h_a0 iMo tMo tMo_ok nMo rfl (by decide) rfl q3187 rfl rfl fV rfl rfl d_Mo_change_172 (fun s_8 H locs h hP hD hS => ?_)
                      refine lv_iconst (v := 0) G.1 G.2.1 d_Mo_change_175 (by decide) ?_
                      refine lv_istore (lv' := [(8, .int 0), (0, .ref (ad a0)), (1, .int x1j170), (2, .int x2j170), (3, .int x3j170), (4, .int x4j170), (5, .int x5j170)]) G.1 G.2.1 d_Mo_change_176 hl (by decide) rfl (fun ls hl => ?_)
                      unfold wl_Mo_change_178 at h
                      obtain ⟨I_178, μ_178, hI_178, hB_178⟩ := h
                      have L_178 : ∀ (n_178 : Nat) (s_h178 : St) (x1h178 : Int32) (x2h178 : Int32) (x3h178 : Int32) (x4h178 : Int32) (x5h178 : Int32) (x8h178 : Int32), μ_178 s_h178 x1h178 x2h178 x3h178 x4h178 x5h178 x8h178 < n_178 → I_178 s_h178 x1h178 x2h178 x3h178 x4h178 x5h178 x8h178 → ∀ (H : Heap) (locs : List Loc), va_P D CL (ws g ad y s_h178) H → va_D A (ws g ad y s_h178) → va_S A s.heap H locs → ∀ ls, lv_has ls 10 [(0, .ref (ad a0)), (1, .int x1h178), (2, .int x2h178), (3, .int x3h178), (4, .int x4h178), (5, .int x5h178), (8, .int x8h178)] → W p l e ru_Mo_change s m args below meth c H locs 0 0 Q (F0 m 178 ls []) := by
                        intro n_178
                        induction n_178 with
                        | zero => intro s_h178 x1h178 x2h178 x3h178 x4h178 x5h178 x8h178 hμ; exact absurd hμ (Nat.not_lt_zero _)
                        | succ n_178 ih_178 =>
                          intro s_h178 x1h178 x2h178 x3h178 x4h178 x5h178 x8h178 hμ_178 hJ H locs hP hD hS ls hl
                          obtain ⟨K_178, hK_178, h⟩ : ∃ K : St → Int32 → Int32 → Int32 → Int32 → Int32 → Int32 → Prop, (∀ z (t0 : Int32) (t1 : Int32) (t2 : Int32) (t3 : Int32) (t4 : Int32) (t5 : Int32), K z t0 t1 t2 t3 t4 t5 → I_178 z t0 t1 t2 t3 t4 t5 ∧ μ_178 z t0 t1 t2 t3 t4 t5 < μ_178 s_h178 x1h178 x2h178 x3h178 x4h178 x5h178 x8h178) ∧ wb_Mo_change_178 y Post K a0 s_h178 x1h178 x2h178 x3h178 x4h178 x5h178 x8h178 := ⟨_, fun _ _ _ _ _ _ _ h => h, hB_178 s_h178 x1h178 x2h178 x3h178 x4h178 x5h178 x8h178 hJ⟩
                          unfold wb_Mo_change_178 at h
                          refine lv_iload G.1 G.2.1 d_Mo_change_178 (lv_at hl 6 rfl) ?_
                          refine lv_iload G.1 G.2.1 d_Mo_change_180 (lv_at hl 5 rfl) ?_
                          refine lv_icmp_ge (tgt := 278) G.1 G.2.1 d_Mo_change_182 (by decide) (fun c182 => ?_) (fun c182 => ?_)
                          · skip
                            have h := h.1 c182
                            refine lv_aload_n G.1 G.2.1 d_Mo_change_278 rfl (lv_at hl 0 rfl) ?_
                            refine ugf (v := .int (sV s_h178 a0 123)) G hP h_a0 iMo rfl 123 (by decide) rfl q3187 rfl rfl d_Mo_change_279 ?_
                            refine lv_sipush (v := 1200) G.1 G.2.1 d_Mo_change_282 (by decide) ?_
                            refine lv_icmp_le (tgt := 291) G.1 G.2.1 d_Mo_change_285 (by decide) (fun c285 => ?_) (fun c285 => ?_)
                            · skip
                              have h := h.1 c285
                              refine lv_aload_n G.1 G.2.1 d_Mo_change_291 rfl (lv_at hl 0 rfl) ?_
                              refine ucVi (As := []) (rest := []) G hP hD hS (cu_Mo_keepDraft l D g ad y _ s_h178 a0 H.size h_a0 h) w9_Mo_keepDraft q4216 ⟨Nat.le_of_ble_eq_true rfl, Nat.le_of_ble_eq_true rfl⟩ rfl rfl h_a0 (q := (RMo, TMo, 131)) rfl rfl hl.1 rfl (Nat.le_of_ble_eq_true rfl) rfl ⟨Nat.le_refl _, Nat.le_refl _⟩ d_Mo_change_292 (fun r_9 s_10 H locs h hP hD hS => ?_)
                              exact hret _ _ _ _ _ _ _ ls h hP hD hS (Nat.le_refl _) (Nat.le_refl _) d_Mo_change_295
                            · skip
                              have h := h.2 c285
                              refine lv_bipush (v := (-3)) G.1 G.2.1 d_Mo_change_288 (by decide) ?_
                              exact hret _ _ _ _ _ _ _ ls h hP hD hS (Nat.le_refl _) (Nat.le_refl _) d_Mo_change_290
                          · skip
                            have h := h.2 c182
                            refine lv_iload_n G.1 G.2.1 d_Mo_change_185 rfl (lv_at hl 2 rfl) ?_
                            refine lv_iconst (v := 2) G.1 G.2.1 d_Mo_change_186 (by decide) ?_
                            have J_235 : ∀ (s_j235 : St) (x1j235 : Int32) (x2j235 : Int32) (x3j235 : Int32) (x4j235 : Int32) (x5j235 : Int32) (x8j235 : Int32) (z0j235 : Int32) (H : Heap) (locs : List Loc), wj_Mo_change_235 y Post K_178 a0 s_j235 x1j235 x2j235 x3j235 x4j235 x5j235 x8j235 z0j235 → va_P D CL (ws g ad y s_j235) H → va_D A (ws g ad y s_j235) → va_S A s.heap H locs → ∀ ls, lv_has ls 10 [(0, .ref (ad a0)), (1, .int x1j235), (2, .int x2j235), (3, .int x3j235), (4, .int x4j235), (5, .int x5j235), (8, .int x8j235)] → W p l e ru_Mo_change s m args below meth c H locs 0 0 Q (F0 m 235 ls [.int z0j235]) := by
                              intro s_j235 x1j235 x2j235 x3j235 x4j235 x5j235 x8j235 z0j235 H locs h hP hD hS ls hl
                              unfold wj_Mo_change_235 at h
                              refine lv_istore (lv' := [(9, .int z0j235), (0, .ref (ad a0)), (1, .int x1j235), (2, .int x2j235), (3, .int x3j235), (4, .int x4j235), (5, .int x5j235), (8, .int x8j235)]) G.1 G.2.1 d_Mo_change_235 hl (by decide) rfl (fun ls hl => ?_)
                              refine lv_iload_n G.1 G.2.1 d_Mo_change_237 rfl (lv_at hl 3 rfl) ?_
                              have J_254 : ∀ (s_j254 : St) (x1j254 : Int32) (x2j254 : Int32) (x3j254 : Int32) (x4j254 : Int32) (x5j254 : Int32) (x8j254 : Int32) (x9j254 : Int32) (H : Heap) (locs : List Loc), wj_Mo_change_254 y Post K_178 a0 s_j254 x1j254 x2j254 x3j254 x4j254 x5j254 x8j254 x9j254 → va_P D CL (ws g ad y s_j254) H → va_D A (ws g ad y s_j254) → va_S A s.heap H locs → ∀ ls, lv_has ls 10 [(0, .ref (ad a0)), (1, .int x1j254), (2, .int x2j254), (3, .int x3j254), (4, .int x4j254), (5, .int x5j254), (8, .int x8j254), (9, .int x9j254)] → W p l e ru_Mo_change s m args below meth c H locs 0 0 Q (F0 m 254 ls []) := by
                                intro s_j254 x1j254 x2j254 x3j254 x4j254 x5j254 x8j254 x9j254 H locs h hP hD hS ls hl
                                unfold wj_Mo_change_254 at h
                                refine lv_iload_n G.1 G.2.1 d_Mo_change_254 rfl (lv_at hl 2 rfl) ?_
                                refine lv_iconst (v := 1) G.1 G.2.1 d_Mo_change_255 (by decide) ?_
                                have J_272 : ∀ (s_j272 : St) (x1j272 : Int32) (x2j272 : Int32) (x3j272 : Int32) (x4j272 : Int32) (x5j272 : Int32) (x8j272 : Int32) (H : Heap) (locs : List Loc), wj_Mo_change_272 y Post K_178 a0 s_j272 x1j272 x2j272 x3j272 x4j272 x5j272 x8j272 → va_P D CL (ws g ad y s_j272) H → va_D A (ws g ad y s_j272) → va_S A s.heap H locs → ∀ ls, lv_has ls 10 [(0, .ref (ad a0)), (1, .int x1j272), (2, .int x2j272), (3, .int x3j272), (4, .int x4j272), (5, .int x5j272), (8, .int x8j272)] → W p l e ru_Mo_change s m args below meth c H locs 0 0 Q (F0 m 272 ls []) := by
                                  intro s_j272 x1j272 x2j272 x3j272 x4j272 x5j272 x8j272 H locs h hP hD hS ls hl
                                  unfold wj_Mo_change_272 at h
                                  refine lv_iinc (v := x8j272 + 1) (lv' := [(8, .int (x8j272 + 1)), (0, .ref (ad a0)), (1, .int x1j272), (2, .int x2j272), (3, .int x3j272), (4, .int x4j272), (5, .int x5j272)]) G.1 G.2.1 d_Mo_change_272 hl (k := 6) rfl rfl (by decide) rfl (fun ls hl => ?_)
                                  refine lv_goto (tgt := 178) G.1 G.2.1 d_Mo_change_275 (by decide) ?_
                                  have h := hK_178 s_j272 x1j272 x2j272 x3j272 x4j272 x5j272 (x8j272 + 1) h
                                  exact ih_178 s_j272 x1j272 x2j272 x3j272 x4j272 x5j272 (x8j272 + 1) (Nat.lt_of_lt_of_le h.2 (Nat.le_of_lt_succ hμ_178)) h.1 H locs hP hD hS ls (lv_sub hl [1, 2, 3, 4, 5, 6, 0] rfl)
                                refine lv_icmp_ne (tgt := 272) G.1 G.2.1 d_Mo_change_256 (by decide) (fun c256 => ?_) (fun c256 => ?_)
                                · skip
                                  have h := h.1 c256
                                  exact J_272 s_j254 x1j254 x2j254 x3j254 x4j254 x5j254 x8j254 H locs h hP hD hS ls (lv_sub hl [0, 1, 2, 3, 4, 5, 6] rfl)
                                · skip
                                  have h := h.2 c256
                                  refine lv_iload G.1 G.2.1 d_Mo_change_259 (lv_at hl 6 rfl) ?_
                                  refine lv_iload_n G.1 G.2.1 d_Mo_change_261 rfl (lv_at hl 3 rfl) ?_
                                  refine lv_icmp_ne (tgt := 272) G.1 G.2.1 d_Mo_change_262 (by decide) (fun c262 => ?_) (fun c262 => ?_)
                                  · skip
                                    have h := h.1 c262
                                    exact J_272 s_j254 x1j254 x2j254 x3j254 x4j254 x5j254 x8j254 H locs h hP hD hS ls (lv_sub hl [0, 1, 2, 3, 4, 5, 6] rfl)
                                  · skip
                                    have h := h.2 c262
                                    refine lv_aload_n G.1 G.2.1 d_Mo_change_265 rfl (lv_at hl 0 rfl) ?_
                                    refine lv_iload_n G.1 G.2.1 d_Mo_change_266 rfl (lv_at hl 1 rfl) ?_
                                    refine lv_iload G.1 G.2.1 d_Mo_change_267 (lv_at hl 7 rfl) ?_
                                    refine ucVv (As := [.int x1j254, .int x9j254]) (rest := []) G hP hD hS (cu_Mo_draftLine l D g ad y _ s_j254 a0 x1j254 x9j254 H.size h_a0 h) w9_Mo_draftLine q4279 ⟨Nat.le_of_ble_eq_true rfl, Nat.le_of_ble_eq_true rfl⟩ rfl rfl h_a0 (q := (RMo, TMo, 131)) rfl rfl hl.1 rfl (Nat.le_of_ble_eq_true rfl) rfl ⟨Nat.le_refl _, Nat.le_refl _⟩ d_Mo_change_269 (fun s_12 H locs h hP hD hS => ?_)
                                    exact J_272 s_12 x1j254 x2j254 x3j254 x4j254 x5j254 x8j254 H locs h hP hD hS ls (lv_sub hl [0, 1, 2, 3, 4, 5, 6] rfl)
                              have J_247 : ∀ (s_j247 : St) (x1j247 : Int32) (x2j247 : Int32) (x3j247 : Int32) (x4j247 : Int32) (x5j247 : Int32) (x8j247 : Int32) (x9j247 : Int32) (H : Heap) (locs : List Loc), wj_Mo_change_247 y Post K_178 a0 s_j247 x1j247 x2j247 x3j247 x4j247 x5j247 x8j247 x9j247 → va_P D CL (ws g ad y s_j247) H → va_D A (ws g ad y s_j247) → va_S A s.heap H locs → ∀ ls, lv_has ls 10 [(0, .ref (ad a0)), (1, .int x1j247), (2, .int x2j247), (3, .int x3j247), (4, .int x4j247), (5, .int x5j247), (8, .int x8j247), (9, .int x9j247)] → W p l e ru_Mo_change s m args below meth c H locs 0 0 Q (F0 m 247 ls []) := by
                                intro s_j247 x1j247 x2j247 x3j247 x4j247 x5j247 x8j247 x9j247 H locs h hP hD hS ls hl
                                unfold wj_Mo_change_247 at h
                                refine lv_aload_n G.1 G.2.1 d_Mo_change_247 rfl (lv_at hl 0 rfl) ?_
                                refine lv_iload_n G.1 G.2.1 d_Mo_change_248 rfl (lv_at hl 1 rfl) ?_
                                refine lv_iload G.1 G.2.1 d_Mo_change_249 (lv_at hl 7 rfl) ?_
                                refine ucVv (As := [.int x1j247, .int x9j247]) (rest := []) G hP hD hS (cu_Mo_draftLine l D g ad y _ s_j247 a0 x1j247 x9j247 H.size h_a0 h) w9_Mo_draftLine q4279 ⟨Nat.le_of_ble_eq_true rfl, Nat.le_of_ble_eq_true rfl⟩ rfl rfl h_a0 (q := (RMo, TMo, 131)) rfl rfl hl.1 rfl (Nat.le_of_ble_eq_true rfl) rfl ⟨Nat.le_refl _, Nat.le_refl _⟩ d_Mo_change_251 (fun s_14 H locs h hP hD hS => ?_)
                                exact J_254 s_14 x1j247 x2j247 x3j247 x4j247 x5j247 x8j247 x9j247 H locs h hP hD hS ls (lv_sub hl [0, 1, 2, 3, 4, 5, 6, 7] rfl)
                              refine lv_if_ne (tgt := 247) G.1 G.2.1 d_Mo_change_238 (by decide) (fun c238 => ?_) (fun c238 => ?_)
                              · skip
                                have h := h.1 c238
                                exact J_247 s_j235 x1j235 x2j235 x3j235 x4j235 x5j235 x8j235 z0j235 H locs h hP hD hS ls (lv_sub hl [1, 2, 3, 4, 5, 6, 7, 0] rfl)
                              · skip
                                have h := h.2 c238
                                refine lv_iload G.1 G.2.1 d_Mo_change_241 (lv_at hl 7 rfl) ?_
                                refine lv_iload_n G.1 G.2.1 d_Mo_change_243 rfl (lv_at hl 4 rfl) ?_
                                refine lv_icmp_eq (tgt := 254) G.1 G.2.1 d_Mo_change_244 (by decide) (fun c244 => ?_) (fun c244 => ?_)
                                · skip
                                  have h := h.1 c244
                                  exact J_254 s_j235 x1j235 x2j235 x3j235 x4j235 x5j235 x8j235 z0j235 H locs h hP hD hS ls (lv_sub hl [1, 2, 3, 4, 5, 6, 7, 0] rfl)
                                · skip
                                  have h := h.2 c244
                                  exact J_247 s_j235 x1j235 x2j235 x3j235 x4j235 x5j235 x8j235 z0j235 H locs h hP hD hS ls (lv_sub hl [1, 2, 3, 4, 5, 6, 7, 0] rfl)
                            have J_201 : ∀ (s_j201 : St) (x1j201 : Int32) (x2j201 : Int32) (x3j201 : Int32) (x4j201 : Int32) (x5j201 : Int32) (x8j201 : Int32) (H : Heap) (locs : List Loc), wj_Mo_change_201 y Post K_178 a0 s_j201 x1j201 x2j201 x3j201 x4j201 x5j201 x8j201 → va_P D CL (ws g ad y s_j201) H → va_D A (ws g ad y s_j201) → va_S A s.heap H locs → ∀ ls, lv_has ls 10 [(0, .ref (ad a0)), (1, .int x1j201), (2, .int x2j201), (3, .int x3j201), (4, .int x4j201), (5, .int x5j201), (8, .int x8j201)] → W p l e ru_Mo_change s m args below meth c H locs 0 0 Q (F0 m 201 ls []) := by
                              intro s_j201 x1j201 x2j201 x3j201 x4j201 x5j201 x8j201 H locs h hP hD hS ls hl
                              unfold wj_Mo_change_201 at h
                              refine lv_iload_n G.1 G.2.1 d_Mo_change_201 rfl (lv_at hl 2 rfl) ?_
                              refine lv_iconst (v := 2) G.1 G.2.1 d_Mo_change_202 (by decide) ?_
                              have J_217 : ∀ (s_j217 : St) (x1j217 : Int32) (x2j217 : Int32) (x3j217 : Int32) (x4j217 : Int32) (x5j217 : Int32) (x8j217 : Int32) (H : Heap) (locs : List Loc), wj_Mo_change_217 y Post K_178 a0 s_j217 x1j217 x2j217 x3j217 x4j217 x5j217 x8j217 → va_P D CL (ws g ad y s_j217) H → va_D A (ws g ad y s_j217) → va_S A s.heap H locs → ∀ ls, lv_has ls 10 [(0, .ref (ad a0)), (1, .int x1j217), (2, .int x2j217), (3, .int x3j217), (4, .int x4j217), (5, .int x5j217), (8, .int x8j217)] → W p l e ru_Mo_change s m args below meth c H locs 0 0 Q (F0 m 217 ls []) := by
                                intro s_j217 x1j217 x2j217 x3j217 x4j217 x5j217 x8j217 H locs h hP hD hS ls hl
                                unfold wj_Mo_change_217 at h
                                refine lv_iload_n G.1 G.2.1 d_Mo_change_217 rfl (lv_at hl 2 rfl) ?_
                                refine lv_iconst (v := 3) G.1 G.2.1 d_Mo_change_218 (by decide) ?_
                                have J_233 : ∀ (s_j233 : St) (x1j233 : Int32) (x2j233 : Int32) (x3j233 : Int32) (x4j233 : Int32) (x5j233 : Int32) (x8j233 : Int32) (H : Heap) (locs : List Loc), wj_Mo_change_233 y Post K_178 a0 s_j233 x1j233 x2j233 x3j233 x4j233 x5j233 x8j233 → va_P D CL (ws g ad y s_j233) H → va_D A (ws g ad y s_j233) → va_S A s.heap H locs → ∀ ls, lv_has ls 10 [(0, .ref (ad a0)), (1, .int x1j233), (2, .int x2j233), (3, .int x3j233), (4, .int x4j233), (5, .int x5j233), (8, .int x8j233)] → W p l e ru_Mo_change s m args below meth c H locs 0 0 Q (F0 m 233 ls []) := by
                                  intro s_j233 x1j233 x2j233 x3j233 x4j233 x5j233 x8j233 H locs h hP hD hS ls hl
                                  unfold wj_Mo_change_233 at h
                                  refine lv_iload G.1 G.2.1 d_Mo_change_233 (lv_at hl 6 rfl) ?_
                                  exact J_235 s_j233 x1j233 x2j233 x3j233 x4j233 x5j233 x8j233 x8j233 H locs h hP hD hS ls (lv_sub hl [0, 1, 2, 3, 4, 5, 6] rfl)
                                refine lv_icmp_ne (tgt := 233) G.1 G.2.1 d_Mo_change_219 (by decide) (fun c219 => ?_) (fun c219 => ?_)
                                · skip
                                  have h := h.1 c219
                                  exact J_233 s_j217 x1j217 x2j217 x3j217 x4j217 x5j217 x8j217 H locs h hP hD hS ls (lv_sub hl [0, 1, 2, 3, 4, 5, 6] rfl)
                                · skip
                                  have h := h.2 c219
                                  refine lv_iload G.1 G.2.1 d_Mo_change_222 (lv_at hl 6 rfl) ?_
                                  refine lv_iload_n G.1 G.2.1 d_Mo_change_224 rfl (lv_at hl 3 rfl) ?_
                                  refine lv_icmp_ne (tgt := 233) G.1 G.2.1 d_Mo_change_225 (by decide) (fun c225 => ?_) (fun c225 => ?_)
                                  · skip
                                    have h := h.1 c225
                                    exact J_233 s_j217 x1j217 x2j217 x3j217 x4j217 x5j217 x8j217 H locs h hP hD hS ls (lv_sub hl [0, 1, 2, 3, 4, 5, 6] rfl)
                                  · skip
                                    have h := h.2 c225
                                    refine lv_iload G.1 G.2.1 d_Mo_change_228 (lv_at hl 4 rfl) ?_
                                    refine lv_goto (tgt := 235) G.1 G.2.1 d_Mo_change_230 (by decide) ?_
                                    exact J_235 s_j217 x1j217 x2j217 x3j217 x4j217 x5j217 x8j217 x4j217 H locs h hP hD hS ls (lv_sub hl [0, 1, 2, 3, 4, 5, 6] rfl)
                              refine lv_icmp_ne (tgt := 217) G.1 G.2.1 d_Mo_change_203 (by decide) (fun c203 => ?_) (fun c203 => ?_)
                              · skip
                                have h := h.1 c203
                                exact J_217 s_j201 x1j201 x2j201 x3j201 x4j201 x5j201 x8j201 H locs h hP hD hS ls (lv_sub hl [0, 1, 2, 3, 4, 5, 6] rfl)
                              · skip
                                have h := h.2 c203
                                refine lv_iload G.1 G.2.1 d_Mo_change_206 (lv_at hl 6 rfl) ?_
                                refine lv_iload G.1 G.2.1 d_Mo_change_208 (lv_at hl 4 rfl) ?_
                                refine lv_icmp_ne (tgt := 217) G.1 G.2.1 d_Mo_change_210 (by decide) (fun c210 => ?_) (fun c210 => ?_)
                                · skip
                                  have h := h.1 c210
                                  exact J_217 s_j201 x1j201 x2j201 x3j201 x4j201 x5j201 x8j201 H locs h hP hD hS ls (lv_sub hl [0, 1, 2, 3, 4, 5, 6] rfl)
                                · skip
                                  have h := h.2 c210
                                  refine lv_iload_n G.1 G.2.1 d_Mo_change_213 rfl (lv_at hl 3 rfl) ?_
                                  refine lv_goto (tgt := 235) G.1 G.2.1 d_Mo_change_214 (by decide) ?_
                                  exact J_235 s_j201 x1j201 x2j201 x3j201 x4j201 x5j201 x8j201 x3j201 H locs h hP hD hS ls (lv_sub hl [0, 1, 2, 3, 4, 5, 6] rfl)
                            refine lv_icmp_ne (tgt := 201) G.1 G.2.1 d_Mo_change_187 (by decide) (fun c187 => ?_) (fun c187 => ?_)
                            · skip
                              have h := h.1 c187
                              exact J_201 s_h178 x1h178 x2h178 x3h178 x4h178 x5h178 x8h178 H locs h hP hD hS ls (lv_sub hl [0, 1, 2, 3, 4, 5, 6] rfl)
                            · skip
                              have h := h.2 c187
                              refine lv_iload G.1 G.2.1 d_Mo_change_190 (lv_at hl 6 rfl) ?_
                              refine lv_iload_n G.1 G.2.1 d_Mo_change_192 rfl (lv_at hl 3 rfl) ?_
                              refine lv_icmp_ne (tgt := 201) G.1 G.2.1 d_Mo_change_193 (by decide) (fun c193 => ?_) (fun c193 => ?_)
                              · skip
                                have h := h.1 c193
                                exact J_201 s_h178 x1h178 x2h178 x3h178 x4h178 x5h178 x8h178 H locs h hP hD hS ls (lv_sub hl [0, 1, 2, 3, 4, 5, 6] rfl)
                              · skip
                                have h := h.2 c193
                                refine lv_iload G.1 G.2.1 d_Mo_change_196 (lv_at hl 4 rfl) ?_
                                refine lv_goto (tgt := 235) G.1 G.2.1 d_Mo_change_198 (by decide) ?_
                                exact J_235 s_h178 x1h178 x2h178 x3h178 x4h178 x5h178 x8h178 x4h178 H locs h hP hD hS ls (lv_sub hl [0, 1, 2, 3, 4, 5, 6] rfl)
                      exact L_178 _ s_8 x1j170 x2j170 x3j170 x4j170 x5j170 0 (Nat.lt_succ_self _) hI_178 H locs hP hD hS ls (lv_sub hl [1, 2, 3, 4, 5, 6, 0] rfl)
                    refine lv_icmp_ne (tgt := 170) G.1 G.2.1 d_Mo_change_157 (by decide) (fun c157 => ?_) (fun c157 => ?_)
                    · skip
                      have h := h.1 c157
                      exact J_170 s_j155 x1j155 x2j155 x3j155 x4j155 x5j155 H locs h hP hD hS ls (lv_sub hl [0, 1, 2, 3, 4, 5] rfl)
                    · skip
                      have h := h.2 c157
                      refine lv_iload G.1 G.2.1 d_Mo_change_160 (lv_at hl 5 rfl) ?_
                      refine lv_bipush (v := 60) G.1 G.2.1 d_Mo_change_162 (by decide) ?_
                      refine lv_icmp_ne (tgt := 170) G.1 G.2.1 d_Mo_change_164 (by decide) (fun c164 => ?_) (fun c164 => ?_)
                      · skip
                        have h := h.1 c164
                        exact J_170 s_j155 x1j155 x2j155 x3j155 x4j155 x5j155 H locs h hP hD hS ls (lv_sub hl [0, 1, 2, 3, 4, 5] rfl)
                      · skip
                        have h := h.2 c164
                        exact J_167 s_j155 H locs h hP hD hS ls (lv_sub hl [] rfl)
                  refine lv_icmp_le (tgt := 155) G.1 G.2.1 d_Mo_change_143 (by decide) (fun c143 => ?_) (fun c143 => ?_)
                  · skip
                    have h := h.1 c143
                    exact J_155 s_j129 x1j129 x2j129 x3j129 x4j129 x5j129 H locs h hP hD hS ls (lv_sub hl [0, 1, 2, 3, 4, 5] rfl)
                  · skip
                    have h := h.2 c143
                    refine lv_iload_n G.1 G.2.1 d_Mo_change_146 rfl (lv_at hl 2 rfl) ?_
                    refine lv_if_eq (tgt := 155) G.1 G.2.1 d_Mo_change_147 (by decide) (fun c147 => ?_) (fun c147 => ?_)
                    · skip
                      have h := h.1 c147
                      exact J_155 s_j129 x1j129 x2j129 x3j129 x4j129 x5j129 H locs h hP hD hS ls (lv_sub hl [0, 1, 2, 3, 4, 5] rfl)
                    · skip
                      have h := h.2 c147
                      refine lv_iload_n G.1 G.2.1 d_Mo_change_150 rfl (lv_at hl 2 rfl) ?_
                      refine lv_iconst (v := 2) G.1 G.2.1 d_Mo_change_151 (by decide) ?_
                      refine W.eq (g2 := F0 m 152 ls [.int 2, .int x2j129]) rfl ?_
                      refine lv_icmp_ne (tgt := 167) G.1 G.2.1 d_Mo_change_152 (by decide) (fun c152 => ?_) (fun c152 => ?_)
                      · skip
                        have h := h.1 c152
                        exact J_167 s_j129 H locs h hP hD hS ls (lv_sub hl [] rfl)
                      · skip
                        have h := h.2 c152
                        exact J_155 s_j129 x1j129 x2j129 x3j129 x4j129 x5j129 H locs h hP hD hS ls (lv_sub hl [0, 1, 2, 3, 4, 5] rfl)
              refine lv_icmp_ne (tgt := 99) G.1 G.2.1 d_Mo_change_86 (by decide) (fun c86 => ?_) (fun c86 => ?_)
              · skip
                have h := h.1 c86
                refine lv_iload_n G.1 G.2.1 d_Mo_change_99 rfl (lv_at hl 4 rfl) ?_
                refine lv_iconst (v := 3) G.1 G.2.1 d_Mo_change_100 (by decide) ?_
                refine lv_icmp_ne (tgt := 129) G.1 G.2.1 d_Mo_change_101 (by decide) (fun c101 => ?_) (fun c101 => ?_)
                · skip
                  have h := h.1 c101
                  exact J_129 s_j59 x1j59 x2j59 x3j59 x4j59 x5j59 x_5 H locs h hP hD hS ls (lv_sub hl [2, 3, 4, 5, 6, 7, 1] rfl)
                · skip
                  have h := h.2 c101
                  refine W.eq (g2 := F0 m 104 ls []) rfl ?_
                  refine lv_iload G.1 G.2.1 d_Mo_change_104 (lv_at hl 1 rfl) ?_
                  refine lv_aload_n G.1 G.2.1 d_Mo_change_106 rfl (lv_at hl 2 rfl) ?_
                  refine ugf (v := .ref (yP y a0 130)) G hP h_a0 iMo rfl 130 (by decide) rfl q3194 rfl rfl d_Mo_change_107 ?_
                  refine lv_iload G.1 G.2.1 d_Mo_change_110 (lv_at hl 6 rfl) ?_
                  refine lv_iconst (v := 1) G.1 G.2.1 d_Mo_change_112 (by decide) ?_
                  refine lv_iadd G.1 G.2.1 d_Mo_change_113 ?_
                  refine uiald G hP (kdp h_a0 rfl) (typ h_a0 rfl) h d_Mo_change_114 (fun x_15 h => ?_)
                  refine lv_aload_n G.1 G.2.1 d_Mo_change_115 rfl (lv_at hl 2 rfl) ?_
                  refine ugf (v := .ref (yP y a0 130)) G hP h_a0 iMo rfl 130 (by decide) rfl q3194 rfl rfl d_Mo_change_116 ?_
                  refine lv_iload G.1 G.2.1 d_Mo_change_119 (lv_at hl 6 rfl) ?_
                  refine uiald G hP (kdp h_a0 rfl) (typ h_a0 rfl) h d_Mo_change_121 (fun x_16 h => ?_)
                  refine lv_isub G.1 G.2.1 d_Mo_change_122 ?_
                  refine W.eq (g2 := F0 m 123 ls [.int (x_15 - x_16), .int x_5]) rfl ?_
                  refine lv_iload G.1 G.2.1 d_Mo_change_123 (lv_at hl 0 rfl) ?_
                  refine lv_isub G.1 G.2.1 d_Mo_change_125 ?_
                  refine lv_iadd G.1 G.2.1 d_Mo_change_126 ?_
                  refine lv_istore (lv' := [(6, .int (x_5 + ((x_15 - x_16) - (x_6 - x_7)))), (7, .int (x_6 - x_7)), (0, .ref (ad a0)), (1, .int x1j59), (2, .int x2j59), (3, .int x3j59), (4, .int x4j59), (5, .int x5j59)]) G.1 G.2.1 d_Mo_change_127 hl (by decide) rfl (fun ls hl => ?_)
                  exact J_129 s_j59 x1j59 x2j59 x3j59 x4j59 x5j59 (x_5 + ((x_15 - x_16) - (x_6 - x_7))) H locs h hP hD hS ls (lv_sub hl [2, 3, 4, 5, 6, 7, 0] rfl)
              · skip
                have h := h.2 c86
                refine lv_iload G.1 G.2.1 d_Mo_change_89 (lv_at hl 1 rfl) ?_
                refine lv_iload G.1 G.2.1 d_Mo_change_91 (lv_at hl 0 rfl) ?_
                refine lv_iadd G.1 G.2.1 d_Mo_change_93 ?_
                refine W.eq (g2 := F0 m 94 ls [.int (x_5 + (x_6 - x_7))]) rfl ?_
                refine lv_istore (lv' := [(6, .int (x_5 + (x_6 - x_7))), (7, .int (x_6 - x_7)), (0, .ref (ad a0)), (1, .int x1j59), (2, .int x2j59), (3, .int x3j59), (4, .int x4j59), (5, .int x5j59)]) G.1 G.2.1 d_Mo_change_94 hl (by decide) rfl (fun ls hl => ?_)
                refine lv_goto (tgt := 129) G.1 G.2.1 d_Mo_change_96 (by decide) ?_
                exact J_129 s_j59 x1j59 x2j59 x3j59 x4j59 x5j59 (x_5 + (x_6 - x_7)) H locs h hP hD hS ls (lv_sub hl [2, 3, 4, 5, 6, 7, 0] rfl)
            refine lv_icmp_le (tgt := 59) G.1 G.2.1 d_Mo_change_40 (by decide) (fun c40 => ?_) (fun c40 => ?_)
            · skip
              have h := h.1 c40
              exact J_59 s_4 v1 v2 v3 v4 r_3 H locs h hP hD hS ls (lv_sub hl [1, 2, 3, 4, 5, 0] rfl)
            · skip
              have h := h.2 c40
              refine W.eq (g2 := F0 m 43 ls []) rfl ?_
              refine lv_iload G.1 G.2.1 d_Mo_change_43 (lv_at hl 5 rfl) ?_
              refine lv_if_lt (tgt := 57) G.1 G.2.1 d_Mo_change_45 (by decide) (fun c45 => ?_) (fun c45 => ?_)
              · skip
                have h := h.1 c45
                exact J_57 s_4 H locs h hP hD hS ls (lv_sub hl [] rfl)
              · skip
                have h := h.2 c45
                refine lv_iload G.1 G.2.1 d_Mo_change_48 (lv_at hl 5 rfl) ?_
                refine lv_iload G.1 G.2.1 d_Mo_change_50 (lv_at hl 0 rfl) ?_
                refine lv_iconst (v := 1) G.1 G.2.1 d_Mo_change_52 (by decide) ?_
                refine lv_isub G.1 G.2.1 d_Mo_change_53 ?_
                refine lv_icmp_lt (tgt := 59) G.1 G.2.1 d_Mo_change_54 (by decide) (fun c54 => ?_) (fun c54 => ?_)
                · skip
                  have h := h.1 c54
                  exact J_59 s_4 v1 v2 v3 v4 r_3 H locs h hP hD hS ls (lv_sub hl [1, 2, 3, 4, 5, 0] rfl)
                · skip
                  have h := h.2 c54
                  exact J_57 s_4 H locs h hP hD hS ls (lv_sub hl [] rfl)
      · skip
        have h := h.2 c14
        exact J_17 s_2 H locs h hP hD hS ls (lv_sub hl [] rfl)
