def y_Ck_comes : MethodName := ⟨"ClassWorks$Checker", "comes", "(I)I"⟩
abbrev b_Ck_comes : ByteArray := prog_2_method_20_code
theorem d_Ck_comes_0 : decode b_Ck_comes 0 = .ok (.aload_n 0, 1) := by decide +kernel
theorem d_Ck_comes_1 : decode b_Ck_comes 1 = .ok (.getfield 43, 3) := by decide +kernel
theorem d_Ck_comes_4 : decode b_Ck_comes 4 = .ok (.bipush 50, 2) := by decide +kernel
theorem d_Ck_comes_6 : decode b_Ck_comes 6 = .ok (.if_icmp .lt 25, 3) := by decide +kernel
theorem d_Ck_comes_9 : decode b_Ck_comes 9 = .ok (.aload_n 0, 1) := by decide +kernel
theorem d_Ck_comes_10 : decode b_Ck_comes 10 = .ok (.getfield 43, 3) := by decide +kernel
theorem d_Ck_comes_13 : decode b_Ck_comes 13 = .ok (.bipush 53, 2) := by decide +kernel
theorem d_Ck_comes_15 : decode b_Ck_comes 15 = .ok (.if_icmp .gt 16, 3) := by decide +kernel
theorem d_Ck_comes_18 : decode b_Ck_comes 18 = .ok (.aload_n 0, 1) := by decide +kernel
theorem d_Ck_comes_19 : decode b_Ck_comes 19 = .ok (.getfield 74, 3) := by decide +kernel
theorem d_Ck_comes_22 : decode b_Ck_comes 22 = .ok (.aload_n 0, 1) := by decide +kernel
theorem d_Ck_comes_23 : decode b_Ck_comes 23 = .ok (.iconst 2, 1) := by decide +kernel
theorem d_Ck_comes_24 : decode b_Ck_comes 24 = .ok (.invokevirtual 172, 3) := by decide +kernel
theorem d_Ck_comes_27 : decode b_Ck_comes 27 = .ok (.invokevirtual 88, 3) := by decide +kernel
theorem d_Ck_comes_30 : decode b_Ck_comes 30 = .ok (.ireturn, 1) := by decide +kernel
theorem d_Ck_comes_31 : decode b_Ck_comes 31 = .ok (.ldc 223, 2) := by decide +kernel
theorem d_Ck_comes_33 : decode b_Ck_comes 33 = .ok (.aload_n 0, 1) := by decide +kernel
theorem d_Ck_comes_34 : decode b_Ck_comes 34 = .ok (.getfield 43, 3) := by decide +kernel
theorem d_Ck_comes_37 : decode b_Ck_comes 37 = .ok (.invokevirtual 122, 3) := by decide +kernel
theorem d_Ck_comes_40 : decode b_Ck_comes 40 = .ok (.lookupswitch 101 #[(67, 95), (78, 83), (84, 89), (108, 72), (110, 68), (119, 87), (122, 70)], 68) := by decide +kernel
theorem d_Ck_comes_108 : decode b_Ck_comes 108 = .ok (.iconst 0, 1) := by decide +kernel
theorem d_Ck_comes_109 : decode b_Ck_comes 109 = .ok (.ireturn, 1) := by decide +kernel
theorem d_Ck_comes_110 : decode b_Ck_comes 110 = .ok (.iconst 2, 1) := by decide +kernel
theorem d_Ck_comes_111 : decode b_Ck_comes 111 = .ok (.ireturn, 1) := by decide +kernel
theorem d_Ck_comes_112 : decode b_Ck_comes 112 = .ok (.aload_n 0, 1) := by decide +kernel
theorem d_Ck_comes_113 : decode b_Ck_comes 113 = .ok (.getfield 52, 3) := by decide +kernel
theorem d_Ck_comes_116 : decode b_Ck_comes 116 = .ok (.aload_n 0, 1) := by decide +kernel
theorem d_Ck_comes_117 : decode b_Ck_comes 117 = .ok (.iconst 1, 1) := by decide +kernel
theorem d_Ck_comes_118 : decode b_Ck_comes 118 = .ok (.invokevirtual 172, 3) := by decide +kernel
theorem d_Ck_comes_121 : decode b_Ck_comes 121 = .ok (.iaload, 1) := by decide +kernel
theorem d_Ck_comes_122 : decode b_Ck_comes 122 = .ok (.ireturn, 1) := by decide +kernel
theorem d_Ck_comes_123 : decode b_Ck_comes 123 = .ok (.iconst (-1), 1) := by decide +kernel
theorem d_Ck_comes_124 : decode b_Ck_comes 124 = .ok (.iload_n 1, 1) := by decide +kernel
theorem d_Ck_comes_125 : decode b_Ck_comes 125 = .ok (.isub, 1) := by decide +kernel
theorem d_Ck_comes_126 : decode b_Ck_comes 126 = .ok (.ireturn, 1) := by decide +kernel
theorem d_Ck_comes_127 : decode b_Ck_comes 127 = .ok (.iconst 1, 1) := by decide +kernel
theorem d_Ck_comes_128 : decode b_Ck_comes 128 = .ok (.ireturn, 1) := by decide +kernel
theorem d_Ck_comes_129 : decode b_Ck_comes 129 = .ok (.aload_n 0, 1) := by decide +kernel
theorem d_Ck_comes_130 : decode b_Ck_comes 130 = .ok (.iconst 3, 1) := by decide +kernel
theorem d_Ck_comes_131 : decode b_Ck_comes 131 = .ok (.invokevirtual 172, 3) := by decide +kernel
theorem d_Ck_comes_134 : decode b_Ck_comes 134 = .ok (.ireturn, 1) := by decide +kernel
theorem d_Ck_comes_135 : decode b_Ck_comes 135 = .ok (.aload_n 0, 1) := by decide +kernel
theorem d_Ck_comes_136 : decode b_Ck_comes 136 = .ok (.iconst 1, 1) := by decide +kernel
theorem d_Ck_comes_137 : decode b_Ck_comes 137 = .ok (.invokevirtual 172, 3) := by decide +kernel
theorem d_Ck_comes_140 : decode b_Ck_comes 140 = .ok (.ireturn, 1) := by decide +kernel
theorem d_Ck_comes_141 : decode b_Ck_comes 141 = .ok (.iconst 5, 1) := by decide +kernel
theorem d_Ck_comes_142 : decode b_Ck_comes 142 = .ok (.ireturn, 1) := by decide +kernel
abbrev ru_Ck_comes : Room := { frames := 4, cells := 0, slots := 0, locals := 85 }
def wj_Ck_comes_31 (y : Ly) (Post : St → Int32 → Prop) (a0 : Nat) (s_j31 : St) (x1j31 : Int32) : Prop := xH 11 (sV s_j31 a0 12) (fun x_1 : Int32 => ((x_1 = 67 → wu_Ck_operand y (fun (s_3 : St) (r_2 : Int32) => Post s_3 r_2) s_j31 a0 1) ∧ (¬ (x_1 = 67) → ((x_1 = 78 → Post s_j31 ((-1) - x1j31)) ∧ (¬ (x_1 = 78) → ((x_1 = 84 → wu_Ck_operand y (fun (s_5 : St) (r_4 : Int32) => Post s_5 r_4) s_j31 a0 3) ∧ (¬ (x_1 = 84) → ((x_1 = 108 → wu_Ck_operand y (fun (s_7 : St) (r_6 : Int32) => xA y s_7 a0 15 r_6 (fun x_8 : Int32 => Post s_7 x_8)) s_j31 a0 1) ∧ (¬ (x_1 = 108) → ((x_1 = 110 → Post s_j31 0) ∧ (¬ (x_1 = 110) → ((x_1 = 119 → Post s_j31 1) ∧ (¬ (x_1 = 119) → ((x_1 = 122 → Post s_j31 2) ∧ (¬ (x_1 = 122) → Post s_j31 5)))))))))))))))
def wu_Ck_comes (y : Ly) (Post : St → Int32 → Prop) (σ : St) (a0 : Nat) (v1 : Int32) : Prop := (((sV σ a0 12) < 50 → wj_Ck_comes_31 y Post a0 σ v1) ∧ (¬ ((sV σ a0 12) < 50) → ((53 < (sV σ a0 12) → wj_Ck_comes_31 y Post a0 σ v1) ∧ (¬ (53 < (sV σ a0 12)) → wu_Ck_operand y (fun (s_10 : St) (r_9 : Int32) => wu_Na_resultOf y (fun (s_12 : St) (r_11 : Int32) => Post s_12 r_11) s_10 (lk a0 2) r_9) σ a0 2))))
set_option maxHeartbeats 4000000 in
set_option maxRecDepth 100000 in
theorem cu_Ck_comes (l : Launch) (D : va_G) (g : Nat → ClassId) (F : Nat → SL) (sl : List SL) (hF : SOK F sl) (ad : Nat → Nat) (y : Ly) (Post : St → Int32 → Prop) (σ : St) (a0 : Nat) (v1 : Int32) (sz : Nat) (h_a0 : cl a0 = 0) (h : wu_Ck_comes y Post σ a0 v1) : Met l y_Ck_comes (mw y_Ck_comes b_Ck_comes 2 (some .int)) ru_Ck_comes (PC g D sl [.ref (ad a0), .int v1] sz (ws g ad y σ)) (va_Qi (fun (r : Int32) (u : St) => Post u r) (QW D (va_A (ws g ad y σ) sz) (fun u => ws g ad y u)) (va_A (ws g ad y σ) sz)) 0 0 (va_A (ws g ad y σ) sz) := by
  refine ofI (by decide +kernel) (Nat.le_of_ble_eq_true rfl) ?_
  intro p e s m args below meth c A Q ls H locs G hsz hP hD hS hl hret
  subst hsz
  have hl : lv_has ls 2 [(0, .ref (ad a0)), (1, .int v1)] := hl
  unfold wu_Ck_comes at h
  refine lv_aload_n G.1 G.2.1 d_Ck_comes_0 rfl (lv_at hl 0 rfl) ?_
  refine ugf (v := .int (sV σ a0 12)) G hP h_a0 iCk rfl 12 (by decide) rfl q663 rfl rfl d_Ck_comes_1 ?_
  refine lv_bipush (v := 50) G.1 G.2.1 d_Ck_comes_4 (by decide) ?_
  have J_31 : ∀ (s_j31 : St) (x1j31 : Int32) (H : Heap) (locs : List Loc), wj_Ck_comes_31 y Post a0 s_j31 x1j31 → va_P D CL (ws g ad y s_j31) H → va_D A (ws g ad y s_j31) → va_S A s.heap H locs → ∀ ls, lv_has ls 2 [(0, .ref (ad a0)), (1, .int x1j31)] → W p l e ru_Ck_comes s m args below meth c H locs 0 0 Q (F0 m 31 ls []) := by
    intro s_j31 x1j31 H locs h hP hD hS ls hl
    unfold wj_Ck_comes_31 at h
    refine uldc (n := 11) hF rfl G d_Ck_comes_31 ?_
    refine lv_aload_n G.1 G.2.1 d_Ck_comes_33 rfl (lv_at hl 0 rfl) ?_
    refine ugf (v := .int (sV s_j31 a0 12)) G hP h_a0 iCk rfl 12 (by decide) rfl q663 rfl rfl d_Ck_comes_34 ?_
    refine uchar hF (by decide +kernel) G hP hD hS h w9_Js_charAt q1602 ⟨Nat.le_of_ble_eq_true rfl, Nat.le_of_ble_eq_true rfl⟩ hl.1 (Nat.le_of_ble_eq_true rfl) ⟨Nat.le_refl _, Nat.le_refl _⟩ d_Ck_comes_37 (fun x_1 H locs h hP hD hS => ?_)
    by_cases e40_67 : x_1 = 67
    · skip
      have h := h.1 e40_67
      refine lv_lookup (off := 95) (tgt := 135) G.1 G.2.1 d_Ck_comes_40 (by decide) (by rw [e40_67]; rfl) (by decide) ?_
      refine lv_aload_n G.1 G.2.1 d_Ck_comes_135 rfl (lv_at hl 0 rfl) ?_
      refine lv_iconst (v := 1) G.1 G.2.1 d_Ck_comes_136 (by decide) ?_
      refine ucVi (As := [.int 1]) (rest := []) G hP hD hS (cu_Ck_operand l D g ad y _ s_j31 a0 1 H.size h_a0 h) w9_Ck_operand q1607 ⟨Nat.le_of_ble_eq_true rfl, Nat.le_of_ble_eq_true rfl⟩ rfl rfl h_a0 (q := (RCk, TCk, 22)) rfl rfl hl.1 rfl (Nat.le_of_ble_eq_true rfl) rfl ⟨Nat.le_refl _, Nat.le_refl _⟩ d_Ck_comes_137 (fun r_2 s_3 H locs h hP hD hS => ?_)
      exact hret _ _ _ _ _ _ _ ls h hP hD hS (Nat.le_refl _) (Nat.le_refl _) d_Ck_comes_140
    replace h := h.2 e40_67
    by_cases e40_78 : x_1 = 78
    · skip
      have h := h.1 e40_78
      refine lv_lookup (off := 83) (tgt := 123) G.1 G.2.1 d_Ck_comes_40 (by decide) (by rw [e40_78]; rfl) (by decide) ?_
      refine lv_iconst (v := (-1)) G.1 G.2.1 d_Ck_comes_123 (by decide) ?_
      refine lv_iload_n G.1 G.2.1 d_Ck_comes_124 rfl (lv_at hl 1 rfl) ?_
      refine lv_isub G.1 G.2.1 d_Ck_comes_125 ?_
      exact hret _ _ _ _ _ _ _ ls h hP hD hS (Nat.le_refl _) (Nat.le_refl _) d_Ck_comes_126
    replace h := h.2 e40_78
    by_cases e40_84 : x_1 = 84
    · skip
      have h := h.1 e40_84
      refine lv_lookup (off := 89) (tgt := 129) G.1 G.2.1 d_Ck_comes_40 (by decide) (by rw [e40_84]; rfl) (by decide) ?_
      refine lv_aload_n G.1 G.2.1 d_Ck_comes_129 rfl (lv_at hl 0 rfl) ?_
      refine lv_iconst (v := 3) G.1 G.2.1 d_Ck_comes_130 (by decide) ?_
      refine ucVi (As := [.int 3]) (rest := []) G hP hD hS (cu_Ck_operand l D g ad y _ s_j31 a0 3 H.size h_a0 h) w9_Ck_operand q1607 ⟨Nat.le_of_ble_eq_true rfl, Nat.le_of_ble_eq_true rfl⟩ rfl rfl h_a0 (q := (RCk, TCk, 22)) rfl rfl hl.1 rfl (Nat.le_of_ble_eq_true rfl) rfl ⟨Nat.le_refl _, Nat.le_refl _⟩ d_Ck_comes_131 (fun r_4 s_5 H locs h hP hD hS => ?_)
      exact hret _ _ _ _ _ _ _ ls h hP hD hS (Nat.le_refl _) (Nat.le_refl _) d_Ck_comes_134
    replace h := h.2 e40_84
    by_cases e40_108 : x_1 = 108
    · skip
      have h := h.1 e40_108
      refine lv_lookup (off := 72) (tgt := 112) G.1 G.2.1 d_Ck_comes_40 (by decide) (by rw [e40_108]; rfl) (by decide) ?_
      refine lv_aload_n G.1 G.2.1 d_Ck_comes_112 rfl (lv_at hl 0 rfl) ?_
      refine ugf (v := .ref (yP y a0 15)) G hP h_a0 iCk rfl 15 (by decide) rfl q666 rfl rfl d_Ck_comes_113 ?_
      refine lv_aload_n G.1 G.2.1 d_Ck_comes_116 rfl (lv_at hl 0 rfl) ?_
      refine lv_iconst (v := 1) G.1 G.2.1 d_Ck_comes_117 (by decide) ?_
      refine ucVi (As := [.int 1]) (rest := [.ref (yP y a0 15)]) G hP hD hS (cu_Ck_operand l D g ad y _ s_j31 a0 1 H.size h_a0 h) w9_Ck_operand q1607 ⟨Nat.le_of_ble_eq_true rfl, Nat.le_of_ble_eq_true rfl⟩ rfl rfl h_a0 (q := (RCk, TCk, 22)) rfl rfl hl.1 rfl (Nat.le_of_ble_eq_true rfl) rfl ⟨Nat.le_refl _, Nat.le_refl _⟩ d_Ck_comes_118 (fun r_6 s_7 H locs h hP hD hS => ?_)
      refine uiald G hP (kdp h_a0 rfl) (typ h_a0 rfl) h d_Ck_comes_121 (fun x_8 h => ?_)
      refine W.eq (g2 := F0 m 122 ls [.int x_8]) rfl ?_
      exact hret _ _ _ _ _ _ _ ls h hP hD hS (Nat.le_refl _) (Nat.le_refl _) d_Ck_comes_122
    replace h := h.2 e40_108
    by_cases e40_110 : x_1 = 110
    · skip
      have h := h.1 e40_110
      refine lv_lookup (off := 68) (tgt := 108) G.1 G.2.1 d_Ck_comes_40 (by decide) (by rw [e40_110]; rfl) (by decide) ?_
      refine lv_iconst (v := 0) G.1 G.2.1 d_Ck_comes_108 (by decide) ?_
      exact hret _ _ _ _ _ _ _ ls h hP hD hS (Nat.le_refl _) (Nat.le_refl _) d_Ck_comes_109
    replace h := h.2 e40_110
    by_cases e40_119 : x_1 = 119
    · skip
      have h := h.1 e40_119
      refine lv_lookup (off := 87) (tgt := 127) G.1 G.2.1 d_Ck_comes_40 (by decide) (by rw [e40_119]; rfl) (by decide) ?_
      refine lv_iconst (v := 1) G.1 G.2.1 d_Ck_comes_127 (by decide) ?_
      exact hret _ _ _ _ _ _ _ ls h hP hD hS (Nat.le_refl _) (Nat.le_refl _) d_Ck_comes_128
    replace h := h.2 e40_119
    by_cases e40_122 : x_1 = 122
    · skip
      have h := h.1 e40_122
      refine lv_lookup (off := 70) (tgt := 110) G.1 G.2.1 d_Ck_comes_40 (by decide) (by rw [e40_122]; rfl) (by decide) ?_
      refine lv_iconst (v := 2) G.1 G.2.1 d_Ck_comes_110 (by decide) ?_
      exact hret _ _ _ _ _ _ _ ls h hP hD hS (Nat.le_refl _) (Nat.le_refl _) d_Ck_comes_111
    replace h := h.2 e40_122
    refine lv_lookup (off := 101) (tgt := 141) G.1 G.2.1 d_Ck_comes_40 (by decide) (by show Op.lookupswitch.offset [(67, 95), (78, 83), (84, 89), (108, 72), (110, 68), (119, 87), (122, 70)] _ _ = _; rw [lv_osw e40_67 (by decide), lv_osw e40_78 (by decide), lv_osw e40_84 (by decide), lv_osw e40_108 (by decide), lv_osw e40_110 (by decide), lv_osw e40_119 (by decide), lv_osw e40_122 (by decide)]; rfl) (by decide) ?_
    refine lv_iconst (v := 5) G.1 G.2.1 d_Ck_comes_141 (by decide) ?_
    exact hret _ _ _ _ _ _ _ ls h hP hD hS (Nat.le_refl _) (Nat.le_refl _) d_Ck_comes_142
  refine lv_icmp_lt (tgt := 31) G.1 G.2.1 d_Ck_comes_6 (by decide) (fun c6 => ?_) (fun c6 => ?_)
  · skip
    have h := h.1 c6
    exact J_31 σ v1 H locs h hP hD hS ls (lv_sub hl [0, 1] rfl)
  · skip
    have h := h.2 c6
    refine lv_aload_n G.1 G.2.1 d_Ck_comes_9 rfl (lv_at hl 0 rfl) ?_
    refine ugf (v := .int (sV σ a0 12)) G hP h_a0 iCk rfl 12 (by decide) rfl q663 rfl rfl d_Ck_comes_10 ?_
    refine lv_bipush (v := 53) G.1 G.2.1 d_Ck_comes_13 (by decide) ?_
    refine lv_icmp_gt (tgt := 31) G.1 G.2.1 d_Ck_comes_15 (by decide) (fun c15 => ?_) (fun c15 => ?_)
    · skip
      have h := h.1 c15
      exact J_31 σ v1 H locs h hP hD hS ls (lv_sub hl [0, 1] rfl)
    · skip
      have h := h.2 c15
      refine lv_aload_n G.1 G.2.1 d_Ck_comes_18 rfl (lv_at hl 0 rfl) ?_
      refine ugf (v := .ref (ad (lk a0 2))) G hP h_a0 iCk rfl 2 (by decide) rfl q653 rfl rfl d_Ck_comes_19 ?_
      refine lv_aload_n G.1 G.2.1 d_Ck_comes_22 rfl (lv_at hl 0 rfl) ?_
      refine W.eq (g2 := F0 m 23 ls [.ref (ad a0), .ref (ad (lk a0 2))]) rfl ?_
      refine lv_iconst (v := 2) G.1 G.2.1 d_Ck_comes_23 (by decide) ?_
      refine ucVi (As := [.int 2]) (rest := [.ref (ad (lk a0 2))]) G hP hD hS (cu_Ck_operand l D g ad y _ σ a0 2 H.size h_a0 h) w9_Ck_operand q1607 ⟨Nat.le_of_ble_eq_true rfl, Nat.le_of_ble_eq_true rfl⟩ rfl rfl h_a0 (q := (RCk, TCk, 22)) rfl rfl hl.1 rfl (Nat.le_of_ble_eq_true rfl) rfl ⟨Nat.le_refl _, Nat.le_refl _⟩ d_Ck_comes_24 (fun r_9 s_10 H locs h hP hD hS => ?_)
      refine ucVi (As := [.int r_9]) (rest := []) G hP hD hS (cu_Na_resultOf l D g ad y _ s_10 (lk a0 2) r_9 H.size (lk_0_2 h_a0) h) w9_Na_resultOf q1581 ⟨Nat.le_of_ble_eq_true rfl, Nat.le_of_ble_eq_true rfl⟩ rfl rfl (lk_0_2 h_a0) (q := (RNa, TNa, 11)) rfl rfl hl.1 rfl (Nat.le_of_ble_eq_true rfl) rfl ⟨Nat.le_refl _, Nat.le_refl _⟩ d_Ck_comes_27 (fun r_11 s_12 H locs h hP hD hS => ?_)
      exact hret _ _ _ _ _ _ _ ls h hP hD hS (Nat.le_refl _) (Nat.le_refl _) d_Ck_comes_30
theorem q1654 : Cond.methodLink "ClassWorks$Checker" 217 y_Ck_ownRules ∈ lw_ok := lw_okmem (List.mem_of_getElem? (i := 1654) (by decide +kernel)) rfl
theorem q1657 : Cond.code y_Ck_ownRules b_Ck_ownRules 5 (some .int) ∈ lw_ok := lw_okmem (List.mem_of_getElem? (i := 1657) (by decide +kernel)) rfl
theorem q1656 : Cond.instanceMethod y_Ck_ownRules ∈ lw_ok := lw_okmem (List.mem_of_getElem? (i := 1656) (by decide +kernel)) rfl
theorem q62 : Cond.selects y_Ck_ownRules.cls y_Ck_ownRules y_Ck_ownRules ∈ lw_ok := lw_okmem (List.mem_of_getElem? (i := 62) (by decide +kernel)) rfl
theorem w9_Ck_ownRules : CWv y_Ck_ownRules b_Ck_ownRules 5 (some .int) 0 ∧ Cond.instanceMethod y_Ck_ownRules ∈ lw_ok ∧ Cond.selects y_Ck_ownRules.cls y_Ck_ownRules y_Ck_ownRules ∈ lw_ok := ⟨⟨q1657, q341, by decide +kernel, by decide +kernel, by decide +kernel⟩, q1656, q62⟩
theorem q1663 : Cond.methodLink "ClassWorks$Checker" 220 y_Ck_comes ∈ lw_ok := lw_okmem (List.mem_of_getElem? (i := 1663) (by decide +kernel)) rfl
theorem q1666 : Cond.code y_Ck_comes b_Ck_comes 2 (some .int) ∈ lw_ok := lw_okmem (List.mem_of_getElem? (i := 1666) (by decide +kernel)) rfl
theorem q1665 : Cond.instanceMethod y_Ck_comes ∈ lw_ok := lw_okmem (List.mem_of_getElem? (i := 1665) (by decide +kernel)) rfl
theorem q64 : Cond.selects y_Ck_comes.cls y_Ck_comes y_Ck_comes ∈ lw_ok := lw_okmem (List.mem_of_getElem? (i := 64) (by decide +kernel)) rfl
theorem w9_Ck_comes : CWv y_Ck_comes b_Ck_comes 2 (some .int) 1 ∧ Cond.instanceMethod y_Ck_comes ∈ lw_ok ∧ Cond.selects y_Ck_comes.cls y_Ck_comes y_Ck_comes ∈ lw_ok := ⟨⟨q1666, q341, by decide +kernel, by decide +kernel, by decide +kernel⟩, q1665, q64⟩
theorem q1638 : Cond.methodLink "ClassWorks$Checker" 211 y_Ck_want ∈ lw_ok := lw_okmem (List.mem_of_getElem? (i := 1638) (by decide +kernel)) rfl
theorem q1641 : Cond.code y_Ck_want b_Ck_want 3 (some .int) ∈ lw_ok := lw_okmem (List.mem_of_getElem? (i := 1641) (by decide +kernel)) rfl
theorem q1640 : Cond.instanceMethod y_Ck_want ∈ lw_ok := lw_okmem (List.mem_of_getElem? (i := 1640) (by decide +kernel)) rfl
theorem q60 : Cond.selects y_Ck_want.cls y_Ck_want y_Ck_want ∈ lw_ok := lw_okmem (List.mem_of_getElem? (i := 60) (by decide +kernel)) rfl
theorem w9_Ck_want : CWv y_Ck_want b_Ck_want 3 (some .int) 1 ∧ Cond.instanceMethod y_Ck_want ∈ lw_ok ∧ Cond.selects y_Ck_want.cls y_Ck_want y_Ck_want ∈ lw_ok := ⟨⟨q1641, q341, by decide +kernel, by decide +kernel, by decide +kernel⟩, q1640, q60⟩
theorem q1644 : Cond.methodLink "ClassWorks$Checker" 214 y_Ck_asWanted ∈ lw_ok := lw_okmem (List.mem_of_getElem? (i := 1644) (by decide +kernel)) rfl
theorem q1647 : Cond.code y_Ck_asWanted b_Ck_asWanted 4 (some .int) ∈ lw_ok := lw_okmem (List.mem_of_getElem? (i := 1647) (by decide +kernel)) rfl
theorem q1646 : Cond.instanceMethod y_Ck_asWanted ∈ lw_ok := lw_okmem (List.mem_of_getElem? (i := 1646) (by decide +kernel)) rfl
theorem q61 : Cond.selects y_Ck_asWanted.cls y_Ck_asWanted y_Ck_asWanted ∈ lw_ok := lw_okmem (List.mem_of_getElem? (i := 61) (by decide +kernel)) rfl
theorem w9_Ck_asWanted : CWv y_Ck_asWanted b_Ck_asWanted 4 (some .int) 2 ∧ Cond.instanceMethod y_Ck_asWanted ∈ lw_ok ∧ Cond.selects y_Ck_asWanted.cls y_Ck_asWanted y_Ck_asWanted ∈ lw_ok := ⟨⟨q1647, q341, by decide +kernel, by decide +kernel, by decide +kernel⟩, q1646, q61⟩
def y_Ck_rules : MethodName := ⟨"ClassWorks$Checker", "rules", "(I)I"⟩
abbrev b_Ck_rules : ByteArray := prog_2_method_19_code
theorem d_Ck_rules_0 : decode b_Ck_rules 0 = .ok (.ldc 209, 2) := by decide +kernel
theorem d_Ck_rules_2 : decode b_Ck_rules 2 = .ok (.aload_n 0, 1) := by decide +kernel
theorem d_Ck_rules_3 : decode b_Ck_rules 3 = .ok (.getfield 43, 3) := by decide +kernel
theorem d_Ck_rules_6 : decode b_Ck_rules 6 = .ok (.invokevirtual 122, 3) := by decide +kernel
theorem d_Ck_rules_9 : decode b_Ck_rules 9 = .ok (.istore_n 2, 1) := by decide +kernel
theorem d_Ck_rules_10 : decode b_Ck_rules 10 = .ok (.aload_n 0, 1) := by decide +kernel
theorem d_Ck_rules_11 : decode b_Ck_rules 11 = .ok (.iconst 1, 1) := by decide +kernel
theorem d_Ck_rules_12 : decode b_Ck_rules 12 = .ok (.invokevirtual 172, 3) := by decide +kernel
theorem d_Ck_rules_15 : decode b_Ck_rules 15 = .ok (.istore_n 3, 1) := by decide +kernel
theorem d_Ck_rules_16 : decode b_Ck_rules 16 = .ok (.iload_n 2, 1) := by decide +kernel
theorem d_Ck_rules_17 : decode b_Ck_rules 17 = .ok (.bipush 105, 2) := by decide +kernel
theorem d_Ck_rules_19 : decode b_Ck_rules 19 = .ok (.if_icmp .eq 9, 3) := by decide +kernel
theorem d_Ck_rules_22 : decode b_Ck_rules 22 = .ok (.iload_n 2, 1) := by decide +kernel
theorem d_Ck_rules_23 : decode b_Ck_rules 23 = .ok (.bipush 106, 2) := by decide +kernel
theorem d_Ck_rules_25 : decode b_Ck_rules 25 = .ok (.if_icmp .ne 14, 3) := by decide +kernel
theorem d_Ck_rules_28 : decode b_Ck_rules 28 = .ok (.iload_n 3, 1) := by decide +kernel
theorem d_Ck_rules_29 : decode b_Ck_rules 29 = .ok (.aload_n 0, 1) := by decide +kernel
theorem d_Ck_rules_30 : decode b_Ck_rules 30 = .ok (.getfield 27, 3) := by decide +kernel
theorem d_Ck_rules_33 : decode b_Ck_rules 33 = .ok (.if_icmp .lt 6, 3) := by decide +kernel
theorem d_Ck_rules_36 : decode b_Ck_rules 36 = .ok (.bipush 33, 2) := by decide +kernel
theorem d_Ck_rules_38 : decode b_Ck_rules 38 = .ok (.ireturn, 1) := by decide +kernel
theorem d_Ck_rules_39 : decode b_Ck_rules 39 = .ok (.aload_n 0, 1) := by decide +kernel
theorem d_Ck_rules_40 : decode b_Ck_rules 40 = .ok (.getfield 56, 3) := by decide +kernel
theorem d_Ck_rules_43 : decode b_Ck_rules 43 = .ok (.aload_n 0, 1) := by decide +kernel
theorem d_Ck_rules_44 : decode b_Ck_rules 44 = .ok (.getfield 46, 3) := by decide +kernel
theorem d_Ck_rules_47 : decode b_Ck_rules 47 = .ok (.if_icmp .ge 6, 3) := by decide +kernel
theorem d_Ck_rules_50 : decode b_Ck_rules 50 = .ok (.bipush 31, 2) := by decide +kernel
theorem d_Ck_rules_52 : decode b_Ck_rules 52 = .ok (.ireturn, 1) := by decide +kernel
theorem d_Ck_rules_53 : decode b_Ck_rules 53 = .ok (.bipush 20, 2) := by decide +kernel
theorem d_Ck_rules_55 : decode b_Ck_rules 55 = .ok (.aload_n 0, 1) := by decide +kernel
theorem d_Ck_rules_56 : decode b_Ck_rules 56 = .ok (.getfield 56, 3) := by decide +kernel
theorem d_Ck_rules_59 : decode b_Ck_rules 59 = .ok (.iadd, 1) := by decide +kernel
theorem d_Ck_rules_60 : decode b_Ck_rules 60 = .ok (.iconst 1, 1) := by decide +kernel
theorem d_Ck_rules_61 : decode b_Ck_rules 61 = .ok (.isub, 1) := by decide +kernel
theorem d_Ck_rules_62 : decode b_Ck_rules 62 = .ok (.istore 4, 2) := by decide +kernel
theorem d_Ck_rules_64 : decode b_Ck_rules 64 = .ok (.iconst 0, 1) := by decide +kernel
theorem d_Ck_rules_65 : decode b_Ck_rules 65 = .ok (.istore 5, 2) := by decide +kernel
theorem d_Ck_rules_67 : decode b_Ck_rules 67 = .ok (.iconst 0, 1) := by decide +kernel
theorem d_Ck_rules_68 : decode b_Ck_rules 68 = .ok (.istore 6, 2) := by decide +kernel
theorem d_Ck_rules_70 : decode b_Ck_rules 70 = .ok (.iload 6, 2) := by decide +kernel
theorem d_Ck_rules_72 : decode b_Ck_rules 72 = .ok (.aload_n 0, 1) := by decide +kernel
theorem d_Ck_rules_73 : decode b_Ck_rules 73 = .ok (.getfield 46, 3) := by decide +kernel
theorem d_Ck_rules_76 : decode b_Ck_rules 76 = .ok (.if_icmp .ge 85, 3) := by decide +kernel
theorem d_Ck_rules_79 : decode b_Ck_rules 79 = .ok (.aload_n 0, 1) := by decide +kernel
theorem d_Ck_rules_80 : decode b_Ck_rules 80 = .ok (.iload 6, 2) := by decide +kernel
theorem d_Ck_rules_82 : decode b_Ck_rules 82 = .ok (.invokevirtual 211, 3) := by decide +kernel
theorem d_Ck_rules_85 : decode b_Ck_rules 85 = .ok (.istore 7, 2) := by decide +kernel
theorem d_Ck_rules_87 : decode b_Ck_rules 87 = .ok (.aload_n 0, 1) := by decide +kernel
theorem d_Ck_rules_88 : decode b_Ck_rules 88 = .ok (.aload_n 0, 1) := by decide +kernel
theorem d_Ck_rules_89 : decode b_Ck_rules 89 = .ok (.getfield 52, 3) := by decide +kernel
theorem d_Ck_rules_92 : decode b_Ck_rules 92 = .ok (.iload 4, 2) := by decide +kernel
theorem d_Ck_rules_94 : decode b_Ck_rules 94 = .ok (.iload 6, 2) := by decide +kernel
theorem d_Ck_rules_96 : decode b_Ck_rules 96 = .ok (.isub, 1) := by decide +kernel
theorem d_Ck_rules_97 : decode b_Ck_rules 97 = .ok (.iaload, 1) := by decide +kernel
theorem d_Ck_rules_98 : decode b_Ck_rules 98 = .ok (.iload 7, 2) := by decide +kernel
theorem d_Ck_rules_100 : decode b_Ck_rules 100 = .ok (.invokevirtual 214, 3) := by decide +kernel
theorem d_Ck_rules_103 : decode b_Ck_rules 103 = .ok (.istore 8, 2) := by decide +kernel
theorem d_Ck_rules_105 : decode b_Ck_rules 105 = .ok (.iload 8, 2) := by decide +kernel
theorem d_Ck_rules_107 : decode b_Ck_rules 107 = .ok (.ifCond .eq 6, 3) := by decide +kernel
theorem d_Ck_rules_110 : decode b_Ck_rules 110 = .ok (.iload 8, 2) := by decide +kernel
theorem d_Ck_rules_112 : decode b_Ck_rules 112 = .ok (.ireturn, 1) := by decide +kernel
theorem d_Ck_rules_113 : decode b_Ck_rules 113 = .ok (.iload 5, 2) := by decide +kernel
theorem d_Ck_rules_115 : decode b_Ck_rules 115 = .ok (.ifCond .ne 33, 3) := by decide +kernel
theorem d_Ck_rules_118 : decode b_Ck_rules 118 = .ok (.aload_n 0, 1) := by decide +kernel
theorem d_Ck_rules_119 : decode b_Ck_rules 119 = .ok (.getfield 52, 3) := by decide +kernel
theorem d_Ck_rules_122 : decode b_Ck_rules 122 = .ok (.iload 4, 2) := by decide +kernel
theorem d_Ck_rules_124 : decode b_Ck_rules 124 = .ok (.iload 6, 2) := by decide +kernel
theorem d_Ck_rules_126 : decode b_Ck_rules 126 = .ok (.isub, 1) := by decide +kernel
theorem d_Ck_rules_127 : decode b_Ck_rules 127 = .ok (.iaload, 1) := by decide +kernel
theorem d_Ck_rules_128 : decode b_Ck_rules 128 = .ok (.invokestatic 203, 3) := by decide +kernel
theorem d_Ck_rules_131 : decode b_Ck_rules 131 = .ok (.ifCond .eq 21, 3) := by decide +kernel
theorem d_Ck_rules_134 : decode b_Ck_rules 134 = .ok (.iload 7, 2) := by decide +kernel
theorem d_Ck_rules_136 : decode b_Ck_rules 136 = .ok (.ldc 175, 2) := by decide +kernel
theorem d_Ck_rules_138 : decode b_Ck_rules 138 = .ok (.if_icmp .eq 14, 3) := by decide +kernel
theorem d_Ck_rules_141 : decode b_Ck_rules 141 = .ok (.iload 7, 2) := by decide +kernel
theorem d_Ck_rules_143 : decode b_Ck_rules 143 = .ok (.ldc 202, 2) := by decide +kernel
theorem d_Ck_rules_145 : decode b_Ck_rules 145 = .ok (.if_icmp .eq 7, 3) := by decide +kernel
theorem d_Ck_rules_148 : decode b_Ck_rules 148 = .ok (.iconst 1, 1) := by decide +kernel
theorem d_Ck_rules_149 : decode b_Ck_rules 149 = .ok (.goto 4, 3) := by decide +kernel
theorem d_Ck_rules_152 : decode b_Ck_rules 152 = .ok (.iconst 0, 1) := by decide +kernel
theorem d_Ck_rules_153 : decode b_Ck_rules 153 = .ok (.istore 5, 2) := by decide +kernel
theorem d_Ck_rules_155 : decode b_Ck_rules 155 = .ok (.iinc 6 1, 3) := by decide +kernel
theorem d_Ck_rules_158 : decode b_Ck_rules 158 = .ok (.goto (-88), 3) := by decide +kernel
theorem d_Ck_rules_161 : decode b_Ck_rules 161 = .ok (.aload_n 0, 1) := by decide +kernel
theorem d_Ck_rules_162 : decode b_Ck_rules 162 = .ok (.getfield 43, 3) := by decide +kernel
theorem d_Ck_rules_165 : decode b_Ck_rules 165 = .ok (.iconst 3, 1) := by decide +kernel
theorem d_Ck_rules_166 : decode b_Ck_rules 166 = .ok (.if_icmp .eq 12, 3) := by decide +kernel
theorem d_Ck_rules_169 : decode b_Ck_rules 169 = .ok (.aload_n 0, 1) := by decide +kernel
theorem d_Ck_rules_170 : decode b_Ck_rules 170 = .ok (.getfield 43, 3) := by decide +kernel
theorem d_Ck_rules_173 : decode b_Ck_rules 173 = .ok (.bipush 7, 2) := by decide +kernel
theorem d_Ck_rules_175 : decode b_Ck_rules 175 = .ok (.if_icmp .ne 15, 3) := by decide +kernel
theorem d_Ck_rules_178 : decode b_Ck_rules 178 = .ok (.aload_n 0, 1) := by decide +kernel
theorem d_Ck_rules_179 : decode b_Ck_rules 179 = .ok (.getfield 52, 3) := by decide +kernel
theorem d_Ck_rules_182 : decode b_Ck_rules 182 = .ok (.iload_n 3, 1) := by decide +kernel
theorem d_Ck_rules_183 : decode b_Ck_rules 183 = .ok (.iaload, 1) := by decide +kernel
theorem d_Ck_rules_184 : decode b_Ck_rules 184 = .ok (.ifCond .eq 6, 3) := by decide +kernel
theorem d_Ck_rules_187 : decode b_Ck_rules 187 = .ok (.bipush 34, 2) := by decide +kernel
theorem d_Ck_rules_189 : decode b_Ck_rules 189 = .ok (.ireturn, 1) := by decide +kernel
theorem d_Ck_rules_190 : decode b_Ck_rules 190 = .ok (.aload_n 0, 1) := by decide +kernel
theorem d_Ck_rules_191 : decode b_Ck_rules 191 = .ok (.getfield 43, 3) := by decide +kernel
theorem d_Ck_rules_194 : decode b_Ck_rules 194 = .ok (.iconst 4, 1) := by decide +kernel
theorem d_Ck_rules_195 : decode b_Ck_rules 195 = .ok (.if_icmp .ne 30, 3) := by decide +kernel
theorem d_Ck_rules_198 : decode b_Ck_rules 198 = .ok (.aload_n 0, 1) := by decide +kernel
theorem d_Ck_rules_199 : decode b_Ck_rules 199 = .ok (.getfield 52, 3) := by decide +kernel
theorem d_Ck_rules_202 : decode b_Ck_rules 202 = .ok (.iload_n 3, 1) := by decide +kernel
theorem d_Ck_rules_203 : decode b_Ck_rules 203 = .ok (.iaload, 1) := by decide +kernel
theorem d_Ck_rules_204 : decode b_Ck_rules 204 = .ok (.invokestatic 206, 3) := by decide +kernel
theorem d_Ck_rules_207 : decode b_Ck_rules 207 = .ok (.ifCond .ne 18, 3) := by decide +kernel
theorem d_Ck_rules_210 : decode b_Ck_rules 210 = .ok (.aload_n 0, 1) := by decide +kernel
theorem d_Ck_rules_211 : decode b_Ck_rules 211 = .ok (.getfield 52, 3) := by decide +kernel
theorem d_Ck_rules_214 : decode b_Ck_rules 214 = .ok (.iload_n 3, 1) := by decide +kernel
theorem d_Ck_rules_215 : decode b_Ck_rules 215 = .ok (.iaload, 1) := by decide +kernel
theorem d_Ck_rules_216 : decode b_Ck_rules 216 = .ok (.invokestatic 203, 3) := by decide +kernel
theorem d_Ck_rules_219 : decode b_Ck_rules 219 = .ok (.ifCond .ne 6, 3) := by decide +kernel
theorem d_Ck_rules_222 : decode b_Ck_rules 222 = .ok (.bipush 34, 2) := by decide +kernel
theorem d_Ck_rules_224 : decode b_Ck_rules 224 = .ok (.ireturn, 1) := by decide +kernel
theorem d_Ck_rules_225 : decode b_Ck_rules 225 = .ok (.iload 5, 2) := by decide +kernel
theorem d_Ck_rules_227 : decode b_Ck_rules 227 = .ok (.ifCond .eq 6, 3) := by decide +kernel
theorem d_Ck_rules_230 : decode b_Ck_rules 230 = .ok (.bipush 39, 2) := by decide +kernel
theorem d_Ck_rules_232 : decode b_Ck_rules 232 = .ok (.ireturn, 1) := by decide +kernel
theorem d_Ck_rules_233 : decode b_Ck_rules 233 = .ok (.aload_n 0, 1) := by decide +kernel
theorem d_Ck_rules_234 : decode b_Ck_rules 234 = .ok (.invokevirtual 217, 3) := by decide +kernel
theorem d_Ck_rules_237 : decode b_Ck_rules 237 = .ok (.istore 6, 2) := by decide +kernel
theorem d_Ck_rules_239 : decode b_Ck_rules 239 = .ok (.aload_n 0, 1) := by decide +kernel
theorem d_Ck_rules_240 : decode b_Ck_rules 240 = .ok (.getfield 43, 3) := by decide +kernel
theorem d_Ck_rules_243 : decode b_Ck_rules 243 = .ok (.bipush 20, 2) := by decide +kernel
theorem d_Ck_rules_245 : decode b_Ck_rules 245 = .ok (.if_icmp .eq 12, 3) := by decide +kernel
theorem d_Ck_rules_248 : decode b_Ck_rules 248 = .ok (.aload_n 0, 1) := by decide +kernel
theorem d_Ck_rules_249 : decode b_Ck_rules 249 = .ok (.getfield 43, 3) := by decide +kernel
theorem d_Ck_rules_252 : decode b_Ck_rules 252 = .ok (.bipush 21, 2) := by decide +kernel
theorem d_Ck_rules_254 : decode b_Ck_rules 254 = .ok (.if_icmp .ne 7, 3) := by decide +kernel
theorem d_Ck_rules_257 : decode b_Ck_rules 257 = .ok (.iconst 1, 1) := by decide +kernel
theorem d_Ck_rules_258 : decode b_Ck_rules 258 = .ok (.goto 39, 3) := by decide +kernel
theorem d_Ck_rules_261 : decode b_Ck_rules 261 = .ok (.aload_n 0, 1) := by decide +kernel
theorem d_Ck_rules_262 : decode b_Ck_rules 262 = .ok (.getfield 43, 3) := by decide +kernel
theorem d_Ck_rules_265 : decode b_Ck_rules 265 = .ok (.bipush 22, 2) := by decide +kernel
theorem d_Ck_rules_267 : decode b_Ck_rules 267 = .ok (.if_icmp .ne 7, 3) := by decide +kernel
theorem d_Ck_rules_270 : decode b_Ck_rules 270 = .ok (.iconst 0, 1) := by decide +kernel
theorem d_Ck_rules_271 : decode b_Ck_rules 271 = .ok (.goto 26, 3) := by decide +kernel
theorem d_Ck_rules_274 : decode b_Ck_rules 274 = .ok (.aload_n 0, 1) := by decide +kernel
theorem d_Ck_rules_275 : decode b_Ck_rules 275 = .ok (.iload_n 1, 1) := by decide +kernel
theorem d_Ck_rules_276 : decode b_Ck_rules 276 = .ok (.invokevirtual 220, 3) := by decide +kernel
theorem d_Ck_rules_279 : decode b_Ck_rules 279 = .ok (.iconst 5, 1) := by decide +kernel
theorem d_Ck_rules_280 : decode b_Ck_rules 280 = .ok (.if_icmp .ne 11, 3) := by decide +kernel
theorem d_Ck_rules_283 : decode b_Ck_rules 283 = .ok (.aload_n 0, 1) := by decide +kernel
theorem d_Ck_rules_284 : decode b_Ck_rules 284 = .ok (.getfield 46, 3) := by decide +kernel
theorem d_Ck_rules_287 : decode b_Ck_rules 287 = .ok (.ineg, 1) := by decide +kernel
theorem d_Ck_rules_288 : decode b_Ck_rules 288 = .ok (.goto 9, 3) := by decide +kernel
theorem d_Ck_rules_291 : decode b_Ck_rules 291 = .ok (.iconst 1, 1) := by decide +kernel
theorem d_Ck_rules_292 : decode b_Ck_rules 292 = .ok (.aload_n 0, 1) := by decide +kernel
theorem d_Ck_rules_293 : decode b_Ck_rules 293 = .ok (.getfield 46, 3) := by decide +kernel
theorem d_Ck_rules_296 : decode b_Ck_rules 296 = .ok (.isub, 1) := by decide +kernel
theorem d_Ck_rules_297 : decode b_Ck_rules 297 = .ok (.istore 7, 2) := by decide +kernel
theorem d_Ck_rules_299 : decode b_Ck_rules 299 = .ok (.iload 6, 2) := by decide +kernel
theorem d_Ck_rules_301 : decode b_Ck_rules 301 = .ok (.ifCond .eq 8, 3) := by decide +kernel
theorem d_Ck_rules_304 : decode b_Ck_rules 304 = .ok (.iload 6, 2) := by decide +kernel
theorem d_Ck_rules_306 : decode b_Ck_rules 306 = .ok (.goto 23, 3) := by decide +kernel
theorem d_Ck_rules_309 : decode b_Ck_rules 309 = .ok (.aload_n 0, 1) := by decide +kernel
theorem d_Ck_rules_310 : decode b_Ck_rules 310 = .ok (.getfield 56, 3) := by decide +kernel
theorem d_Ck_rules_313 : decode b_Ck_rules 313 = .ok (.iload 7, 2) := by decide +kernel
theorem d_Ck_rules_315 : decode b_Ck_rules 315 = .ok (.iadd, 1) := by decide +kernel
theorem d_Ck_rules_316 : decode b_Ck_rules 316 = .ok (.aload_n 0, 1) := by decide +kernel
theorem d_Ck_rules_317 : decode b_Ck_rules 317 = .ok (.getfield 30, 3) := by decide +kernel
theorem d_Ck_rules_320 : decode b_Ck_rules 320 = .ok (.if_icmp .le 8, 3) := by decide +kernel
theorem d_Ck_rules_323 : decode b_Ck_rules 323 = .ok (.bipush 30, 2) := by decide +kernel
theorem d_Ck_rules_325 : decode b_Ck_rules 325 = .ok (.goto 4, 3) := by decide +kernel
theorem d_Ck_rules_328 : decode b_Ck_rules 328 = .ok (.iconst 0, 1) := by decide +kernel
theorem d_Ck_rules_329 : decode b_Ck_rules 329 = .ok (.ireturn, 1) := by decide +kernel
abbrev ru_Ck_rules : Room := { frames := 5, cells := 0, slots := 0, locals := 107 }
def wj_Ck_rules_329 (y : Ly) (Post : St → Int32 → Prop) (a0 : Nat) (s_j329 : St) (z0j329 : Int32) : Prop := Post s_j329 z0j329
def wj_Ck_rules_297 (y : Ly) (Post : St → Int32 → Prop) (a0 : Nat) (s_j297 : St) (x6j297 : Int32) (z0j297 : Int32) : Prop := ((x6j297 = 0 → ((((sV s_j297 a0 16) + z0j297) ≤ (sV s_j297 a0 8) → wj_Ck_rules_329 y Post a0 s_j297 0) ∧ (¬ (((sV s_j297 a0 16) + z0j297) ≤ (sV s_j297 a0 8)) → wj_Ck_rules_329 y Post a0 s_j297 30))) ∧ (¬ (x6j297 = 0) → wj_Ck_rules_329 y Post a0 s_j297 x6j297))
def wj_Ck_rules_257 (y : Ly) (Post : St → Int32 → Prop) (a0 : Nat) (s_j257 : St) (x6j257 : Int32) : Prop := wj_Ck_rules_297 y Post a0 s_j257 x6j257 1
def wj_Ck_rules_225 (y : Ly) (Post : St → Int32 → Prop) (a0 : Nat) (s_j225 : St) (x1j225 : Int32) (x5j225 : Int32) : Prop := ((x5j225 = 0 → wu_Ck_ownRules y (fun (s_5 : St) (r_4 : Int32) => (((sV s_5 a0 12) = 20 → wj_Ck_rules_257 y Post a0 s_5 r_4) ∧ (¬ ((sV s_5 a0 12) = 20) → ((¬ (sV s_5 a0 12) = 21 → ((¬ (sV s_5 a0 12) = 22 → wu_Ck_comes y (fun (s_7 : St) (r_6 : Int32) => ((¬ r_6 = 5 → wj_Ck_rules_297 y Post a0 s_7 r_4 (1 - (sV s_7 a0 13))) ∧ (r_6 = 5 → wj_Ck_rules_297 y Post a0 s_7 r_4 (-(sV s_7 a0 13))))) s_5 a0 x1j225) ∧ ((sV s_5 a0 12) = 22 → wj_Ck_rules_297 y Post a0 s_5 r_4 0))) ∧ ((sV s_5 a0 12) = 21 → wj_Ck_rules_257 y Post a0 s_5 r_4))))) s_j225 a0) ∧ (¬ (x5j225 = 0) → Post s_j225 39))
def wj_Ck_rules_190 (y : Ly) (Post : St → Int32 → Prop) (a0 : Nat) (s_j190 : St) (x1j190 : Int32) (x3j190 : Int32) (x5j190 : Int32) : Prop := ((¬ (sV s_j190 a0 12) = 4 → wj_Ck_rules_225 y Post a0 s_j190 x1j190 x5j190) ∧ ((sV s_j190 a0 12) = 4 → xA y s_j190 a0 15 x3j190 (fun x_8 : Int32 => wu_Ck_isReference y (fun (s_10 : St) (r_9 : Int32) => ((¬ r_9 = 0 → wj_Ck_rules_225 y Post a0 s_10 x1j190 x5j190) ∧ (r_9 = 0 → xA y s_10 a0 15 x3j190 (fun x_11 : Int32 => wu_Ck_isRaw y (fun (s_13 : St) (r_12 : Int32) => ((¬ r_12 = 0 → wj_Ck_rules_225 y Post a0 s_13 x1j190 x5j190) ∧ (r_12 = 0 → Post s_13 34))) s_10 x_11)))) s_j190 x_8)))
def wj_Ck_rules_178 (y : Ly) (Post : St → Int32 → Prop) (a0 : Nat) (s_j178 : St) (x1j178 : Int32) (x3j178 : Int32) (x5j178 : Int32) : Prop := xA y s_j178 a0 15 x3j178 (fun x_14 : Int32 => ((x_14 = 0 → wj_Ck_rules_190 y Post a0 s_j178 x1j178 x3j178 x5j178) ∧ (¬ (x_14 = 0) → Post s_j178 34)))
def wj_Ck_rules_153 (y : Ly) (Post : St → Int32 → Prop) (K_70 : St → Int32 → Int32 → Int32 → Int32 → Int32 → Prop) (a0 : Nat) (s_j153 : St) (x1j153 : Int32) (x3j153 : Int32) (x4j153 : Int32) (x6j153 : Int32) (z0j153 : Int32) : Prop := K_70 s_j153 x1j153 x3j153 x4j153 z0j153 (x6j153 + 1)
def wj_Ck_rules_148 (y : Ly) (Post : St → Int32 → Prop) (K_70 : St → Int32 → Int32 → Int32 → Int32 → Int32 → Prop) (a0 : Nat) (s_j148 : St) (x1j148 : Int32) (x3j148 : Int32) (x4j148 : Int32) (x6j148 : Int32) : Prop := wj_Ck_rules_153 y Post K_70 a0 s_j148 x1j148 x3j148 x4j148 x6j148 1
def wj_Ck_rules_152 (y : Ly) (Post : St → Int32 → Prop) (K_70 : St → Int32 → Int32 → Int32 → Int32 → Int32 → Prop) (a0 : Nat) (s_j152 : St) (x1j152 : Int32) (x3j152 : Int32) (x4j152 : Int32) (x6j152 : Int32) : Prop := wj_Ck_rules_153 y Post K_70 a0 s_j152 x1j152 x3j152 x4j152 x6j152 0
def wb_Ck_rules_70 (y : Ly) (Post : St → Int32 → Prop) (K_70 : St → Int32 → Int32 → Int32 → Int32 → Int32 → Prop) (a0 : Nat) (s_h70 : St) (x1h70 : Int32) (x3h70 : Int32) (x4h70 : Int32) (x5h70 : Int32) (x6h70 : Int32) : Prop := (((sV s_h70 a0 13) ≤ x6h70 → (((sV s_h70 a0 12) = 3 → wj_Ck_rules_178 y Post a0 s_h70 x1h70 x3h70 x5h70) ∧ (¬ ((sV s_h70 a0 12) = 3) → ((¬ (sV s_h70 a0 12) = 7 → wj_Ck_rules_190 y Post a0 s_h70 x1h70 x3h70 x5h70) ∧ ((sV s_h70 a0 12) = 7 → wj_Ck_rules_178 y Post a0 s_h70 x1h70 x3h70 x5h70))))) ∧ (¬ ((sV s_h70 a0 13) ≤ x6h70) → wu_Ck_want y (fun (s_16 : St) (r_15 : Int32) => xA y s_16 a0 15 (x4h70 - x6h70) (fun x_17 : Int32 => wu_Ck_asWanted y (fun (s_19 : St) (r_18 : Int32) => ((r_18 = 0 → ((¬ x5h70 = 0 → wj_Ck_rules_148 y Post K_70 a0 s_19 x1h70 x3h70 x4h70 x6h70) ∧ (x5h70 = 0 → xA y s_19 a0 15 (x4h70 - x6h70) (fun x_20 : Int32 => wu_Ck_isRaw y (fun (s_22 : St) (r_21 : Int32) => ((r_21 = 0 → wj_Ck_rules_152 y Post K_70 a0 s_22 x1h70 x3h70 x4h70 x6h70) ∧ (¬ (r_21 = 0) → ((r_15 = (-2147483648) → wj_Ck_rules_152 y Post K_70 a0 s_22 x1h70 x3h70 x4h70 x6h70) ∧ (¬ (r_15 = (-2147483648)) → ((r_15 = (-2147483646) → wj_Ck_rules_152 y Post K_70 a0 s_22 x1h70 x3h70 x4h70 x6h70) ∧ (¬ (r_15 = (-2147483646)) → wj_Ck_rules_148 y Post K_70 a0 s_22 x1h70 x3h70 x4h70 x6h70))))))) s_19 x_20)))) ∧ (¬ (r_18 = 0) → Post s_19 r_18))) s_16 a0 x_17 r_15)) s_h70 a0 x6h70))
def wl_Ck_rules_70 (y : Ly) (Post : St → Int32 → Prop) (a0 : Nat) (s_h70 : St) (x1h70 : Int32) (x3h70 : Int32) (x4h70 : Int32) (x5h70 : Int32) (x6h70 : Int32) : Prop := ∃ (I : St → Int32 → Int32 → Int32 → Int32 → Int32 → Prop) (μ : St → Int32 → Int32 → Int32 → Int32 → Int32 → Nat), I s_h70 x1h70 x3h70 x4h70 x5h70 x6h70 ∧ ∀ (u : St) (t0 : Int32) (t1 : Int32) (t2 : Int32) (t3 : Int32) (t4 : Int32), I u t0 t1 t2 t3 t4 → wb_Ck_rules_70 y Post (fun z t0q t1q t2q t3q t4q => I z t0q t1q t2q t3q t4q ∧ μ z t0q t1q t2q t3q t4q < μ u t0 t1 t2 t3 t4) a0 u t0 t1 t2 t3 t4
def wj_Ck_rules_39 (y : Ly) (Post : St → Int32 → Prop) (a0 : Nat) (s_j39 : St) (x1j39 : Int32) (x3j39 : Int32) : Prop := (((sV s_j39 a0 13) ≤ (sV s_j39 a0 16) → wl_Ck_rules_70 y Post a0 s_j39 x1j39 x3j39 ((20 + (sV s_j39 a0 16)) - 1) 0 0) ∧ (¬ ((sV s_j39 a0 13) ≤ (sV s_j39 a0 16)) → Post s_j39 31))
def wj_Ck_rules_28 (y : Ly) (Post : St → Int32 → Prop) (a0 : Nat) (s_j28 : St) (x1j28 : Int32) (x3j28 : Int32) : Prop := ((x3j28 < (sV s_j28 a0 7) → wj_Ck_rules_39 y Post a0 s_j28 x1j28 x3j28) ∧ (¬ (x3j28 < (sV s_j28 a0 7)) → Post s_j28 33))
def wu_Ck_rules (y : Ly) (Post : St → Int32 → Prop) (σ : St) (a0 : Nat) (v1 : Int32) : Prop := xH 10 (sV σ a0 12) (fun x_1 : Int32 => wu_Ck_operand y (fun (s_3 : St) (r_2 : Int32) => ((x_1 = 105 → wj_Ck_rules_28 y Post a0 s_3 v1 r_2) ∧ (¬ (x_1 = 105) → ((¬ x_1 = 106 → wj_Ck_rules_39 y Post a0 s_3 v1 r_2) ∧ (x_1 = 106 → wj_Ck_rules_28 y Post a0 s_3 v1 r_2))))) σ a0 1)
set_option maxHeartbeats 4000000 in
set_option maxRecDepth 100000 in
theorem cu_Ck_rules (l : Launch) (D : va_G) (g : Nat → ClassId) (F : Nat → SL) (sl : List SL) (hF : SOK F sl) (ad : Nat → Nat) (y : Ly) (Post : St → Int32 → Prop) (σ : St) (a0 : Nat) (v1 : Int32) (sz : Nat) (h_a0 : cl a0 = 0) (h : wu_Ck_rules y Post σ a0 v1) : Met l y_Ck_rules (mw y_Ck_rules b_Ck_rules 9 (some .int)) ru_Ck_rules (PC g D sl [.ref (ad a0), .int v1] sz (ws g ad y σ)) (va_Qi (fun (r : Int32) (u : St) => Post u r) (QW D (va_A (ws g ad y σ) sz) (fun u => ws g ad y u)) (va_A (ws g ad y σ) sz)) 0 0 (va_A (ws g ad y σ) sz) := by
  refine ofI (by decide +kernel) (Nat.le_of_ble_eq_true rfl) ?_
  intro p e s m args below meth c A Q ls H locs G hsz hP hD hS hl hret
  subst hsz
  have hl : lv_has ls 9 [(0, .ref (ad a0)), (1, .int v1)] := hl
  unfold wu_Ck_rules at h
  refine uldc (n := 10) hF rfl G d_Ck_rules_0 ?_
  refine lv_aload_n G.1 G.2.1 d_Ck_rules_2 rfl (lv_at hl 0 rfl) ?_
  refine ugf (v := .int (sV σ a0 12)) G hP h_a0 iCk rfl 12 (by decide) rfl q663 rfl rfl d_Ck_rules_3 ?_
  refine uchar hF (by decide +kernel) G hP hD hS h w9_Js_charAt q1602 ⟨Nat.le_of_ble_eq_true rfl, Nat.le_of_ble_eq_true rfl⟩ hl.1 (Nat.le_of_ble_eq_true rfl) ⟨Nat.le_refl _, Nat.le_refl _⟩ d_Ck_rules_6 (fun x_1 H locs h hP hD hS => ?_)
  refine lv_istore_n (lv' := [(2, .int x_1), (0, .ref (ad a0)), (1, .int v1)]) G.1 G.2.1 d_Ck_rules_9 rfl hl (by decide) rfl (fun ls hl => ?_)
  refine lv_aload_n G.1 G.2.1 d_Ck_rules_10 rfl (lv_at hl 1 rfl) ?_
  refine lv_iconst (v := 1) G.1 G.2.1 d_Ck_rules_11 (by decide) ?_
  refine ucVi (As := [.int 1]) (rest := []) G hP hD hS (cu_Ck_operand l D g ad y _ σ a0 1 H.size h_a0 h) w9_Ck_operand q1607 ⟨Nat.le_of_ble_eq_true rfl, Nat.le_of_ble_eq_true rfl⟩ rfl rfl h_a0 (q := (RCk, TCk, 22)) rfl rfl hl.1 rfl (Nat.le_of_ble_eq_true rfl) rfl ⟨Nat.le_refl _, Nat.le_refl _⟩ d_Ck_rules_12 (fun r_2 s_3 H locs h hP hD hS => ?_)
  refine lv_istore_n (lv' := [(3, .int r_2), (2, .int x_1), (0, .ref (ad a0)), (1, .int v1)]) G.1 G.2.1 d_Ck_rules_15 rfl hl (by decide) rfl (fun ls hl => ?_)
  refine lv_iload_n G.1 G.2.1 d_Ck_rules_16 rfl (lv_at hl 1 rfl) ?_
  refine lv_bipush (v := 105) G.1 G.2.1 d_Ck_rules_17 (by decide) ?_
  have J_39 : ∀ (s_j39 : St) (x1j39 : Int32) (x3j39 : Int32) (H : Heap) (locs : List Loc), wj_Ck_rules_39 y Post a0 s_j39 x1j39 x3j39 → va_P D CL (ws g ad y s_j39) H → va_D A (ws g ad y s_j39) → va_S A s.heap H locs → ∀ ls, lv_has ls 9 [(0, .ref (ad a0)), (1, .int x1j39), (3, .int x3j39)] → W p l e ru_Ck_rules s m args below meth c H locs 0 0 Q (F0 m 39 ls []) := by
    intro s_j39 x1j39 x3j39 H locs h hP hD hS ls hl
    unfold wj_Ck_rules_39 at h
    refine lv_aload_n G.1 G.2.1 d_Ck_rules_39 rfl (lv_at hl 0 rfl) ?_
    refine ugf (v := .int (sV s_j39 a0 16)) G hP h_a0 iCk rfl 16 (by decide) rfl q667 rfl rfl d_Ck_rules_40 ?_
    refine lv_aload_n G.1 G.2.1 d_Ck_rules_43 rfl (lv_at hl 0 rfl) ?_
    refine ugf (v := .int (sV s_j39 a0 13)) G hP h_a0 iCk rfl 13 (by decide) rfl q664 rfl rfl d_Ck_rules_44 ?_
    refine lv_icmp_ge (tgt := 53) G.1 G.2.1 d_Ck_rules_47 (by decide) (fun c47 => ?_) (fun c47 => ?_)
    · skip
      have h := h.1 c47
      refine lv_bipush (v := 20) G.1 G.2.1 d_Ck_rules_53 (by decide) ?_
      refine lv_aload_n G.1 G.2.1 d_Ck_rules_55 rfl (lv_at hl 0 rfl) ?_
      refine ugf (v := .int (sV s_j39 a0 16)) G hP h_a0 iCk rfl 16 (by decide) rfl q667 rfl rfl d_Ck_rules_56 ?_
      refine lv_iadd G.1 G.2.1 d_Ck_rules_59 ?_
      refine lv_iconst (v := 1) G.1 G.2.1 d_Ck_rules_60 (by decide) ?_
      refine lv_isub G.1 G.2.1 d_Ck_rules_61 ?_
      refine W.eq (g2 := F0 m 62 ls [.int ((20 + (sV s_j39 a0 16)) - 1)]) rfl ?_
      refine lv_istore (lv' := [(4, .int ((20 + (sV s_j39 a0 16)) - 1)), (0, .ref (ad a0)), (1, .int x1j39), (3, .int x3j39)]) G.1 G.2.1 d_Ck_rules_62 hl (by decide) rfl (fun ls hl => ?_)
      refine lv_iconst (v := 0) G.1 G.2.1 d_Ck_rules_64 (by decide) ?_
      refine lv_istore (lv' := [(5, .int 0), (4, .int ((20 + (sV s_j39 a0 16)) - 1)), (0, .ref (ad a0)), (1, .int x1j39), (3, .int x3j39)]) G.1 G.2.1 d_Ck_rules_65 hl (by decide) rfl (fun ls hl => ?_)
      refine lv_iconst (v := 0) G.1 G.2.1 d_Ck_rules_67 (by decide) ?_
      refine lv_istore (lv' := [(6, .int 0), (5, .int 0), (4, .int ((20 + (sV s_j39 a0 16)) - 1)), (0, .ref (ad a0)), (1, .int x1j39), (3, .int x3j39)]) G.1 G.2.1 d_Ck_rules_68 hl (by decide) rfl (fun ls hl => ?_)
      unfold wl_Ck_rules_70 at h
      obtain ⟨I_70, μ_70, hI_70, hB_70⟩ := h
      have L_70 : ∀ (n_70 : Nat) (s_h70 : St) (x1h70 : Int32) (x3h70 : Int32) (x4h70 : Int32) (x5h70 : Int32) (x6h70 : Int32), μ_70 s_h70 x1h70 x3h70 x4h70 x5h70 x6h70 < n_70 → I_70 s_h70 x1h70 x3h70 x4h70 x5h70 x6h70 → ∀ (H : Heap) (locs : List Loc), va_P D CL (ws g ad y s_h70) H → va_D A (ws g ad y s_h70) → va_S A s.heap H locs → ∀ ls, lv_has ls 9 [(0, .ref (ad a0)), (1, .int x1h70), (3, .int x3h70), (4, .int x4h70), (5, .int x5h70), (6, .int x6h70)] → W p l e ru_Ck_rules s m args below meth c H locs 0 0 Q (F0 m 70 ls []) := by
        intro n_70
        induction n_70 with
        | zero => intro s_h70 x1h70 x3h70 x4h70 x5h70 x6h70 hμ; exact absurd hμ (Nat.not_lt_zero _)
        | succ n_70 ih_70 =>
          intro s_h70 x1h70 x3h70 x4h70 x5h70 x6h70 hμ_70 hJ H locs hP hD hS ls hl
          obtain ⟨K_70, hK_70, h⟩ : ∃ K : St → Int32 → Int32 → Int32 → Int32 → Int32 → Prop, (∀ z (t0 : Int32) (t1 : Int32) (t2 : Int32) (t3 : Int32) (t4 : Int32), K z t0 t1 t2 t3 t4 → I_70 z t0 t1 t2 t3 t4 ∧ μ_70 z t0 t1 t2 t3 t4 < μ_70 s_h70 x1h70 x3h70 x4h70 x5h70 x6h70) ∧ wb_Ck_rules_70 y Post K a0 s_h70 x1h70 x3h70 x4h70 x5h70 x6h70 := ⟨_, fun _ _ _ _ _ _ h => h, hB_70 s_h70 x1h70 x3h70 x4h70 x5h70 x6h70 hJ⟩
          unfold wb_Ck_rules_70 at h
          refine lv_iload G.1 G.2.1 d_Ck_rules_70 (lv_at hl 5 rfl) ?_
          refine lv_aload_n G.1 G.2.1 d_Ck_rules_72 rfl (lv_at hl 0 rfl) ?_
          refine ugf (v := .int (sV s_h70 a0 13)) G hP h_a0 iCk rfl 13 (by decide) rfl q664 rfl rfl d_Ck_rules_73 ?_
          refine lv_icmp_ge (tgt := 161) G.1 G.2.1 d_Ck_rules_76 (by decide) (fun c76 => ?_) (fun c76 => ?_)
          · skip
            have h := h.1 c76
            refine lv_aload_n G.1 G.2.1 d_Ck_rules_161 rfl (lv_at hl 0 rfl) ?_
            refine ugf (v := .int (sV s_h70 a0 12)) G hP h_a0 iCk rfl 12 (by decide) rfl q663 rfl rfl d_Ck_rules_162 ?_
            refine lv_iconst (v := 3) G.1 G.2.1 d_Ck_rules_165 (by decide) ?_
            have J_190 : ∀ (s_j190 : St) (x1j190 : Int32) (x3j190 : Int32) (x5j190 : Int32) (H : Heap) (locs : List Loc), wj_Ck_rules_190 y Post a0 s_j190 x1j190 x3j190 x5j190 → va_P D CL (ws g ad y s_j190) H → va_D A (ws g ad y s_j190) → va_S A s.heap H locs → ∀ ls, lv_has ls 9 [(0, .ref (ad a0)), (1, .int x1j190), (3, .int x3j190), (5, .int x5j190)] → W p l e ru_Ck_rules s m args below meth c H locs 0 0 Q (F0 m 190 ls []) := by
              intro s_j190 x1j190 x3j190 x5j190 H locs h hP hD hS ls hl
              unfold wj_Ck_rules_190 at h
              refine lv_aload_n G.1 G.2.1 d_Ck_rules_190 rfl (lv_at hl 0 rfl) ?_
              refine ugf (v := .int (sV s_j190 a0 12)) G hP h_a0 iCk rfl 12 (by decide) rfl q663 rfl rfl d_Ck_rules_191 ?_
              refine lv_iconst (v := 4) G.1 G.2.1 d_Ck_rules_194 (by decide) ?_
              have J_225 : ∀ (s_j225 : St) (x1j225 : Int32) (x5j225 : Int32) (H : Heap) (locs : List Loc), wj_Ck_rules_225 y Post a0 s_j225 x1j225 x5j225 → va_P D CL (ws g ad y s_j225) H → va_D A (ws g ad y s_j225) → va_S A s.heap H locs → ∀ ls, lv_has ls 9 [(0, .ref (ad a0)), (1, .int x1j225), (5, .int x5j225)] → W p l e ru_Ck_rules s m args below meth c H locs 0 0 Q (F0 m 225 ls []) := by
                intro s_j225 x1j225 x5j225 H locs h hP hD hS ls hl
                unfold wj_Ck_rules_225 at h
                refine lv_iload G.1 G.2.1 d_Ck_rules_225 (lv_at hl 2 rfl) ?_
                refine lv_if_eq (tgt := 233) G.1 G.2.1 d_Ck_rules_227 (by decide) (fun c227 => ?_) (fun c227 => ?_)
                · skip
                  have h := h.1 c227
                  refine lv_aload_n G.1 G.2.1 d_Ck_rules_233 rfl (lv_at hl 0 rfl) ?_
                  refine ucVi (As := []) (rest := []) G hP hD hS (cu_Ck_ownRules l D g ad y _ s_j225 a0 H.size h_a0 h) w9_Ck_ownRules q1654 ⟨Nat.le_of_ble_eq_true rfl, Nat.le_of_ble_eq_true rfl⟩ rfl rfl h_a0 (q := (RCk, TCk, 22)) rfl rfl hl.1 rfl (Nat.le_of_ble_eq_true rfl) rfl ⟨Nat.le_refl _, Nat.le_refl _⟩ d_Ck_rules_234 (fun r_4 s_5 H locs h hP hD hS => ?_)
                  refine lv_istore (lv' := [(6, .int r_4), (0, .ref (ad a0)), (1, .int x1j225), (5, .int x5j225)]) G.1 G.2.1 d_Ck_rules_237 hl (by decide) rfl (fun ls hl => ?_)
                  refine lv_aload_n G.1 G.2.1 d_Ck_rules_239 rfl (lv_at hl 1 rfl) ?_
                  refine ugf (v := .int (sV s_5 a0 12)) G hP h_a0 iCk rfl 12 (by decide) rfl q663 rfl rfl d_Ck_rules_240 ?_
                  refine lv_bipush (v := 20) G.1 G.2.1 d_Ck_rules_243 (by decide) ?_
                  have J_297 : ∀ (s_j297 : St) (x6j297 : Int32) (z0j297 : Int32) (H : Heap) (locs : List Loc), wj_Ck_rules_297 y Post a0 s_j297 x6j297 z0j297 → va_P D CL (ws g ad y s_j297) H → va_D A (ws g ad y s_j297) → va_S A s.heap H locs → ∀ ls, lv_has ls 9 [(0, .ref (ad a0)), (6, .int x6j297)] → W p l e ru_Ck_rules s m args below meth c H locs 0 0 Q (F0 m 297 ls [.int z0j297]) := by
                    intro s_j297 x6j297 z0j297 H locs h hP hD hS ls hl
                    unfold wj_Ck_rules_297 at h
                    refine lv_istore (lv' := [(7, .int z0j297), (0, .ref (ad a0)), (6, .int x6j297)]) G.1 G.2.1 d_Ck_rules_297 hl (by decide) rfl (fun ls hl => ?_)
                    refine lv_iload G.1 G.2.1 d_Ck_rules_299 (lv_at hl 2 rfl) ?_
                    have J_329 : ∀ (s_j329 : St) (z0j329 : Int32) (H : Heap) (locs : List Loc), wj_Ck_rules_329 y Post a0 s_j329 z0j329 → va_P D CL (ws g ad y s_j329) H → va_D A (ws g ad y s_j329) → va_S A s.heap H locs → ∀ ls, lv_has ls 9 [] → W p l e ru_Ck_rules s m args below meth c H locs 0 0 Q (F0 m 329 ls [.int z0j329]) := by
                      intro s_j329 z0j329 H locs h hP hD hS ls hl
                      unfold wj_Ck_rules_329 at h
                      exact hret _ _ _ _ _ _ _ ls h hP hD hS (Nat.le_refl _) (Nat.le_refl _) d_Ck_rules_329
                    refine lv_if_eq (tgt := 309) G.1 G.2.1 d_Ck_rules_301 (by decide) (fun c301 => ?_) (fun c301 => ?_)
                    · skip
                      have h := h.1 c301
                      refine lv_aload_n G.1 G.2.1 d_Ck_rules_309 rfl (lv_at hl 1 rfl) ?_
                      refine ugf (v := .int (sV s_j297 a0 16)) G hP h_a0 iCk rfl 16 (by decide) rfl q667 rfl rfl d_Ck_rules_310 ?_
                      refine lv_iload G.1 G.2.1 d_Ck_rules_313 (lv_at hl 0 rfl) ?_
                      refine lv_iadd G.1 G.2.1 d_Ck_rules_315 ?_
                      refine lv_aload_n G.1 G.2.1 d_Ck_rules_316 rfl (lv_at hl 1 rfl) ?_
                      refine ugf (v := .int (sV s_j297 a0 8)) G hP h_a0 iCk rfl 8 (by decide) rfl q659 rfl rfl d_Ck_rules_317 ?_
                      refine lv_icmp_le (tgt := 328) G.1 G.2.1 d_Ck_rules_320 (by decide) (fun c320 => ?_) (fun c320 => ?_)
                      · skip
                        have h := h.1 c320
                        refine lv_iconst (v := 0) G.1 G.2.1 d_Ck_rules_328 (by decide) ?_
                        exact J_329 s_j297 0 H locs h hP hD hS ls (lv_sub hl [] rfl)
                      · skip
                        have h := h.2 c320
                        refine lv_bipush (v := 30) G.1 G.2.1 d_Ck_rules_323 (by decide) ?_
                        refine W.eq (g2 := F0 m 325 ls [.int 30]) rfl ?_
                        refine lv_goto (tgt := 329) G.1 G.2.1 d_Ck_rules_325 (by decide) ?_
                        exact J_329 s_j297 30 H locs h hP hD hS ls (lv_sub hl [] rfl)
                    · skip
                      have h := h.2 c301
                      refine lv_iload G.1 G.2.1 d_Ck_rules_304 (lv_at hl 2 rfl) ?_
                      refine lv_goto (tgt := 329) G.1 G.2.1 d_Ck_rules_306 (by decide) ?_
                      exact J_329 s_j297 x6j297 H locs h hP hD hS ls (lv_sub hl [] rfl)
                  have J_257 : ∀ (s_j257 : St) (x6j257 : Int32) (H : Heap) (locs : List Loc), wj_Ck_rules_257 y Post a0 s_j257 x6j257 → va_P D CL (ws g ad y s_j257) H → va_D A (ws g ad y s_j257) → va_S A s.heap H locs → ∀ ls, lv_has ls 9 [(0, .ref (ad a0)), (6, .int x6j257)] → W p l e ru_Ck_rules s m args below meth c H locs 0 0 Q (F0 m 257 ls []) := by
                    intro s_j257 x6j257 H locs h hP hD hS ls hl
                    unfold wj_Ck_rules_257 at h
                    refine lv_iconst (v := 1) G.1 G.2.1 d_Ck_rules_257 (by decide) ?_
                    refine lv_goto (tgt := 297) G.1 G.2.1 d_Ck_rules_258 (by decide) ?_
                    exact J_297 s_j257 x6j257 1 H locs h hP hD hS ls (lv_sub hl [0, 1] rfl)
                  refine lv_icmp_eq (tgt := 257) G.1 G.2.1 d_Ck_rules_245 (by decide) (fun c245 => ?_) (fun c245 => ?_)
                  · skip
                    have h := h.1 c245
                    exact J_257 s_5 r_4 H locs h hP hD hS ls (lv_sub hl [1, 0] rfl)
                  · skip
                    have h := h.2 c245
                    refine lv_aload_n G.1 G.2.1 d_Ck_rules_248 rfl (lv_at hl 1 rfl) ?_
                    refine ugf (v := .int (sV s_5 a0 12)) G hP h_a0 iCk rfl 12 (by decide) rfl q663 rfl rfl d_Ck_rules_249 ?_
                    refine W.eq (g2 := F0 m 252 ls [.int (sV s_5 a0 12)]) rfl ?_
                    refine lv_bipush (v := 21) G.1 G.2.1 d_Ck_rules_252 (by decide) ?_
                    refine lv_icmp_ne (tgt := 261) G.1 G.2.1 d_Ck_rules_254 (by decide) (fun c254 => ?_) (fun c254 => ?_)
                    · skip
                      have h := h.1 c254
                      refine lv_aload_n G.1 G.2.1 d_Ck_rules_261 rfl (lv_at hl 1 rfl) ?_
                      refine ugf (v := .int (sV s_5 a0 12)) G hP h_a0 iCk rfl 12 (by decide) rfl q663 rfl rfl d_Ck_rules_262 ?_
                      refine lv_bipush (v := 22) G.1 G.2.1 d_Ck_rules_265 (by decide) ?_
                      refine lv_icmp_ne (tgt := 274) G.1 G.2.1 d_Ck_rules_267 (by decide) (fun c267 => ?_) (fun c267 => ?_)
                      · skip
                        have h := h.1 c267
                        refine lv_aload_n G.1 G.2.1 d_Ck_rules_274 rfl (lv_at hl 1 rfl) ?_
                        refine lv_iload_n G.1 G.2.1 d_Ck_rules_275 rfl (lv_at hl 2 rfl) ?_
                        refine usVi (As := [.int x1j225]) (rest := []) G hP hD hS (cu_Ck_comes l D g F sl hF ad y _ s_5 a0 x1j225 H.size h_a0 h) w9_Ck_comes q1663 ⟨Nat.le_of_ble_eq_true rfl, Nat.le_of_ble_eq_true rfl⟩ rfl rfl h_a0 (q := (RCk, TCk, 22)) rfl rfl hl.1 rfl (Nat.le_of_ble_eq_true rfl) rfl ⟨Nat.le_refl _, Nat.le_refl _⟩ d_Ck_rules_276 (fun r_6 s_7 H locs h hP hD hS => ?_)
                        refine lv_iconst (v := 5) G.1 G.2.1 d_Ck_rules_279 (by decide) ?_
                        refine lv_icmp_ne (tgt := 291) G.1 G.2.1 d_Ck_rules_280 (by decide) (fun c280 => ?_) (fun c280 => ?_)
                        · skip
                          have h := h.1 c280
                          refine lv_iconst (v := 1) G.1 G.2.1 d_Ck_rules_291 (by decide) ?_
                          refine W.eq (g2 := F0 m 292 ls [.int 1]) rfl ?_
                          refine lv_aload_n G.1 G.2.1 d_Ck_rules_292 rfl (lv_at hl 1 rfl) ?_
                          refine ugf (v := .int (sV s_7 a0 13)) G hP h_a0 iCk rfl 13 (by decide) rfl q664 rfl rfl d_Ck_rules_293 ?_
                          refine lv_isub G.1 G.2.1 d_Ck_rules_296 ?_
                          exact J_297 s_7 r_4 (1 - (sV s_7 a0 13)) H locs h hP hD hS ls (lv_sub hl [1, 0] rfl)
                        · skip
                          have h := h.2 c280
                          refine lv_aload_n G.1 G.2.1 d_Ck_rules_283 rfl (lv_at hl 1 rfl) ?_
                          refine W.eq (g2 := F0 m 284 ls [.ref (ad a0)]) rfl ?_
                          refine ugf (v := .int (sV s_7 a0 13)) G hP h_a0 iCk rfl 13 (by decide) rfl q664 rfl rfl d_Ck_rules_284 ?_
                          refine lv_ineg G.1 G.2.1 d_Ck_rules_287 ?_
                          refine lv_goto (tgt := 297) G.1 G.2.1 d_Ck_rules_288 (by decide) ?_
                          exact J_297 s_7 r_4 (-(sV s_7 a0 13)) H locs h hP hD hS ls (lv_sub hl [1, 0] rfl)
                      · skip
                        have h := h.2 c267
                        refine lv_iconst (v := 0) G.1 G.2.1 d_Ck_rules_270 (by decide) ?_
                        refine lv_goto (tgt := 297) G.1 G.2.1 d_Ck_rules_271 (by decide) ?_
                        exact J_297 s_5 r_4 0 H locs h hP hD hS ls (lv_sub hl [1, 0] rfl)
                    · skip
                      have h := h.2 c254
                      exact J_257 s_5 r_4 H locs h hP hD hS ls (lv_sub hl [1, 0] rfl)
                · skip
                  have h := h.2 c227
                  refine lv_bipush (v := 39) G.1 G.2.1 d_Ck_rules_230 (by decide) ?_
                  exact hret _ _ _ _ _ _ _ ls h hP hD hS (Nat.le_refl _) (Nat.le_refl _) d_Ck_rules_232
              refine lv_icmp_ne (tgt := 225) G.1 G.2.1 d_Ck_rules_195 (by decide) (fun c195 => ?_) (fun c195 => ?_)
              · skip
                have h := h.1 c195
                exact J_225 s_j190 x1j190 x5j190 H locs h hP hD hS ls (lv_sub hl [0, 1, 3] rfl)
              · skip
                have h := h.2 c195
                refine lv_aload_n G.1 G.2.1 d_Ck_rules_198 rfl (lv_at hl 0 rfl) ?_
                refine ugf (v := .ref (yP y a0 15)) G hP h_a0 iCk rfl 15 (by decide) rfl q666 rfl rfl d_Ck_rules_199 ?_
                refine lv_iload_n G.1 G.2.1 d_Ck_rules_202 rfl (lv_at hl 2 rfl) ?_
                refine uiald G hP (kdp h_a0 rfl) (typ h_a0 rfl) h d_Ck_rules_203 (fun x_8 h => ?_)
                refine ucSi (As := [.int x_8]) (rest := []) G hP hD hS (cu_Ck_isReference l D g ad y _ s_j190 x_8 H.size  h) w9_Ck_isReference q1651 ⟨Nat.le_of_ble_eq_true rfl, Nat.le_of_ble_eq_true rfl⟩ rfl rfl hl.1 rfl (Nat.le_of_ble_eq_true rfl) rfl ⟨Nat.le_refl _, Nat.le_refl _⟩ d_Ck_rules_204 (fun r_9 s_10 H locs h hP hD hS => ?_)
                refine lv_if_ne (tgt := 225) G.1 G.2.1 d_Ck_rules_207 (by decide) (fun c207 => ?_) (fun c207 => ?_)
                · skip
                  have h := h.1 c207
                  exact J_225 s_10 x1j190 x5j190 H locs h hP hD hS ls (lv_sub hl [0, 1, 3] rfl)
                · skip
                  have h := h.2 c207
                  refine lv_aload_n G.1 G.2.1 d_Ck_rules_210 rfl (lv_at hl 0 rfl) ?_
                  refine W.eq (g2 := F0 m 211 ls [.ref (ad a0)]) rfl ?_
                  refine ugf (v := .ref (yP y a0 15)) G hP h_a0 iCk rfl 15 (by decide) rfl q666 rfl rfl d_Ck_rules_211 ?_
                  refine lv_iload_n G.1 G.2.1 d_Ck_rules_214 rfl (lv_at hl 2 rfl) ?_
                  refine uiald G hP (kdp h_a0 rfl) (typ h_a0 rfl) h d_Ck_rules_215 (fun x_11 h => ?_)
                  refine ucSi (As := [.int x_11]) (rest := []) G hP hD hS (cu_Ck_isRaw l D g ad y _ s_10 x_11 H.size  h) w9_Ck_isRaw q1648 ⟨Nat.le_of_ble_eq_true rfl, Nat.le_of_ble_eq_true rfl⟩ rfl rfl hl.1 rfl (Nat.le_of_ble_eq_true rfl) rfl ⟨Nat.le_refl _, Nat.le_refl _⟩ d_Ck_rules_216 (fun r_12 s_13 H locs h hP hD hS => ?_)
                  refine lv_if_ne (tgt := 225) G.1 G.2.1 d_Ck_rules_219 (by decide) (fun c219 => ?_) (fun c219 => ?_)
                  · skip
                    have h := h.1 c219
                    exact J_225 s_13 x1j190 x5j190 H locs h hP hD hS ls (lv_sub hl [0, 1, 3] rfl)
                  · skip
                    have h := h.2 c219
                    refine lv_bipush (v := 34) G.1 G.2.1 d_Ck_rules_222 (by decide) ?_
                    exact hret _ _ _ _ _ _ _ ls h hP hD hS (Nat.le_refl _) (Nat.le_refl _) d_Ck_rules_224
            have J_178 : ∀ (s_j178 : St) (x1j178 : Int32) (x3j178 : Int32) (x5j178 : Int32) (H : Heap) (locs : List Loc), wj_Ck_rules_178 y Post a0 s_j178 x1j178 x3j178 x5j178 → va_P D CL (ws g ad y s_j178) H → va_D A (ws g ad y s_j178) → va_S A s.heap H locs → ∀ ls, lv_has ls 9 [(0, .ref (ad a0)), (1, .int x1j178), (3, .int x3j178), (5, .int x5j178)] → W p l e ru_Ck_rules s m args below meth c H locs 0 0 Q (F0 m 178 ls []) := by
              intro s_j178 x1j178 x3j178 x5j178 H locs h hP hD hS ls hl
              unfold wj_Ck_rules_178 at h
              refine lv_aload_n G.1 G.2.1 d_Ck_rules_178 rfl (lv_at hl 0 rfl) ?_
              refine ugf (v := .ref (yP y a0 15)) G hP h_a0 iCk rfl 15 (by decide) rfl q666 rfl rfl d_Ck_rules_179 ?_
              refine lv_iload_n G.1 G.2.1 d_Ck_rules_182 rfl (lv_at hl 2 rfl) ?_
              refine uiald G hP (kdp h_a0 rfl) (typ h_a0 rfl) h d_Ck_rules_183 (fun x_14 h => ?_)
              refine lv_if_eq (tgt := 190) G.1 G.2.1 d_Ck_rules_184 (by decide) (fun c184 => ?_) (fun c184 => ?_)
              · skip
                have h := h.1 c184
                exact J_190 s_j178 x1j178 x3j178 x5j178 H locs h hP hD hS ls (lv_sub hl [0, 1, 2, 3] rfl)
              · skip
                have h := h.2 c184
                refine lv_bipush (v := 34) G.1 G.2.1 d_Ck_rules_187 (by decide) ?_
                exact hret _ _ _ _ _ _ _ ls h hP hD hS (Nat.le_refl _) (Nat.le_refl _) d_Ck_rules_189
            refine lv_icmp_eq (tgt := 178) G.1 G.2.1 d_Ck_rules_166 (by decide) (fun c166 => ?_) (fun c166 => ?_)
            · skip
              have h := h.1 c166
              exact J_178 s_h70 x1h70 x3h70 x5h70 H locs h hP hD hS ls (lv_sub hl [0, 1, 2, 4] rfl)
            · skip
              have h := h.2 c166
              refine lv_aload_n G.1 G.2.1 d_Ck_rules_169 rfl (lv_at hl 0 rfl) ?_
              refine ugf (v := .int (sV s_h70 a0 12)) G hP h_a0 iCk rfl 12 (by decide) rfl q663 rfl rfl d_Ck_rules_170 ?_
              refine lv_bipush (v := 7) G.1 G.2.1 d_Ck_rules_173 (by decide) ?_
              refine W.eq (g2 := F0 m 175 ls [.int 7, .int (sV s_h70 a0 12)]) rfl ?_
              refine lv_icmp_ne (tgt := 190) G.1 G.2.1 d_Ck_rules_175 (by decide) (fun c175 => ?_) (fun c175 => ?_)
              · skip
                have h := h.1 c175
                exact J_190 s_h70 x1h70 x3h70 x5h70 H locs h hP hD hS ls (lv_sub hl [0, 1, 2, 4] rfl)
              · skip
                have h := h.2 c175
                exact J_178 s_h70 x1h70 x3h70 x5h70 H locs h hP hD hS ls (lv_sub hl [0, 1, 2, 4] rfl)
          · skip
            have h := h.2 c76
            refine lv_aload_n G.1 G.2.1 d_Ck_rules_79 rfl (lv_at hl 0 rfl) ?_
            refine lv_iload G.1 G.2.1 d_Ck_rules_80 (lv_at hl 5 rfl) ?_
            refine usVi (As := [.int x6h70]) (rest := []) G hP hD hS (cu_Ck_want l D g F sl hF ad y _ s_h70 a0 x6h70 H.size h_a0 h) w9_Ck_want q1638 ⟨Nat.le_of_ble_eq_true rfl, Nat.le_of_ble_eq_true rfl⟩ rfl rfl h_a0 (q := (RCk, TCk, 22)) rfl rfl hl.1 rfl (Nat.le_of_ble_eq_true rfl) rfl ⟨Nat.le_refl _, Nat.le_refl _⟩ d_Ck_rules_82 (fun r_15 s_16 H locs h hP hD hS => ?_)
            refine lv_istore (lv' := [(7, .int r_15), (0, .ref (ad a0)), (1, .int x1h70), (3, .int x3h70), (4, .int x4h70), (5, .int x5h70), (6, .int x6h70)]) G.1 G.2.1 d_Ck_rules_85 hl (by decide) rfl (fun ls hl => ?_)
            refine lv_aload_n G.1 G.2.1 d_Ck_rules_87 rfl (lv_at hl 1 rfl) ?_
            refine lv_aload_n G.1 G.2.1 d_Ck_rules_88 rfl (lv_at hl 1 rfl) ?_
            refine ugf (v := .ref (yP y a0 15)) G hP h_a0 iCk rfl 15 (by decide) rfl q666 rfl rfl d_Ck_rules_89 ?_
            refine W.eq (g2 := F0 m 92 ls [.ref (yP y a0 15), .ref (ad a0)]) rfl ?_
            refine lv_iload G.1 G.2.1 d_Ck_rules_92 (lv_at hl 4 rfl) ?_
            refine lv_iload G.1 G.2.1 d_Ck_rules_94 (lv_at hl 6 rfl) ?_
            refine lv_isub G.1 G.2.1 d_Ck_rules_96 ?_
            refine uiald G hP (kdp h_a0 rfl) (typ h_a0 rfl) h d_Ck_rules_97 (fun x_17 h => ?_)
            refine lv_iload G.1 G.2.1 d_Ck_rules_98 (lv_at hl 0 rfl) ?_
            refine ucVi (As := [.int x_17, .int r_15]) (rest := []) G hP hD hS (cu_Ck_asWanted l D g ad y _ s_16 a0 x_17 r_15 H.size h_a0 h) w9_Ck_asWanted q1644 ⟨Nat.le_of_ble_eq_true rfl, Nat.le_of_ble_eq_true rfl⟩ rfl rfl h_a0 (q := (RCk, TCk, 22)) rfl rfl hl.1 rfl (Nat.le_of_ble_eq_true rfl) rfl ⟨Nat.le_refl _, Nat.le_refl _⟩ d_Ck_rules_100 (fun r_18 s_19 H locs h hP hD hS => ?_)
            refine lv_istore (lv' := [(8, .int r_18), (7, .int r_15), (0, .ref (ad a0)), (1, .int x1h70), (3, .int x3h70), (4, .int x4h70), (5, .int x5h70), (6, .int x6h70)]) G.1 G.2.1 d_Ck_rules_103 hl (by decide) rfl (fun ls hl => ?_)
            refine lv_iload G.1 G.2.1 d_Ck_rules_105 (lv_at hl 0 rfl) ?_
            refine lv_if_eq (tgt := 113) G.1 G.2.1 d_Ck_rules_107 (by decide) (fun c107 => ?_) (fun c107 => ?_)
            · skip
              have h := h.1 c107
              refine lv_iload G.1 G.2.1 d_Ck_rules_113 (lv_at hl 6 rfl) ?_
              have J_153 : ∀ (s_j153 : St) (x1j153 : Int32) (x3j153 : Int32) (x4j153 : Int32) (x6j153 : Int32) (z0j153 : Int32) (H : Heap) (locs : List Loc), wj_Ck_rules_153 y Post K_70 a0 s_j153 x1j153 x3j153 x4j153 x6j153 z0j153 → va_P D CL (ws g ad y s_j153) H → va_D A (ws g ad y s_j153) → va_S A s.heap H locs → ∀ ls, lv_has ls 9 [(0, .ref (ad a0)), (1, .int x1j153), (3, .int x3j153), (4, .int x4j153), (6, .int x6j153)] → W p l e ru_Ck_rules s m args below meth c H locs 0 0 Q (F0 m 153 ls [.int z0j153]) := by
                intro s_j153 x1j153 x3j153 x4j153 x6j153 z0j153 H locs h hP hD hS ls hl
                unfold wj_Ck_rules_153 at h
                refine lv_istore (lv' := [(5, .int z0j153), (0, .ref (ad a0)), (1, .int x1j153), (3, .int x3j153), (4, .int x4j153), (6, .int x6j153)]) G.1 G.2.1 d_Ck_rules_153 hl (by decide) rfl (fun ls hl => ?_)
                refine lv_iinc (v := x6j153 + 1) (lv' := [(6, .int (x6j153 + 1)), (5, .int z0j153), (0, .ref (ad a0)), (1, .int x1j153), (3, .int x3j153), (4, .int x4j153)]) G.1 G.2.1 d_Ck_rules_155 hl (k := 5) rfl rfl (by decide) rfl (fun ls hl => ?_)
                refine lv_goto (tgt := 70) G.1 G.2.1 d_Ck_rules_158 (by decide) ?_
                have h := hK_70 s_j153 x1j153 x3j153 x4j153 z0j153 (x6j153 + 1) h
                exact ih_70 s_j153 x1j153 x3j153 x4j153 z0j153 (x6j153 + 1) (Nat.lt_of_lt_of_le h.2 (Nat.le_of_lt_succ hμ_70)) h.1 H locs hP hD hS ls (lv_sub hl [2, 3, 4, 5, 1, 0] rfl)
              have J_148 : ∀ (s_j148 : St) (x1j148 : Int32) (x3j148 : Int32) (x4j148 : Int32) (x6j148 : Int32) (H : Heap) (locs : List Loc), wj_Ck_rules_148 y Post K_70 a0 s_j148 x1j148 x3j148 x4j148 x6j148 → va_P D CL (ws g ad y s_j148) H → va_D A (ws g ad y s_j148) → va_S A s.heap H locs → ∀ ls, lv_has ls 9 [(0, .ref (ad a0)), (1, .int x1j148), (3, .int x3j148), (4, .int x4j148), (6, .int x6j148)] → W p l e ru_Ck_rules s m args below meth c H locs 0 0 Q (F0 m 148 ls []) := by
                intro s_j148 x1j148 x3j148 x4j148 x6j148 H locs h hP hD hS ls hl
                unfold wj_Ck_rules_148 at h
                refine lv_iconst (v := 1) G.1 G.2.1 d_Ck_rules_148 (by decide) ?_
                refine lv_goto (tgt := 153) G.1 G.2.1 d_Ck_rules_149 (by decide) ?_
                exact J_153 s_j148 x1j148 x3j148 x4j148 x6j148 1 H locs h hP hD hS ls (lv_sub hl [0, 1, 2, 3, 4] rfl)
              refine lv_if_ne (tgt := 148) G.1 G.2.1 d_Ck_rules_115 (by decide) (fun c115 => ?_) (fun c115 => ?_)
              · skip
                have h := h.1 c115
                exact J_148 s_19 x1h70 x3h70 x4h70 x6h70 H locs h hP hD hS ls (lv_sub hl [2, 3, 4, 5, 7] rfl)
              · skip
                have h := h.2 c115
                refine lv_aload_n G.1 G.2.1 d_Ck_rules_118 rfl (lv_at hl 2 rfl) ?_
                refine W.eq (g2 := F0 m 119 ls [.ref (ad a0)]) rfl ?_
                refine ugf (v := .ref (yP y a0 15)) G hP h_a0 iCk rfl 15 (by decide) rfl q666 rfl rfl d_Ck_rules_119 ?_
                refine lv_iload G.1 G.2.1 d_Ck_rules_122 (lv_at hl 5 rfl) ?_
                refine lv_iload G.1 G.2.1 d_Ck_rules_124 (lv_at hl 7 rfl) ?_
                refine lv_isub G.1 G.2.1 d_Ck_rules_126 ?_
                refine uiald G hP (kdp h_a0 rfl) (typ h_a0 rfl) h d_Ck_rules_127 (fun x_20 h => ?_)
                refine ucSi (As := [.int x_20]) (rest := []) G hP hD hS (cu_Ck_isRaw l D g ad y _ s_19 x_20 H.size  h) w9_Ck_isRaw q1648 ⟨Nat.le_of_ble_eq_true rfl, Nat.le_of_ble_eq_true rfl⟩ rfl rfl hl.1 rfl (Nat.le_of_ble_eq_true rfl) rfl ⟨Nat.le_refl _, Nat.le_refl _⟩ d_Ck_rules_128 (fun r_21 s_22 H locs h hP hD hS => ?_)
                have J_152 : ∀ (s_j152 : St) (x1j152 : Int32) (x3j152 : Int32) (x4j152 : Int32) (x6j152 : Int32) (H : Heap) (locs : List Loc), wj_Ck_rules_152 y Post K_70 a0 s_j152 x1j152 x3j152 x4j152 x6j152 → va_P D CL (ws g ad y s_j152) H → va_D A (ws g ad y s_j152) → va_S A s.heap H locs → ∀ ls, lv_has ls 9 [(0, .ref (ad a0)), (1, .int x1j152), (3, .int x3j152), (4, .int x4j152), (6, .int x6j152)] → W p l e ru_Ck_rules s m args below meth c H locs 0 0 Q (F0 m 152 ls []) := by
                  intro s_j152 x1j152 x3j152 x4j152 x6j152 H locs h hP hD hS ls hl
                  unfold wj_Ck_rules_152 at h
                  refine lv_iconst (v := 0) G.1 G.2.1 d_Ck_rules_152 (by decide) ?_
                  exact J_153 s_j152 x1j152 x3j152 x4j152 x6j152 0 H locs h hP hD hS ls (lv_sub hl [0, 1, 2, 3, 4] rfl)
                refine lv_if_eq (tgt := 152) G.1 G.2.1 d_Ck_rules_131 (by decide) (fun c131 => ?_) (fun c131 => ?_)
                · skip
                  have h := h.1 c131
                  exact J_152 s_22 x1h70 x3h70 x4h70 x6h70 H locs h hP hD hS ls (lv_sub hl [2, 3, 4, 5, 7] rfl)
                · skip
                  have h := h.2 c131
                  refine lv_iload G.1 G.2.1 d_Ck_rules_134 (lv_at hl 1 rfl) ?_
                  refine lv_ldc (v := (-2147483648)) G.1 G.2.1 G.2.2.2.2.2.2.1 (G.2.2.2.2.2.1 _ q1611) d_Ck_rules_136 ?_
                  refine lv_icmp_eq (tgt := 152) G.1 G.2.1 d_Ck_rules_138 (by decide) (fun c138 => ?_) (fun c138 => ?_)
                  · skip
                    have h := h.1 c138
                    exact J_152 s_22 x1h70 x3h70 x4h70 x6h70 H locs h hP hD hS ls (lv_sub hl [2, 3, 4, 5, 7] rfl)
                  · skip
                    have h := h.2 c138
                    refine lv_iload G.1 G.2.1 d_Ck_rules_141 (lv_at hl 1 rfl) ?_
                    refine lv_ldc (v := (-2147483646)) G.1 G.2.1 G.2.2.2.2.2.2.1 (G.2.2.2.2.2.1 _ q1643) d_Ck_rules_143 ?_
                    refine W.eq (g2 := F0 m 145 ls [.int (-2147483646), .int r_15]) rfl ?_
                    refine lv_icmp_eq (tgt := 152) G.1 G.2.1 d_Ck_rules_145 (by decide) (fun c145 => ?_) (fun c145 => ?_)
                    · skip
                      have h := h.1 c145
                      exact J_152 s_22 x1h70 x3h70 x4h70 x6h70 H locs h hP hD hS ls (lv_sub hl [2, 3, 4, 5, 7] rfl)
                    · skip
                      have h := h.2 c145
                      exact J_148 s_22 x1h70 x3h70 x4h70 x6h70 H locs h hP hD hS ls (lv_sub hl [2, 3, 4, 5, 7] rfl)
            · skip
              have h := h.2 c107
              refine lv_iload G.1 G.2.1 d_Ck_rules_110 (lv_at hl 0 rfl) ?_
              exact hret _ _ _ _ _ _ _ ls h hP hD hS (Nat.le_refl _) (Nat.le_refl _) d_Ck_rules_112
      exact L_70 _ s_j39 x1j39 x3j39 ((20 + (sV s_j39 a0 16)) - 1) 0 0 (Nat.lt_succ_self _) hI_70 H locs hP hD hS ls (lv_sub hl [3, 4, 5, 2, 1, 0] rfl)
    · skip
      have h := h.2 c47
      refine lv_bipush (v := 31) G.1 G.2.1 d_Ck_rules_50 (by decide) ?_
      exact hret _ _ _ _ _ _ _ ls h hP hD hS (Nat.le_refl _) (Nat.le_refl _) d_Ck_rules_52
  have J_28 : ∀ (s_j28 : St) (x1j28 : Int32) (x3j28 : Int32) (H : Heap) (locs : List Loc), wj_Ck_rules_28 y Post a0 s_j28 x1j28 x3j28 → va_P D CL (ws g ad y s_j28) H → va_D A (ws g ad y s_j28) → va_S A s.heap H locs → ∀ ls, lv_has ls 9 [(0, .ref (ad a0)), (1, .int x1j28), (3, .int x3j28)] → W p l e ru_Ck_rules s m args below meth c H locs 0 0 Q (F0 m 28 ls []) := by
    intro s_j28 x1j28 x3j28 H locs h hP hD hS ls hl
    unfold wj_Ck_rules_28 at h
    refine lv_iload_n G.1 G.2.1 d_Ck_rules_28 rfl (lv_at hl 2 rfl) ?_
    refine lv_aload_n G.1 G.2.1 d_Ck_rules_29 rfl (lv_at hl 0 rfl) ?_
    refine ugf (v := .int (sV s_j28 a0 7)) G hP h_a0 iCk rfl 7 (by decide) rfl q658 rfl rfl d_Ck_rules_30 ?_
    refine lv_icmp_lt (tgt := 39) G.1 G.2.1 d_Ck_rules_33 (by decide) (fun c33 => ?_) (fun c33 => ?_)
    · skip
      have h := h.1 c33
      exact J_39 s_j28 x1j28 x3j28 H locs h hP hD hS ls (lv_sub hl [0, 1, 2] rfl)
    · skip
      have h := h.2 c33
      refine lv_bipush (v := 33) G.1 G.2.1 d_Ck_rules_36 (by decide) ?_
      exact hret _ _ _ _ _ _ _ ls h hP hD hS (Nat.le_refl _) (Nat.le_refl _) d_Ck_rules_38
  refine W.eq (g2 := F0 m 19 ls [.int 105, .int x_1]) rfl ?_
  refine lv_icmp_eq (tgt := 28) G.1 G.2.1 d_Ck_rules_19 (by decide) (fun c19 => ?_) (fun c19 => ?_)
  · skip
    have h := h.1 c19
    exact J_28 s_3 v1 r_2 H locs h hP hD hS ls (lv_sub hl [2, 3, 0] rfl)
  · skip
    have h := h.2 c19
    refine lv_iload_n G.1 G.2.1 d_Ck_rules_22 rfl (lv_at hl 1 rfl) ?_
    refine lv_bipush (v := 106) G.1 G.2.1 d_Ck_rules_23 (by decide) ?_
    refine lv_icmp_ne (tgt := 39) G.1 G.2.1 d_Ck_rules_25 (by decide) (fun c25 => ?_) (fun c25 => ?_)
    · skip
      have h := h.1 c25
      exact J_39 s_3 v1 r_2 H locs h hP hD hS ls (lv_sub hl [2, 3, 0] rfl)
    · skip
      have h := h.2 c25
      exact J_28 s_3 v1 r_2 H locs h hP hD hS ls (lv_sub hl [2, 3, 0] rfl)
theorem q1672 : Cond.methodLink "ClassWorks$Checker" 231 y_Ck_turn ∈ lw_ok := lw_okmem (List.mem_of_getElem? (i := 1672) (by decide +kernel)) rfl
theorem q1675 : Cond.code y_Ck_turn b_Ck_turn 3 (none) ∈ lw_ok := lw_okmem (List.mem_of_getElem? (i := 1675) (by decide +kernel)) rfl
theorem q1674 : Cond.instanceMethod y_Ck_turn ∈ lw_ok := lw_okmem (List.mem_of_getElem? (i := 1674) (by decide +kernel)) rfl
theorem q66 : Cond.selects y_Ck_turn.cls y_Ck_turn y_Ck_turn ∈ lw_ok := lw_okmem (List.mem_of_getElem? (i := 66) (by decide +kernel)) rfl
theorem w9_Ck_turn : CWv y_Ck_turn b_Ck_turn 3 (none) 1 ∧ Cond.instanceMethod y_Ck_turn ∈ lw_ok ∧ Cond.selects y_Ck_turn.cls y_Ck_turn y_Ck_turn ∈ lw_ok := ⟨⟨q1675, q341, by decide +kernel, by decide +kernel, by decide +kernel⟩, q1674, q66⟩
theorem q1676 : Cond.methodLink "ClassWorks$Checker" 234 y_Ck_made ∈ lw_ok := lw_okmem (List.mem_of_getElem? (i := 1676) (by decide +kernel)) rfl
theorem q1679 : Cond.code y_Ck_made b_Ck_made 4 (none) ∈ lw_ok := lw_okmem (List.mem_of_getElem? (i := 1679) (by decide +kernel)) rfl
theorem q1678 : Cond.instanceMethod y_Ck_made ∈ lw_ok := lw_okmem (List.mem_of_getElem? (i := 1678) (by decide +kernel)) rfl
theorem q67 : Cond.selects y_Ck_made.cls y_Ck_made y_Ck_made ∈ lw_ok := lw_okmem (List.mem_of_getElem? (i := 67) (by decide +kernel)) rfl
theorem w9_Ck_made : CWv y_Ck_made b_Ck_made 4 (none) 1 ∧ Cond.instanceMethod y_Ck_made ∈ lw_ok ∧ Cond.selects y_Ck_made.cls y_Ck_made y_Ck_made ∈ lw_ok := ⟨⟨q1679, q341, by decide +kernel, by decide +kernel, by decide +kernel⟩, q1678, q67⟩
def y_Ck_act : MethodName := ⟨"ClassWorks$Checker", "act", "(I)V"⟩
abbrev b_Ck_act : ByteArray := prog_2_method_23_code
theorem d_Ck_act_0 : decode b_Ck_act 0 = .ok (.bipush 20, 2) := by decide +kernel
theorem d_Ck_act_2 : decode b_Ck_act 2 = .ok (.aload_n 0, 1) := by decide +kernel
theorem d_Ck_act_3 : decode b_Ck_act 3 = .ok (.getfield 56, 3) := by decide +kernel
theorem d_Ck_act_6 : decode b_Ck_act 6 = .ok (.iadd, 1) := by decide +kernel
theorem d_Ck_act_7 : decode b_Ck_act 7 = .ok (.iconst 1, 1) := by decide +kernel
theorem d_Ck_act_8 : decode b_Ck_act 8 = .ok (.isub, 1) := by decide +kernel
theorem d_Ck_act_9 : decode b_Ck_act 9 = .ok (.istore_n 2, 1) := by decide +kernel
theorem d_Ck_act_10 : decode b_Ck_act 10 = .ok (.aload_n 0, 1) := by decide +kernel
theorem d_Ck_act_11 : decode b_Ck_act 11 = .ok (.getfield 43, 3) := by decide +kernel
theorem d_Ck_act_14 : decode b_Ck_act 14 = .ok (.bipush 20, 2) := by decide +kernel
theorem d_Ck_act_16 : decode b_Ck_act 16 = .ok (.if_icmp .eq 21, 3) := by decide +kernel
theorem d_Ck_act_19 : decode b_Ck_act 19 = .ok (.aload_n 0, 1) := by decide +kernel
theorem d_Ck_act_20 : decode b_Ck_act 20 = .ok (.getfield 43, 3) := by decide +kernel
theorem d_Ck_act_23 : decode b_Ck_act 23 = .ok (.bipush 21, 2) := by decide +kernel
theorem d_Ck_act_25 : decode b_Ck_act 25 = .ok (.if_icmp .eq 12, 3) := by decide +kernel
theorem d_Ck_act_28 : decode b_Ck_act 28 = .ok (.aload_n 0, 1) := by decide +kernel
theorem d_Ck_act_29 : decode b_Ck_act 29 = .ok (.getfield 43, 3) := by decide +kernel
theorem d_Ck_act_32 : decode b_Ck_act 32 = .ok (.bipush 22, 2) := by decide +kernel
theorem d_Ck_act_34 : decode b_Ck_act 34 = .ok (.if_icmp .ne 9, 3) := by decide +kernel
theorem d_Ck_act_37 : decode b_Ck_act 37 = .ok (.aload_n 0, 1) := by decide +kernel
theorem d_Ck_act_38 : decode b_Ck_act 38 = .ok (.iload_n 2, 1) := by decide +kernel
theorem d_Ck_act_39 : decode b_Ck_act 39 = .ok (.invokevirtual 231, 3) := by decide +kernel
theorem d_Ck_act_42 : decode b_Ck_act 42 = .ok (.return_, 1) := by decide +kernel
theorem d_Ck_act_43 : decode b_Ck_act 43 = .ok (.aload_n 0, 1) := by decide +kernel
theorem d_Ck_act_44 : decode b_Ck_act 44 = .ok (.iload_n 1, 1) := by decide +kernel
theorem d_Ck_act_45 : decode b_Ck_act 45 = .ok (.invokevirtual 220, 3) := by decide +kernel
theorem d_Ck_act_48 : decode b_Ck_act 48 = .ok (.istore_n 3, 1) := by decide +kernel
theorem d_Ck_act_49 : decode b_Ck_act 49 = .ok (.aload_n 0, 1) := by decide +kernel
theorem d_Ck_act_50 : decode b_Ck_act 50 = .ok (.getfield 43, 3) := by decide +kernel
theorem d_Ck_act_53 : decode b_Ck_act 53 = .ok (.iconst 5, 1) := by decide +kernel
theorem d_Ck_act_54 : decode b_Ck_act 54 = .ok (.if_icmp .eq 12, 3) := by decide +kernel
theorem d_Ck_act_57 : decode b_Ck_act 57 = .ok (.aload_n 0, 1) := by decide +kernel
theorem d_Ck_act_58 : decode b_Ck_act 58 = .ok (.getfield 43, 3) := by decide +kernel
theorem d_Ck_act_61 : decode b_Ck_act 61 = .ok (.bipush 6, 2) := by decide +kernel
theorem d_Ck_act_63 : decode b_Ck_act 63 = .ok (.if_icmp .ne 22, 3) := by decide +kernel
theorem d_Ck_act_66 : decode b_Ck_act 66 = .ok (.aload_n 0, 1) := by decide +kernel
theorem d_Ck_act_67 : decode b_Ck_act 67 = .ok (.getfield 52, 3) := by decide +kernel
theorem d_Ck_act_70 : decode b_Ck_act 70 = .ok (.aload_n 0, 1) := by decide +kernel
theorem d_Ck_act_71 : decode b_Ck_act 71 = .ok (.iconst 1, 1) := by decide +kernel
theorem d_Ck_act_72 : decode b_Ck_act 72 = .ok (.invokevirtual 172, 3) := by decide +kernel
theorem d_Ck_act_75 : decode b_Ck_act 75 = .ok (.aload_n 0, 1) := by decide +kernel
theorem d_Ck_act_76 : decode b_Ck_act 76 = .ok (.getfield 52, 3) := by decide +kernel
theorem d_Ck_act_79 : decode b_Ck_act 79 = .ok (.iload_n 2, 1) := by decide +kernel
theorem d_Ck_act_80 : decode b_Ck_act 80 = .ok (.iaload, 1) := by decide +kernel
theorem d_Ck_act_81 : decode b_Ck_act 81 = .ok (.iastore, 1) := by decide +kernel
theorem d_Ck_act_82 : decode b_Ck_act 82 = .ok (.goto 36, 3) := by decide +kernel
theorem d_Ck_act_85 : decode b_Ck_act 85 = .ok (.aload_n 0, 1) := by decide +kernel
theorem d_Ck_act_86 : decode b_Ck_act 86 = .ok (.getfield 43, 3) := by decide +kernel
theorem d_Ck_act_89 : decode b_Ck_act 89 = .ok (.bipush 51, 2) := by decide +kernel
theorem d_Ck_act_91 : decode b_Ck_act 91 = .ok (.if_icmp .ne 27, 3) := by decide +kernel
theorem d_Ck_act_94 : decode b_Ck_act 94 = .ok (.aload_n 0, 1) := by decide +kernel
theorem d_Ck_act_95 : decode b_Ck_act 95 = .ok (.getfield 49, 3) := by decide +kernel
theorem d_Ck_act_98 : decode b_Ck_act 98 = .ok (.ifCond .eq 20, 3) := by decide +kernel
theorem d_Ck_act_101 : decode b_Ck_act 101 = .ok (.aload_n 0, 1) := by decide +kernel
theorem d_Ck_act_102 : decode b_Ck_act 102 = .ok (.aload_n 0, 1) := by decide +kernel
theorem d_Ck_act_103 : decode b_Ck_act 103 = .ok (.getfield 52, 3) := by decide +kernel
theorem d_Ck_act_106 : decode b_Ck_act 106 = .ok (.iload_n 2, 1) := by decide +kernel
theorem d_Ck_act_107 : decode b_Ck_act 107 = .ok (.iconst 1, 1) := by decide +kernel
theorem d_Ck_act_108 : decode b_Ck_act 108 = .ok (.iadd, 1) := by decide +kernel
theorem d_Ck_act_109 : decode b_Ck_act 109 = .ok (.aload_n 0, 1) := by decide +kernel
theorem d_Ck_act_110 : decode b_Ck_act 110 = .ok (.getfield 46, 3) := by decide +kernel
theorem d_Ck_act_113 : decode b_Ck_act 113 = .ok (.isub, 1) := by decide +kernel
theorem d_Ck_act_114 : decode b_Ck_act 114 = .ok (.iaload, 1) := by decide +kernel
theorem d_Ck_act_115 : decode b_Ck_act 115 = .ok (.invokevirtual 234, 3) := by decide +kernel
theorem d_Ck_act_118 : decode b_Ck_act 118 = .ok (.aload_n 0, 1) := by decide +kernel
theorem d_Ck_act_119 : decode b_Ck_act 119 = .ok (.dup, 1) := by decide +kernel
theorem d_Ck_act_120 : decode b_Ck_act 120 = .ok (.getfield 56, 3) := by decide +kernel
theorem d_Ck_act_123 : decode b_Ck_act 123 = .ok (.aload_n 0, 1) := by decide +kernel
theorem d_Ck_act_124 : decode b_Ck_act 124 = .ok (.getfield 46, 3) := by decide +kernel
theorem d_Ck_act_127 : decode b_Ck_act 127 = .ok (.isub, 1) := by decide +kernel
theorem d_Ck_act_128 : decode b_Ck_act 128 = .ok (.putfield 56, 3) := by decide +kernel
theorem d_Ck_act_131 : decode b_Ck_act 131 = .ok (.iload_n 3, 1) := by decide +kernel
theorem d_Ck_act_132 : decode b_Ck_act 132 = .ok (.iconst 5, 1) := by decide +kernel
theorem d_Ck_act_133 : decode b_Ck_act 133 = .ok (.if_icmp .eq 26, 3) := by decide +kernel
theorem d_Ck_act_136 : decode b_Ck_act 136 = .ok (.aload_n 0, 1) := by decide +kernel
theorem d_Ck_act_137 : decode b_Ck_act 137 = .ok (.getfield 52, 3) := by decide +kernel
theorem d_Ck_act_140 : decode b_Ck_act 140 = .ok (.bipush 20, 2) := by decide +kernel
theorem d_Ck_act_142 : decode b_Ck_act 142 = .ok (.aload_n 0, 1) := by decide +kernel
theorem d_Ck_act_143 : decode b_Ck_act 143 = .ok (.getfield 56, 3) := by decide +kernel
theorem d_Ck_act_146 : decode b_Ck_act 146 = .ok (.iadd, 1) := by decide +kernel
theorem d_Ck_act_147 : decode b_Ck_act 147 = .ok (.iload_n 3, 1) := by decide +kernel
theorem d_Ck_act_148 : decode b_Ck_act 148 = .ok (.iastore, 1) := by decide +kernel
theorem d_Ck_act_149 : decode b_Ck_act 149 = .ok (.aload_n 0, 1) := by decide +kernel
theorem d_Ck_act_150 : decode b_Ck_act 150 = .ok (.dup, 1) := by decide +kernel
theorem d_Ck_act_151 : decode b_Ck_act 151 = .ok (.getfield 56, 3) := by decide +kernel
theorem d_Ck_act_154 : decode b_Ck_act 154 = .ok (.iconst 1, 1) := by decide +kernel
theorem d_Ck_act_155 : decode b_Ck_act 155 = .ok (.iadd, 1) := by decide +kernel
theorem d_Ck_act_156 : decode b_Ck_act 156 = .ok (.putfield 56, 3) := by decide +kernel
theorem d_Ck_act_159 : decode b_Ck_act 159 = .ok (.return_, 1) := by decide +kernel
abbrev ru_Ck_act : Room := { frames := 5, cells := 0, slots := 0, locals := 106 }
def wj_Ck_act_37 (y : Ly) (Post : St → Prop) (a0 : Nat) (s_j37 : St) (x2j37 : Int32) : Prop := wu_Ck_turn y (fun (s_2 : St) => Post s_2) s_j37 a0 x2j37
def wj_Ck_act_159 (y : Ly) (Post : St → Prop) (a0 : Nat) (s_j159 : St) : Prop := Post s_j159
def wj_Ck_act_118 (y : Ly) (Post : St → Prop) (a0 : Nat) (s_j118 : St) (x3j118 : Int32) : Prop := xP (uV s_j118 a0 16 ((sV s_j118 a0 16) - (sV s_j118 a0 13))) (fun s_5 : St => ((x3j118 = 5 → wj_Ck_act_159 y Post a0 s_5) ∧ (¬ (x3j118 = 5) → xS y s_5 a0 15 (20 + (sV s_5 a0 16)) x3j118 (fun s_6 : St => xP (uV s_6 a0 16 ((sV s_6 a0 16) + 1)) (fun s_7 : St => wj_Ck_act_159 y Post a0 s_7)))))
def wj_Ck_act_66 (y : Ly) (Post : St → Prop) (a0 : Nat) (s_j66 : St) (x2j66 : Int32) (x3j66 : Int32) : Prop := wu_Ck_operand y (fun (s_9 : St) (r_8 : Int32) => xA y s_9 a0 15 x2j66 (fun x_10 : Int32 => xS y s_9 a0 15 r_8 x_10 (fun s_11 : St => wj_Ck_act_118 y Post a0 s_11 x3j66))) s_j66 a0 1
def wu_Ck_act (y : Ly) (Post : St → Prop) (σ : St) (a0 : Nat) (v1 : Int32) : Prop := (((sV σ a0 12) = 20 → wj_Ck_act_37 y Post a0 σ ((20 + (sV σ a0 16)) - 1)) ∧ (¬ ((sV σ a0 12) = 20) → (((sV σ a0 12) = 21 → wj_Ck_act_37 y Post a0 σ ((20 + (sV σ a0 16)) - 1)) ∧ (¬ ((sV σ a0 12) = 21) → ((¬ (sV σ a0 12) = 22 → wu_Ck_comes y (fun (s_4 : St) (r_3 : Int32) => (((sV s_4 a0 12) = 5 → wj_Ck_act_66 y Post a0 s_4 ((20 + (sV σ a0 16)) - 1) r_3) ∧ (¬ ((sV s_4 a0 12) = 5) → ((¬ (sV s_4 a0 12) = 6 → ((¬ (sV s_4 a0 12) = 51 → wj_Ck_act_118 y Post a0 s_4 r_3) ∧ ((sV s_4 a0 12) = 51 → (((sV s_4 a0 14) = 0 → wj_Ck_act_118 y Post a0 s_4 r_3) ∧ (¬ ((sV s_4 a0 14) = 0) → xA y s_4 a0 15 ((((20 + (sV σ a0 16)) - 1) + 1) - (sV s_4 a0 13)) (fun x_12 : Int32 => wu_Ck_made y (fun (s_14 : St) => wj_Ck_act_118 y Post a0 s_14 r_3) s_4 a0 x_12)))))) ∧ ((sV s_4 a0 12) = 6 → wj_Ck_act_66 y Post a0 s_4 ((20 + (sV σ a0 16)) - 1) r_3))))) σ a0 v1) ∧ ((sV σ a0 12) = 22 → wj_Ck_act_37 y Post a0 σ ((20 + (sV σ a0 16)) - 1)))))))
set_option maxHeartbeats 4000000 in
set_option maxRecDepth 100000 in
theorem cu_Ck_act (l : Launch) (D : va_G) (g : Nat → ClassId) (F : Nat → SL) (sl : List SL) (hF : SOK F sl) (ad : Nat → Nat) (y : Ly) (Post : St → Prop) (σ : St) (a0 : Nat) (v1 : Int32) (sz : Nat) (h_a0 : cl a0 = 0) (h : wu_Ck_act y Post σ a0 v1) : Met l y_Ck_act (mw y_Ck_act b_Ck_act 4 (none)) ru_Ck_act (PC g D sl [.ref (ad a0), .int v1] sz (ws g ad y σ)) (va_Qv (fun u : St => Post u) (QW D (va_A (ws g ad y σ) sz) (fun u => ws g ad y u)) (va_A (ws g ad y σ) sz)) 0 0 (va_A (ws g ad y σ) sz) := by
  refine ofV (by decide +kernel) (Nat.le_of_ble_eq_true rfl) ?_
  intro p e s m args below meth c A Q ls H locs G hsz hP hD hS hl hret
  subst hsz
  have hl : lv_has ls 4 [(0, .ref (ad a0)), (1, .int v1)] := hl
  unfold wu_Ck_act at h
  refine lv_bipush (v := 20) G.1 G.2.1 d_Ck_act_0 (by decide) ?_
  refine lv_aload_n G.1 G.2.1 d_Ck_act_2 rfl (lv_at hl 0 rfl) ?_
  refine ugf (v := .int (sV σ a0 16)) G hP h_a0 iCk rfl 16 (by decide) rfl q667 rfl rfl d_Ck_act_3 ?_
  refine lv_iadd G.1 G.2.1 d_Ck_act_6 ?_
  refine lv_iconst (v := 1) G.1 G.2.1 d_Ck_act_7 (by decide) ?_
  refine lv_isub G.1 G.2.1 d_Ck_act_8 ?_
  refine lv_istore_n (lv' := [(2, .int ((20 + (sV σ a0 16)) - 1)), (0, .ref (ad a0)), (1, .int v1)]) G.1 G.2.1 d_Ck_act_9 rfl hl (by decide) rfl (fun ls hl => ?_)
  refine lv_aload_n G.1 G.2.1 d_Ck_act_10 rfl (lv_at hl 1 rfl) ?_
  refine ugf (v := .int (sV σ a0 12)) G hP h_a0 iCk rfl 12 (by decide) rfl q663 rfl rfl d_Ck_act_11 ?_
  refine lv_bipush (v := 20) G.1 G.2.1 d_Ck_act_14 (by decide) ?_
  have J_37 : ∀ (s_j37 : St) (x2j37 : Int32) (H : Heap) (locs : List Loc), wj_Ck_act_37 y Post a0 s_j37 x2j37 → va_P D CL (ws g ad y s_j37) H → va_D A (ws g ad y s_j37) → va_S A s.heap H locs → ∀ ls, lv_has ls 4 [(0, .ref (ad a0)), (2, .int x2j37)] → W p l e ru_Ck_act s m args below meth c H locs 0 0 Q (F0 m 37 ls []) := by
    intro s_j37 x2j37 H locs h hP hD hS ls hl
    unfold wj_Ck_act_37 at h
    refine lv_aload_n G.1 G.2.1 d_Ck_act_37 rfl (lv_at hl 0 rfl) ?_
    refine lv_iload_n G.1 G.2.1 d_Ck_act_38 rfl (lv_at hl 1 rfl) ?_
    refine ucVv (As := [.int x2j37]) (rest := []) G hP hD hS (cu_Ck_turn l D g ad y _ s_j37 a0 x2j37 H.size h_a0 h) w9_Ck_turn q1672 ⟨Nat.le_of_ble_eq_true rfl, Nat.le_of_ble_eq_true rfl⟩ rfl rfl h_a0 (q := (RCk, TCk, 22)) rfl rfl hl.1 rfl (Nat.le_of_ble_eq_true rfl) rfl ⟨Nat.le_refl _, Nat.le_refl _⟩ d_Ck_act_39 (fun s_2 H locs h hP hD hS => ?_)
    exact hret _ _ _ _ _ _ ls h hP hD hS (Nat.le_refl _) (Nat.le_refl _) d_Ck_act_42
  refine lv_icmp_eq (tgt := 37) G.1 G.2.1 d_Ck_act_16 (by decide) (fun c16 => ?_) (fun c16 => ?_)
  · skip
    have h := h.1 c16
    exact J_37 σ ((20 + (sV σ a0 16)) - 1) H locs h hP hD hS ls (lv_sub hl [1, 0] rfl)
  · skip
    have h := h.2 c16
    refine W.eq (g2 := F0 m 19 ls []) rfl ?_
    refine lv_aload_n G.1 G.2.1 d_Ck_act_19 rfl (lv_at hl 1 rfl) ?_
    refine ugf (v := .int (sV σ a0 12)) G hP h_a0 iCk rfl 12 (by decide) rfl q663 rfl rfl d_Ck_act_20 ?_
    refine lv_bipush (v := 21) G.1 G.2.1 d_Ck_act_23 (by decide) ?_
    refine lv_icmp_eq (tgt := 37) G.1 G.2.1 d_Ck_act_25 (by decide) (fun c25 => ?_) (fun c25 => ?_)
    · skip
      have h := h.1 c25
      exact J_37 σ ((20 + (sV σ a0 16)) - 1) H locs h hP hD hS ls (lv_sub hl [1, 0] rfl)
    · skip
      have h := h.2 c25
      refine lv_aload_n G.1 G.2.1 d_Ck_act_28 rfl (lv_at hl 1 rfl) ?_
      refine ugf (v := .int (sV σ a0 12)) G hP h_a0 iCk rfl 12 (by decide) rfl q663 rfl rfl d_Ck_act_29 ?_
      refine lv_bipush (v := 22) G.1 G.2.1 d_Ck_act_32 (by decide) ?_
      refine lv_icmp_ne (tgt := 43) G.1 G.2.1 d_Ck_act_34 (by decide) (fun c34 => ?_) (fun c34 => ?_)
      · skip
        have h := h.1 c34
        refine lv_aload_n G.1 G.2.1 d_Ck_act_43 rfl (lv_at hl 1 rfl) ?_
        refine lv_iload_n G.1 G.2.1 d_Ck_act_44 rfl (lv_at hl 2 rfl) ?_
        refine usVi (As := [.int v1]) (rest := []) G hP hD hS (cu_Ck_comes l D g F sl hF ad y _ σ a0 v1 H.size h_a0 h) w9_Ck_comes q1663 ⟨Nat.le_of_ble_eq_true rfl, Nat.le_of_ble_eq_true rfl⟩ rfl rfl h_a0 (q := (RCk, TCk, 22)) rfl rfl hl.1 rfl (Nat.le_of_ble_eq_true rfl) rfl ⟨Nat.le_refl _, Nat.le_refl _⟩ d_Ck_act_45 (fun r_3 s_4 H locs h hP hD hS => ?_)
        refine lv_istore_n (lv' := [(3, .int r_3), (2, .int ((20 + (sV σ a0 16)) - 1)), (0, .ref (ad a0)), (1, .int v1)]) G.1 G.2.1 d_Ck_act_48 rfl hl (by decide) rfl (fun ls hl => ?_)
        refine W.eq (g2 := F0 m 49 ls []) rfl ?_
        refine lv_aload_n G.1 G.2.1 d_Ck_act_49 rfl (lv_at hl 2 rfl) ?_
        refine ugf (v := .int (sV s_4 a0 12)) G hP h_a0 iCk rfl 12 (by decide) rfl q663 rfl rfl d_Ck_act_50 ?_
        refine lv_iconst (v := 5) G.1 G.2.1 d_Ck_act_53 (by decide) ?_
        have J_118 : ∀ (s_j118 : St) (x3j118 : Int32) (H : Heap) (locs : List Loc), wj_Ck_act_118 y Post a0 s_j118 x3j118 → va_P D CL (ws g ad y s_j118) H → va_D A (ws g ad y s_j118) → va_S A s.heap H locs → ∀ ls, lv_has ls 4 [(0, .ref (ad a0)), (3, .int x3j118)] → W p l e ru_Ck_act s m args below meth c H locs 0 0 Q (F0 m 118 ls []) := by
          intro s_j118 x3j118 H locs h hP hD hS ls hl
          unfold wj_Ck_act_118 at h
          refine lv_aload_n G.1 G.2.1 d_Ck_act_118 rfl (lv_at hl 0 rfl) ?_
          refine lv_dup G.1 G.2.1 d_Ck_act_119 rfl ?_
          refine ugf (v := .int (sV s_j118 a0 16)) G hP h_a0 iCk rfl 16 (by decide) rfl q667 rfl rfl d_Ck_act_120 ?_
          refine lv_aload_n G.1 G.2.1 d_Ck_act_123 rfl (lv_at hl 0 rfl) ?_
          refine ugf (v := .int (sV s_j118 a0 13)) G hP h_a0 iCk rfl 13 (by decide) rfl q664 rfl rfl d_Ck_act_124 ?_
          refine lv_isub G.1 G.2.1 d_Ck_act_127 ?_
          refine upf G hP hD hS h 16 putV h_a0 iCk tCk tCk_ok nCk rfl (by decide) rfl q667 rfl rfl fV rfl rfl d_Ck_act_128 (fun s_5 H locs h hP hD hS => ?_)
          refine lv_iload_n G.1 G.2.1 d_Ck_act_131 rfl (lv_at hl 1 rfl) ?_
          refine lv_iconst (v := 5) G.1 G.2.1 d_Ck_act_132 (by decide) ?_
          have J_159 : ∀ (s_j159 : St) (H : Heap) (locs : List Loc), wj_Ck_act_159 y Post a0 s_j159 → va_P D CL (ws g ad y s_j159) H → va_D A (ws g ad y s_j159) → va_S A s.heap H locs → ∀ ls, lv_has ls 4 [] → W p l e ru_Ck_act s m args below meth c H locs 0 0 Q (F0 m 159 ls []) := by
            intro s_j159 H locs h hP hD hS ls hl
            unfold wj_Ck_act_159 at h
            exact hret _ _ _ _ _ _ ls h hP hD hS (Nat.le_refl _) (Nat.le_refl _) d_Ck_act_159
          refine lv_icmp_eq (tgt := 159) G.1 G.2.1 d_Ck_act_133 (by decide) (fun c133 => ?_) (fun c133 => ?_)
          · skip
            have h := h.1 c133
            exact J_159 s_5 H locs h hP hD hS ls (lv_sub hl [] rfl)
          · skip
            have h := h.2 c133
            refine lv_aload_n G.1 G.2.1 d_Ck_act_136 rfl (lv_at hl 0 rfl) ?_
            refine W.eq (g2 := F0 m 137 ls [.ref (ad a0)]) rfl ?_
            refine ugf (v := .ref (yP y a0 15)) G hP h_a0 iCk rfl 15 (by decide) rfl q666 rfl rfl d_Ck_act_137 ?_
            refine lv_bipush (v := 20) G.1 G.2.1 d_Ck_act_140 (by decide) ?_
            refine lv_aload_n G.1 G.2.1 d_Ck_act_142 rfl (lv_at hl 0 rfl) ?_
            refine ugf (v := .int (sV s_5 a0 16)) G hP h_a0 iCk rfl 16 (by decide) rfl q667 rfl rfl d_Ck_act_143 ?_
            refine lv_iadd G.1 G.2.1 d_Ck_act_146 ?_
            refine lv_iload_n G.1 G.2.1 d_Ck_act_147 rfl (lv_at hl 1 rfl) ?_
            refine uiast G hP hD hS (kdp h_a0 rfl) (typ h_a0 rfl) h d_Ck_act_148 (fun s_6 H locs h hP hD hS => ?_)
            refine lv_aload_n G.1 G.2.1 d_Ck_act_149 rfl (lv_at hl 0 rfl) ?_
            refine lv_dup G.1 G.2.1 d_Ck_act_150 rfl ?_
            refine ugf (v := .int (sV s_6 a0 16)) G hP h_a0 iCk rfl 16 (by decide) rfl q667 rfl rfl d_Ck_act_151 ?_
            refine lv_iconst (v := 1) G.1 G.2.1 d_Ck_act_154 (by decide) ?_
            refine lv_iadd G.1 G.2.1 d_Ck_act_155 ?_
            refine W.eq (g2 := F0 m 156 ls [.int ((sV s_6 a0 16) + 1), .ref (ad a0)]) rfl ?_
            refine upf G hP hD hS h 16 putV h_a0 iCk tCk tCk_ok nCk rfl (by decide) rfl q667 rfl rfl fV rfl rfl d_Ck_act_156 (fun s_7 H locs h hP hD hS => ?_)
            exact J_159 s_7 H locs h hP hD hS ls (lv_sub hl [] rfl)
        have J_66 : ∀ (s_j66 : St) (x2j66 : Int32) (x3j66 : Int32) (H : Heap) (locs : List Loc), wj_Ck_act_66 y Post a0 s_j66 x2j66 x3j66 → va_P D CL (ws g ad y s_j66) H → va_D A (ws g ad y s_j66) → va_S A s.heap H locs → ∀ ls, lv_has ls 4 [(0, .ref (ad a0)), (2, .int x2j66), (3, .int x3j66)] → W p l e ru_Ck_act s m args below meth c H locs 0 0 Q (F0 m 66 ls []) := by
          intro s_j66 x2j66 x3j66 H locs h hP hD hS ls hl
          unfold wj_Ck_act_66 at h
          refine lv_aload_n G.1 G.2.1 d_Ck_act_66 rfl (lv_at hl 0 rfl) ?_
          refine ugf (v := .ref (yP y a0 15)) G hP h_a0 iCk rfl 15 (by decide) rfl q666 rfl rfl d_Ck_act_67 ?_
          refine lv_aload_n G.1 G.2.1 d_Ck_act_70 rfl (lv_at hl 0 rfl) ?_
          refine lv_iconst (v := 1) G.1 G.2.1 d_Ck_act_71 (by decide) ?_
          refine ucVi (As := [.int 1]) (rest := [.ref (yP y a0 15)]) G hP hD hS (cu_Ck_operand l D g ad y _ s_j66 a0 1 H.size h_a0 h) w9_Ck_operand q1607 ⟨Nat.le_of_ble_eq_true rfl, Nat.le_of_ble_eq_true rfl⟩ rfl rfl h_a0 (q := (RCk, TCk, 22)) rfl rfl hl.1 rfl (Nat.le_of_ble_eq_true rfl) rfl ⟨Nat.le_refl _, Nat.le_refl _⟩ d_Ck_act_72 (fun r_8 s_9 H locs h hP hD hS => ?_)
          refine lv_aload_n G.1 G.2.1 d_Ck_act_75 rfl (lv_at hl 0 rfl) ?_
          refine ugf (v := .ref (yP y a0 15)) G hP h_a0 iCk rfl 15 (by decide) rfl q666 rfl rfl d_Ck_act_76 ?_
          refine lv_iload_n G.1 G.2.1 d_Ck_act_79 rfl (lv_at hl 1 rfl) ?_
          refine uiald G hP (kdp h_a0 rfl) (typ h_a0 rfl) h d_Ck_act_80 (fun x_10 h => ?_)
          refine uiast G hP hD hS (kdp h_a0 rfl) (typ h_a0 rfl) h d_Ck_act_81 (fun s_11 H locs h hP hD hS => ?_)
          refine lv_goto (tgt := 118) G.1 G.2.1 d_Ck_act_82 (by decide) ?_
          exact J_118 s_11 x3j66 H locs h hP hD hS ls (lv_sub hl [0, 2] rfl)
        refine lv_icmp_eq (tgt := 66) G.1 G.2.1 d_Ck_act_54 (by decide) (fun c54 => ?_) (fun c54 => ?_)
        · skip
          have h := h.1 c54
          exact J_66 s_4 ((20 + (sV σ a0 16)) - 1) r_3 H locs h hP hD hS ls (lv_sub hl [2, 1, 0] rfl)
        · skip
          have h := h.2 c54
          refine lv_aload_n G.1 G.2.1 d_Ck_act_57 rfl (lv_at hl 2 rfl) ?_
          refine ugf (v := .int (sV s_4 a0 12)) G hP h_a0 iCk rfl 12 (by decide) rfl q663 rfl rfl d_Ck_act_58 ?_
          refine lv_bipush (v := 6) G.1 G.2.1 d_Ck_act_61 (by decide) ?_
          refine lv_icmp_ne (tgt := 85) G.1 G.2.1 d_Ck_act_63 (by decide) (fun c63 => ?_) (fun c63 => ?_)
          · skip
            have h := h.1 c63
            refine lv_aload_n G.1 G.2.1 d_Ck_act_85 rfl (lv_at hl 2 rfl) ?_
            refine ugf (v := .int (sV s_4 a0 12)) G hP h_a0 iCk rfl 12 (by decide) rfl q663 rfl rfl d_Ck_act_86 ?_
            refine lv_bipush (v := 51) G.1 G.2.1 d_Ck_act_89 (by decide) ?_
            refine lv_icmp_ne (tgt := 118) G.1 G.2.1 d_Ck_act_91 (by decide) (fun c91 => ?_) (fun c91 => ?_)
            · skip
              have h := h.1 c91
              exact J_118 s_4 r_3 H locs h hP hD hS ls (lv_sub hl [2, 0] rfl)
            · skip
              have h := h.2 c91
              refine W.eq (g2 := F0 m 94 ls []) rfl ?_
              refine lv_aload_n G.1 G.2.1 d_Ck_act_94 rfl (lv_at hl 2 rfl) ?_
              refine ugf (v := .int (sV s_4 a0 14)) G hP h_a0 iCk rfl 14 (by decide) rfl q665 rfl rfl d_Ck_act_95 ?_
              refine lv_if_eq (tgt := 118) G.1 G.2.1 d_Ck_act_98 (by decide) (fun c98 => ?_) (fun c98 => ?_)
              · skip
                have h := h.1 c98
                exact J_118 s_4 r_3 H locs h hP hD hS ls (lv_sub hl [2, 0] rfl)
              · skip
                have h := h.2 c98
                refine lv_aload_n G.1 G.2.1 d_Ck_act_101 rfl (lv_at hl 2 rfl) ?_
                refine lv_aload_n G.1 G.2.1 d_Ck_act_102 rfl (lv_at hl 2 rfl) ?_
                refine ugf (v := .ref (yP y a0 15)) G hP h_a0 iCk rfl 15 (by decide) rfl q666 rfl rfl d_Ck_act_103 ?_
                refine lv_iload_n G.1 G.2.1 d_Ck_act_106 rfl (lv_at hl 1 rfl) ?_
                refine lv_iconst (v := 1) G.1 G.2.1 d_Ck_act_107 (by decide) ?_
                refine lv_iadd G.1 G.2.1 d_Ck_act_108 ?_
                refine lv_aload_n G.1 G.2.1 d_Ck_act_109 rfl (lv_at hl 2 rfl) ?_
                refine ugf (v := .int (sV s_4 a0 13)) G hP h_a0 iCk rfl 13 (by decide) rfl q664 rfl rfl d_Ck_act_110 ?_
                refine lv_isub G.1 G.2.1 d_Ck_act_113 ?_
                refine W.eq (g2 := F0 m 114 ls [.int ((((20 + (sV σ a0 16)) - 1) + 1) - (sV s_4 a0 13)), .ref (yP y a0 15), .ref (ad a0)]) rfl ?_
                refine uiald G hP (kdp h_a0 rfl) (typ h_a0 rfl) h d_Ck_act_114 (fun x_12 h => ?_)
                refine ucVv (As := [.int x_12]) (rest := []) G hP hD hS (cu_Ck_made l D g ad y _ s_4 a0 x_12 H.size h_a0 h) w9_Ck_made q1676 ⟨Nat.le_of_ble_eq_true rfl, Nat.le_of_ble_eq_true rfl⟩ rfl rfl h_a0 (q := (RCk, TCk, 22)) rfl rfl hl.1 rfl (Nat.le_of_ble_eq_true rfl) rfl ⟨Nat.le_refl _, Nat.le_refl _⟩ d_Ck_act_115 (fun s_14 H locs h hP hD hS => ?_)
                exact J_118 s_14 r_3 H locs h hP hD hS ls (lv_sub hl [2, 0] rfl)
          · skip
            have h := h.2 c63
            exact J_66 s_4 ((20 + (sV σ a0 16)) - 1) r_3 H locs h hP hD hS ls (lv_sub hl [2, 1, 0] rfl)
      · skip
        have h := h.2 c34
        exact J_37 σ ((20 + (sV σ a0 16)) - 1) H locs h hP hD hS ls (lv_sub hl [1, 0] rfl)
theorem q1576 : Cond.methodLink "ClassWorks$Checker" 134 y_Ck_begin ∈ lw_ok := lw_okmem (List.mem_of_getElem? (i := 1576) (by decide +kernel)) rfl
theorem q1579 : Cond.code y_Ck_begin b_Ck_begin 7 (none) ∈ lw_ok := lw_okmem (List.mem_of_getElem? (i := 1579) (by decide +kernel)) rfl
theorem q1578 : Cond.instanceMethod y_Ck_begin ∈ lw_ok := lw_okmem (List.mem_of_getElem? (i := 1578) (by decide +kernel)) rfl
theorem q49 : Cond.selects y_Ck_begin.cls y_Ck_begin y_Ck_begin ∈ lw_ok := lw_okmem (List.mem_of_getElem? (i := 49) (by decide +kernel)) rfl
theorem w9_Ck_begin : CWv y_Ck_begin b_Ck_begin 7 (none) 3 ∧ Cond.instanceMethod y_Ck_begin ∈ lw_ok ∧ Cond.selects y_Ck_begin.cls y_Ck_begin y_Ck_begin ∈ lw_ok := ⟨⟨q1579, q341, by decide +kernel, by decide +kernel, by decide +kernel⟩, q1578, q49⟩
theorem q1597 : Cond.methodLink "ClassWorks$Checker" 141 y_Ck_load ∈ lw_ok := lw_okmem (List.mem_of_getElem? (i := 1597) (by decide +kernel)) rfl
theorem q1600 : Cond.code y_Ck_load b_Ck_load 3 (none) ∈ lw_ok := lw_okmem (List.mem_of_getElem? (i := 1600) (by decide +kernel)) rfl
theorem q1599 : Cond.instanceMethod y_Ck_load ∈ lw_ok := lw_okmem (List.mem_of_getElem? (i := 1599) (by decide +kernel)) rfl
theorem q51 : Cond.selects y_Ck_load.cls y_Ck_load y_Ck_load ∈ lw_ok := lw_okmem (List.mem_of_getElem? (i := 51) (by decide +kernel)) rfl
theorem w9_Ck_load : CWv y_Ck_load b_Ck_load 3 (none) 1 ∧ Cond.instanceMethod y_Ck_load ∈ lw_ok ∧ Cond.selects y_Ck_load.cls y_Ck_load y_Ck_load ∈ lw_ok := ⟨⟨q1600, q341, by decide +kernel, by decide +kernel, by decide +kernel⟩, q1599, q51⟩
theorem q1603 : Cond.methodLink "ClassWorks$Checker" 145 y_Ck_arrive ∈ lw_ok := lw_okmem (List.mem_of_getElem? (i := 1603) (by decide +kernel)) rfl
theorem q1606 : Cond.code y_Ck_arrive b_Ck_arrive 8 (some .int) ∈ lw_ok := lw_okmem (List.mem_of_getElem? (i := 1606) (by decide +kernel)) rfl
theorem q1605 : Cond.instanceMethod y_Ck_arrive ∈ lw_ok := lw_okmem (List.mem_of_getElem? (i := 1605) (by decide +kernel)) rfl
theorem q52 : Cond.selects y_Ck_arrive.cls y_Ck_arrive y_Ck_arrive ∈ lw_ok := lw_okmem (List.mem_of_getElem? (i := 52) (by decide +kernel)) rfl
theorem w9_Ck_arrive : CWv y_Ck_arrive b_Ck_arrive 8 (some .int) 2 ∧ Cond.instanceMethod y_Ck_arrive ∈ lw_ok ∧ Cond.selects y_Ck_arrive.cls y_Ck_arrive y_Ck_arrive ∈ lw_ok := ⟨⟨q1606, q341, by decide +kernel, by decide +kernel, by decide +kernel⟩, q1605, q52⟩
theorem q1696 : Cond.methodLink "ClassWorks$Checker" 169 y_Ck_goesOn ∈ lw_ok := lw_okmem (List.mem_of_getElem? (i := 1696) (by decide +kernel)) rfl
theorem q1699 : Cond.code y_Ck_goesOn b_Ck_goesOn 1 (some (.boolean)) ∈ lw_ok := lw_okmem (List.mem_of_getElem? (i := 1699) (by decide +kernel)) rfl
theorem q1698 : Cond.instanceMethod y_Ck_goesOn ∈ lw_ok := lw_okmem (List.mem_of_getElem? (i := 1698) (by decide +kernel)) rfl
theorem q72 : Cond.selects y_Ck_goesOn.cls y_Ck_goesOn y_Ck_goesOn ∈ lw_ok := lw_okmem (List.mem_of_getElem? (i := 72) (by decide +kernel)) rfl
theorem w9_Ck_goesOn : CWv y_Ck_goesOn b_Ck_goesOn 1 (some (.boolean)) 0 ∧ Cond.instanceMethod y_Ck_goesOn ∈ lw_ok ∧ Cond.selects y_Ck_goesOn.cls y_Ck_goesOn y_Ck_goesOn ∈ lw_ok := ⟨⟨q1699, q341, by decide +kernel, by decide +kernel, by decide +kernel⟩, q1698, q72⟩
theorem q1684 : Cond.methodLink "ClassWorks$Checker" 165 y_Ck_labelsFit ∈ lw_ok := lw_okmem (List.mem_of_getElem? (i := 1684) (by decide +kernel)) rfl
theorem q1687 : Cond.code y_Ck_labelsFit b_Ck_labelsFit 4 (some .int) ∈ lw_ok := lw_okmem (List.mem_of_getElem? (i := 1687) (by decide +kernel)) rfl
theorem q1686 : Cond.instanceMethod y_Ck_labelsFit ∈ lw_ok := lw_okmem (List.mem_of_getElem? (i := 1686) (by decide +kernel)) rfl
theorem q69 : Cond.selects y_Ck_labelsFit.cls y_Ck_labelsFit y_Ck_labelsFit ∈ lw_ok := lw_okmem (List.mem_of_getElem? (i := 69) (by decide +kernel)) rfl
theorem w9_Ck_labelsFit : CWv y_Ck_labelsFit b_Ck_labelsFit 4 (some .int) 0 ∧ Cond.instanceMethod y_Ck_labelsFit ∈ lw_ok ∧ Cond.selects y_Ck_labelsFit.cls y_Ck_labelsFit y_Ck_labelsFit ∈ lw_ok := ⟨⟨q1687, q341, by decide +kernel, by decide +kernel, by decide +kernel⟩, q1686, q69⟩
theorem q1668 : Cond.methodLink "ClassWorks$Checker" 158 y_Ck_act ∈ lw_ok := lw_okmem (List.mem_of_getElem? (i := 1668) (by decide +kernel)) rfl
theorem q1671 : Cond.code y_Ck_act b_Ck_act 4 (none) ∈ lw_ok := lw_okmem (List.mem_of_getElem? (i := 1671) (by decide +kernel)) rfl
theorem q1670 : Cond.instanceMethod y_Ck_act ∈ lw_ok := lw_okmem (List.mem_of_getElem? (i := 1670) (by decide +kernel)) rfl
theorem q65 : Cond.selects y_Ck_act.cls y_Ck_act y_Ck_act ∈ lw_ok := lw_okmem (List.mem_of_getElem? (i := 65) (by decide +kernel)) rfl
theorem w9_Ck_act : CWv y_Ck_act b_Ck_act 4 (none) 1 ∧ Cond.instanceMethod y_Ck_act ∈ lw_ok ∧ Cond.selects y_Ck_act.cls y_Ck_act y_Ck_act ∈ lw_ok := ⟨⟨q1671, q341, by decide +kernel, by decide +kernel, by decide +kernel⟩, q1670, q65⟩
theorem q1680 : Cond.methodLink "ClassWorks$Checker" 161 y_Ck_changesLocals ∈ lw_ok := lw_okmem (List.mem_of_getElem? (i := 1680) (by decide +kernel)) rfl
theorem q1683 : Cond.code y_Ck_changesLocals b_Ck_changesLocals 1 (some (.boolean)) ∈ lw_ok := lw_okmem (List.mem_of_getElem? (i := 1683) (by decide +kernel)) rfl
theorem q1682 : Cond.instanceMethod y_Ck_changesLocals ∈ lw_ok := lw_okmem (List.mem_of_getElem? (i := 1682) (by decide +kernel)) rfl
theorem q68 : Cond.selects y_Ck_changesLocals.cls y_Ck_changesLocals y_Ck_changesLocals ∈ lw_ok := lw_okmem (List.mem_of_getElem? (i := 68) (by decide +kernel)) rfl
theorem w9_Ck_changesLocals : CWv y_Ck_changesLocals b_Ck_changesLocals 1 (some (.boolean)) 0 ∧ Cond.instanceMethod y_Ck_changesLocals ∈ lw_ok ∧ Cond.selects y_Ck_changesLocals.cls y_Ck_changesLocals y_Ck_changesLocals ∈ lw_ok := ⟨⟨q1683, q341, by decide +kernel, by decide +kernel, by decide +kernel⟩, q1682, q68⟩
theorem q1629 : Cond.methodLink "ClassWorks$Checker" 152 y_Ck_handlersFit ∈ lw_ok := lw_okmem (List.mem_of_getElem? (i := 1629) (by decide +kernel)) rfl
theorem q1632 : Cond.code y_Ck_handlersFit b_Ck_handlersFit 8 (some .int) ∈ lw_ok := lw_okmem (List.mem_of_getElem? (i := 1632) (by decide +kernel)) rfl
theorem q1631 : Cond.instanceMethod y_Ck_handlersFit ∈ lw_ok := lw_okmem (List.mem_of_getElem? (i := 1631) (by decide +kernel)) rfl
theorem q58 : Cond.selects y_Ck_handlersFit.cls y_Ck_handlersFit y_Ck_handlersFit ∈ lw_ok := lw_okmem (List.mem_of_getElem? (i := 58) (by decide +kernel)) rfl
theorem w9_Ck_handlersFit : CWv y_Ck_handlersFit b_Ck_handlersFit 8 (some .int) 1 ∧ Cond.instanceMethod y_Ck_handlersFit ∈ lw_ok ∧ Cond.selects y_Ck_handlersFit.cls y_Ck_handlersFit y_Ck_handlersFit ∈ lw_ok := ⟨⟨q1632, q341, by decide +kernel, by decide +kernel, by decide +kernel⟩, q1631, q58⟩
theorem q1633 : Cond.methodLink "ClassWorks$Checker" 155 y_Ck_rules ∈ lw_ok := lw_okmem (List.mem_of_getElem? (i := 1633) (by decide +kernel)) rfl
theorem q1636 : Cond.code y_Ck_rules b_Ck_rules 9 (some .int) ∈ lw_ok := lw_okmem (List.mem_of_getElem? (i := 1636) (by decide +kernel)) rfl
theorem q1635 : Cond.instanceMethod y_Ck_rules ∈ lw_ok := lw_okmem (List.mem_of_getElem? (i := 1635) (by decide +kernel)) rfl
theorem q59 : Cond.selects y_Ck_rules.cls y_Ck_rules y_Ck_rules ∈ lw_ok := lw_okmem (List.mem_of_getElem? (i := 59) (by decide +kernel)) rfl
theorem w9_Ck_rules : CWv y_Ck_rules b_Ck_rules 9 (some .int) 1 ∧ Cond.instanceMethod y_Ck_rules ∈ lw_ok ∧ Cond.selects y_Ck_rules.cls y_Ck_rules y_Ck_rules ∈ lw_ok := ⟨⟨q1636, q341, by decide +kernel, by decide +kernel, by decide +kernel⟩, q1635, q59⟩
theorem q1624 : Cond.methodLink "ClassWorks$Checker" 149 y_Ck_keep ∈ lw_ok := lw_okmem (List.mem_of_getElem? (i := 1624) (by decide +kernel)) rfl
theorem q1627 : Cond.code y_Ck_keep b_Ck_keep 2 (none) ∈ lw_ok := lw_okmem (List.mem_of_getElem? (i := 1627) (by decide +kernel)) rfl
theorem q1626 : Cond.instanceMethod y_Ck_keep ∈ lw_ok := lw_okmem (List.mem_of_getElem? (i := 1626) (by decide +kernel)) rfl
theorem q57 : Cond.selects y_Ck_keep.cls y_Ck_keep y_Ck_keep ∈ lw_ok := lw_okmem (List.mem_of_getElem? (i := 57) (by decide +kernel)) rfl
theorem w9_Ck_keep : CWv y_Ck_keep b_Ck_keep 2 (none) 1 ∧ Cond.instanceMethod y_Ck_keep ∈ lw_ok ∧ Cond.selects y_Ck_keep.cls y_Ck_keep y_Ck_keep ∈ lw_ok := ⟨⟨q1627, q341, by decide +kernel, by decide +kernel, by decide +kernel⟩, q1626, q57⟩
theorem q1593 : Cond.methodLink "ClassWorks$Checker" 138 y_Ck_forget ∈ lw_ok := lw_okmem (List.mem_of_getElem? (i := 1593) (by decide +kernel)) rfl
theorem q1596 : Cond.code y_Ck_forget b_Ck_forget 1 (none) ∈ lw_ok := lw_okmem (List.mem_of_getElem? (i := 1596) (by decide +kernel)) rfl
theorem q1595 : Cond.instanceMethod y_Ck_forget ∈ lw_ok := lw_okmem (List.mem_of_getElem? (i := 1595) (by decide +kernel)) rfl
theorem q50 : Cond.selects y_Ck_forget.cls y_Ck_forget y_Ck_forget ∈ lw_ok := lw_okmem (List.mem_of_getElem? (i := 50) (by decide +kernel)) rfl
theorem w9_Ck_forget : CWv y_Ck_forget b_Ck_forget 1 (none) 0 ∧ Cond.instanceMethod y_Ck_forget ∈ lw_ok ∧ Cond.selects y_Ck_forget.cls y_Ck_forget y_Ck_forget ∈ lw_ok := ⟨⟨q1596, q341, by decide +kernel, by decide +kernel, by decide +kernel⟩, q1595, q50⟩
def y_Ck_check : MethodName := ⟨"ClassWorks$Checker", "check", "(LClassWorks$World;IIIZ)I"⟩
abbrev b_Ck_check : ByteArray := prog_2_method_7_code
theorem d_Ck_check_0 : decode b_Ck_check 0 = .ok (.iload_n 3, 1) := by decide +kernel
theorem d_Ck_check_1 : decode b_Ck_check 1 = .ok (.istore 6, 2) := by decide +kernel
theorem d_Ck_check_3 : decode b_Ck_check 3 = .ok (.iload 6, 2) := by decide +kernel
theorem d_Ck_check_5 : decode b_Ck_check 5 = .ok (.iload 4, 2) := by decide +kernel
theorem d_Ck_check_7 : decode b_Ck_check 7 = .ok (.if_icmp .ge 211, 3) := by decide +kernel
theorem d_Ck_check_10 : decode b_Ck_check 10 = .ok (.aload_n 0, 1) := by decide +kernel
theorem d_Ck_check_11 : decode b_Ck_check 11 = .ok (.aload_n 1, 1) := by decide +kernel
theorem d_Ck_check_12 : decode b_Ck_check 12 = .ok (.iload_n 2, 1) := by decide +kernel
theorem d_Ck_check_13 : decode b_Ck_check 13 = .ok (.iload 6, 2) := by decide +kernel
theorem d_Ck_check_15 : decode b_Ck_check 15 = .ok (.invokevirtual 134, 3) := by decide +kernel
theorem d_Ck_check_18 : decode b_Ck_check 18 = .ok (.iload 5, 2) := by decide +kernel
theorem d_Ck_check_20 : decode b_Ck_check 20 = .ok (.ifCond .eq 7, 3) := by decide +kernel
theorem d_Ck_check_23 : decode b_Ck_check 23 = .ok (.aload_n 0, 1) := by decide +kernel
theorem d_Ck_check_24 : decode b_Ck_check 24 = .ok (.invokevirtual 138, 3) := by decide +kernel
theorem d_Ck_check_27 : decode b_Ck_check 27 = .ok (.iconst 1, 1) := by decide +kernel
theorem d_Ck_check_28 : decode b_Ck_check 28 = .ok (.istore 7, 2) := by decide +kernel
theorem d_Ck_check_30 : decode b_Ck_check 30 = .ok (.iconst 0, 1) := by decide +kernel
theorem d_Ck_check_31 : decode b_Ck_check 31 = .ok (.istore 8, 2) := by decide +kernel
theorem d_Ck_check_33 : decode b_Ck_check 33 = .ok (.iload 8, 2) := by decide +kernel
theorem d_Ck_check_35 : decode b_Ck_check 35 = .ok (.aload_n 0, 1) := by decide +kernel
theorem d_Ck_check_36 : decode b_Ck_check 36 = .ok (.getfield 24, 3) := by decide +kernel
theorem d_Ck_check_39 : decode b_Ck_check 39 = .ok (.if_icmp .ge 173, 3) := by decide +kernel
theorem d_Ck_check_42 : decode b_Ck_check 42 = .ok (.aload_n 0, 1) := by decide +kernel
theorem d_Ck_check_43 : decode b_Ck_check 43 = .ok (.iload 8, 2) := by decide +kernel
theorem d_Ck_check_45 : decode b_Ck_check 45 = .ok (.putfield 9, 3) := by decide +kernel
theorem d_Ck_check_48 : decode b_Ck_check 48 = .ok (.aload_n 0, 1) := by decide +kernel
theorem d_Ck_check_49 : decode b_Ck_check 49 = .ok (.iload 8, 2) := by decide +kernel
theorem d_Ck_check_51 : decode b_Ck_check 51 = .ok (.invokevirtual 141, 3) := by decide +kernel
theorem d_Ck_check_54 : decode b_Ck_check 54 = .ok (.aload_n 0, 1) := by decide +kernel
theorem d_Ck_check_55 : decode b_Ck_check 55 = .ok (.iload 8, 2) := by decide +kernel
theorem d_Ck_check_57 : decode b_Ck_check 57 = .ok (.iload 7, 2) := by decide +kernel
theorem d_Ck_check_59 : decode b_Ck_check 59 = .ok (.invokevirtual 145, 3) := by decide +kernel
theorem d_Ck_check_62 : decode b_Ck_check 62 = .ok (.istore 9, 2) := by decide +kernel
theorem d_Ck_check_64 : decode b_Ck_check 64 = .ok (.iload 9, 2) := by decide +kernel
theorem d_Ck_check_66 : decode b_Ck_check 66 = .ok (.ifCond .ne 14, 3) := by decide +kernel
theorem d_Ck_check_69 : decode b_Ck_check 69 = .ok (.iload 5, 2) := by decide +kernel
theorem d_Ck_check_71 : decode b_Ck_check 71 = .ok (.ifCond .eq 9, 3) := by decide +kernel
theorem d_Ck_check_74 : decode b_Ck_check 74 = .ok (.aload_n 0, 1) := by decide +kernel
theorem d_Ck_check_75 : decode b_Ck_check 75 = .ok (.iload 8, 2) := by decide +kernel
theorem d_Ck_check_77 : decode b_Ck_check 77 = .ok (.invokevirtual 149, 3) := by decide +kernel
theorem d_Ck_check_80 : decode b_Ck_check 80 = .ok (.iload 9, 2) := by decide +kernel
theorem d_Ck_check_82 : decode b_Ck_check 82 = .ok (.ifCond .eq 8, 3) := by decide +kernel
theorem d_Ck_check_85 : decode b_Ck_check 85 = .ok (.iload 9, 2) := by decide +kernel
theorem d_Ck_check_87 : decode b_Ck_check 87 = .ok (.goto 9, 3) := by decide +kernel
theorem d_Ck_check_90 : decode b_Ck_check 90 = .ok (.aload_n 0, 1) := by decide +kernel
theorem d_Ck_check_91 : decode b_Ck_check 91 = .ok (.iload 8, 2) := by decide +kernel
theorem d_Ck_check_93 : decode b_Ck_check 93 = .ok (.invokevirtual 152, 3) := by decide +kernel
theorem d_Ck_check_96 : decode b_Ck_check 96 = .ok (.istore 9, 2) := by decide +kernel
theorem d_Ck_check_98 : decode b_Ck_check 98 = .ok (.iload 9, 2) := by decide +kernel
theorem d_Ck_check_100 : decode b_Ck_check 100 = .ok (.ifCond .eq 8, 3) := by decide +kernel
theorem d_Ck_check_103 : decode b_Ck_check 103 = .ok (.iload 9, 2) := by decide +kernel
theorem d_Ck_check_105 : decode b_Ck_check 105 = .ok (.goto 9, 3) := by decide +kernel
theorem d_Ck_check_108 : decode b_Ck_check 108 = .ok (.aload_n 0, 1) := by decide +kernel
theorem d_Ck_check_109 : decode b_Ck_check 109 = .ok (.iload 8, 2) := by decide +kernel
theorem d_Ck_check_111 : decode b_Ck_check 111 = .ok (.invokevirtual 155, 3) := by decide +kernel
theorem d_Ck_check_114 : decode b_Ck_check 114 = .ok (.istore 9, 2) := by decide +kernel
theorem d_Ck_check_116 : decode b_Ck_check 116 = .ok (.iload 9, 2) := by decide +kernel
theorem d_Ck_check_118 : decode b_Ck_check 118 = .ok (.ifCond .ne 28, 3) := by decide +kernel
theorem d_Ck_check_121 : decode b_Ck_check 121 = .ok (.aload_n 0, 1) := by decide +kernel
theorem d_Ck_check_122 : decode b_Ck_check 122 = .ok (.iload 8, 2) := by decide +kernel
theorem d_Ck_check_124 : decode b_Ck_check 124 = .ok (.invokevirtual 158, 3) := by decide +kernel
theorem d_Ck_check_127 : decode b_Ck_check 127 = .ok (.aload_n 0, 1) := by decide +kernel
theorem d_Ck_check_128 : decode b_Ck_check 128 = .ok (.invokevirtual 161, 3) := by decide +kernel
theorem d_Ck_check_131 : decode b_Ck_check 131 = .ok (.ifCond .eq 12, 3) := by decide +kernel
theorem d_Ck_check_134 : decode b_Ck_check 134 = .ok (.aload_n 0, 1) := by decide +kernel
theorem d_Ck_check_135 : decode b_Ck_check 135 = .ok (.iload 8, 2) := by decide +kernel
theorem d_Ck_check_137 : decode b_Ck_check 137 = .ok (.invokevirtual 152, 3) := by decide +kernel
theorem d_Ck_check_140 : decode b_Ck_check 140 = .ok (.goto 4, 3) := by decide +kernel
theorem d_Ck_check_143 : decode b_Ck_check 143 = .ok (.iconst 0, 1) := by decide +kernel
theorem d_Ck_check_144 : decode b_Ck_check 144 = .ok (.istore 9, 2) := by decide +kernel
theorem d_Ck_check_146 : decode b_Ck_check 146 = .ok (.iload 9, 2) := by decide +kernel
theorem d_Ck_check_148 : decode b_Ck_check 148 = .ok (.ifCond .eq 8, 3) := by decide +kernel
theorem d_Ck_check_151 : decode b_Ck_check 151 = .ok (.iload 9, 2) := by decide +kernel
theorem d_Ck_check_153 : decode b_Ck_check 153 = .ok (.goto 7, 3) := by decide +kernel
theorem d_Ck_check_156 : decode b_Ck_check 156 = .ok (.aload_n 0, 1) := by decide +kernel
theorem d_Ck_check_157 : decode b_Ck_check 157 = .ok (.invokevirtual 165, 3) := by decide +kernel
theorem d_Ck_check_160 : decode b_Ck_check 160 = .ok (.istore 9, 2) := by decide +kernel
theorem d_Ck_check_162 : decode b_Ck_check 162 = .ok (.aload_n 0, 1) := by decide +kernel
theorem d_Ck_check_163 : decode b_Ck_check 163 = .ok (.invokevirtual 169, 3) := by decide +kernel
theorem d_Ck_check_166 : decode b_Ck_check 166 = .ok (.istore 7, 2) := by decide +kernel
theorem d_Ck_check_168 : decode b_Ck_check 168 = .ok (.iload 9, 2) := by decide +kernel
theorem d_Ck_check_170 : decode b_Ck_check 170 = .ok (.ifCond .ne 24, 3) := by decide +kernel
theorem d_Ck_check_173 : decode b_Ck_check 173 = .ok (.iload 7, 2) := by decide +kernel
theorem d_Ck_check_175 : decode b_Ck_check 175 = .ok (.ifCond .eq 19, 3) := by decide +kernel
theorem d_Ck_check_178 : decode b_Ck_check 178 = .ok (.iload 8, 2) := by decide +kernel
theorem d_Ck_check_180 : decode b_Ck_check 180 = .ok (.aload_n 0, 1) := by decide +kernel
theorem d_Ck_check_181 : decode b_Ck_check 181 = .ok (.getfield 24, 3) := by decide +kernel
theorem d_Ck_check_184 : decode b_Ck_check 184 = .ok (.iconst 1, 1) := by decide +kernel
theorem d_Ck_check_185 : decode b_Ck_check 185 = .ok (.isub, 1) := by decide +kernel
theorem d_Ck_check_186 : decode b_Ck_check 186 = .ok (.if_icmp .ne 8, 3) := by decide +kernel
theorem d_Ck_check_189 : decode b_Ck_check 189 = .ok (.bipush 35, 2) := by decide +kernel
theorem d_Ck_check_191 : decode b_Ck_check 191 = .ok (.goto 5, 3) := by decide +kernel
theorem d_Ck_check_194 : decode b_Ck_check 194 = .ok (.iload 9, 2) := by decide +kernel
theorem d_Ck_check_196 : decode b_Ck_check 196 = .ok (.istore 9, 2) := by decide +kernel
theorem d_Ck_check_198 : decode b_Ck_check 198 = .ok (.iload 9, 2) := by decide +kernel
theorem d_Ck_check_200 : decode b_Ck_check 200 = .ok (.ifCond .eq 6, 3) := by decide +kernel
theorem d_Ck_check_203 : decode b_Ck_check 203 = .ok (.iload 9, 2) := by decide +kernel
theorem d_Ck_check_205 : decode b_Ck_check 205 = .ok (.ireturn, 1) := by decide +kernel
theorem d_Ck_check_206 : decode b_Ck_check 206 = .ok (.iinc 8 1, 3) := by decide +kernel
theorem d_Ck_check_209 : decode b_Ck_check 209 = .ok (.goto (-176), 3) := by decide +kernel
theorem d_Ck_check_212 : decode b_Ck_check 212 = .ok (.iinc 6 1, 3) := by decide +kernel
theorem d_Ck_check_215 : decode b_Ck_check 215 = .ok (.goto (-212), 3) := by decide +kernel
theorem d_Ck_check_218 : decode b_Ck_check 218 = .ok (.iconst 0, 1) := by decide +kernel
theorem d_Ck_check_219 : decode b_Ck_check 219 = .ok (.ireturn, 1) := by decide +kernel
abbrev ru_Ck_check : Room := { frames := 6, cells := 0, slots := 0, locals := 141 }
def wj_Ck_check_196 (y : Ly) (Post : St → Int32 → Prop) (K_3 : St → Int32 → Int32 → Int32 → Int32 → Prop) (K_33 : St → Int32 → Int32 → Int32 → Int32 → Int32 → Int32 → Prop) (a0 : Nat) (a1 : Nat) (s_j196 : St) (x2j196 : Int32) (x4j196 : Int32) (x5j196 : Int32) (x6j196 : Int32) (x7j196 : Int32) (x8j196 : Int32) (z0j196 : Int32) : Prop := ((z0j196 = 0 → K_33 s_j196 x2j196 x4j196 x5j196 x6j196 x7j196 (x8j196 + 1)) ∧ (¬ (z0j196 = 0) → Post s_j196 z0j196))
def wj_Ck_check_194 (y : Ly) (Post : St → Int32 → Prop) (K_3 : St → Int32 → Int32 → Int32 → Int32 → Prop) (K_33 : St → Int32 → Int32 → Int32 → Int32 → Int32 → Int32 → Prop) (a0 : Nat) (a1 : Nat) (s_j194 : St) (x2j194 : Int32) (x4j194 : Int32) (x5j194 : Int32) (x6j194 : Int32) (x7j194 : Int32) (x8j194 : Int32) (x9j194 : Int32) : Prop := wj_Ck_check_196 y Post K_3 K_33 a0 a1 s_j194 x2j194 x4j194 x5j194 x6j194 x7j194 x8j194 x9j194
def wj_Ck_check_160 (y : Ly) (Post : St → Int32 → Prop) (K_3 : St → Int32 → Int32 → Int32 → Int32 → Prop) (K_33 : St → Int32 → Int32 → Int32 → Int32 → Int32 → Int32 → Prop) (a0 : Nat) (a1 : Nat) (s_j160 : St) (x2j160 : Int32) (x4j160 : Int32) (x5j160 : Int32) (x6j160 : Int32) (x8j160 : Int32) (z0j160 : Int32) : Prop := wu_Ck_goesOn y (fun (s_9 : St) (r_8 : Int32) => ((¬ z0j160 = 0 → wj_Ck_check_194 y Post K_3 K_33 a0 a1 s_9 x2j160 x4j160 x5j160 x6j160 r_8 x8j160 z0j160) ∧ (z0j160 = 0 → ((r_8 = 0 → wj_Ck_check_194 y Post K_3 K_33 a0 a1 s_9 x2j160 x4j160 x5j160 x6j160 r_8 x8j160 z0j160) ∧ (¬ (r_8 = 0) → ((¬ x8j160 = ((sV s_9 a0 6) - 1) → wj_Ck_check_194 y Post K_3 K_33 a0 a1 s_9 x2j160 x4j160 x5j160 x6j160 r_8 x8j160 z0j160) ∧ (x8j160 = ((sV s_9 a0 6) - 1) → wj_Ck_check_196 y Post K_3 K_33 a0 a1 s_9 x2j160 x4j160 x5j160 x6j160 r_8 x8j160 35))))))) s_j160 a0
def wj_Ck_check_146 (y : Ly) (Post : St → Int32 → Prop) (K_3 : St → Int32 → Int32 → Int32 → Int32 → Prop) (K_33 : St → Int32 → Int32 → Int32 → Int32 → Int32 → Int32 → Prop) (a0 : Nat) (a1 : Nat) (s_j146 : St) (x2j146 : Int32) (x4j146 : Int32) (x5j146 : Int32) (x6j146 : Int32) (x8j146 : Int32) (x9j146 : Int32) : Prop := ((x9j146 = 0 → wu_Ck_labelsFit y (fun (s_11 : St) (r_10 : Int32) => wj_Ck_check_160 y Post K_3 K_33 a0 a1 s_11 x2j146 x4j146 x5j146 x6j146 x8j146 r_10) s_j146 a0) ∧ (¬ (x9j146 = 0) → wj_Ck_check_160 y Post K_3 K_33 a0 a1 s_j146 x2j146 x4j146 x5j146 x6j146 x8j146 x9j146))
def wj_Ck_check_144 (y : Ly) (Post : St → Int32 → Prop) (K_3 : St → Int32 → Int32 → Int32 → Int32 → Prop) (K_33 : St → Int32 → Int32 → Int32 → Int32 → Int32 → Int32 → Prop) (a0 : Nat) (a1 : Nat) (s_j144 : St) (x2j144 : Int32) (x4j144 : Int32) (x5j144 : Int32) (x6j144 : Int32) (x8j144 : Int32) (z0j144 : Int32) : Prop := wj_Ck_check_146 y Post K_3 K_33 a0 a1 s_j144 x2j144 x4j144 x5j144 x6j144 x8j144 z0j144
def wj_Ck_check_114 (y : Ly) (Post : St → Int32 → Prop) (K_3 : St → Int32 → Int32 → Int32 → Int32 → Prop) (K_33 : St → Int32 → Int32 → Int32 → Int32 → Int32 → Int32 → Prop) (a0 : Nat) (a1 : Nat) (s_j114 : St) (x2j114 : Int32) (x4j114 : Int32) (x5j114 : Int32) (x6j114 : Int32) (x8j114 : Int32) (z0j114 : Int32) : Prop := ((¬ z0j114 = 0 → wj_Ck_check_146 y Post K_3 K_33 a0 a1 s_j114 x2j114 x4j114 x5j114 x6j114 x8j114 z0j114) ∧ (z0j114 = 0 → wu_Ck_act y (fun (s_13 : St) => wu_Ck_changesLocals y (fun (s_15 : St) (r_14 : Int32) => ((r_14 = 0 → wj_Ck_check_144 y Post K_3 K_33 a0 a1 s_15 x2j114 x4j114 x5j114 x6j114 x8j114 0) ∧ (¬ (r_14 = 0) → wu_Ck_handlersFit y (fun (s_17 : St) (r_16 : Int32) => wj_Ck_check_144 y Post K_3 K_33 a0 a1 s_17 x2j114 x4j114 x5j114 x6j114 x8j114 r_16) s_15 a0 x8j114))) s_13 a0) s_j114 a0 x8j114))
def wj_Ck_check_96 (y : Ly) (Post : St → Int32 → Prop) (K_3 : St → Int32 → Int32 → Int32 → Int32 → Prop) (K_33 : St → Int32 → Int32 → Int32 → Int32 → Int32 → Int32 → Prop) (a0 : Nat) (a1 : Nat) (s_j96 : St) (x2j96 : Int32) (x4j96 : Int32) (x5j96 : Int32) (x6j96 : Int32) (x8j96 : Int32) (z0j96 : Int32) : Prop := ((z0j96 = 0 → wu_Ck_rules y (fun (s_19 : St) (r_18 : Int32) => wj_Ck_check_114 y Post K_3 K_33 a0 a1 s_19 x2j96 x4j96 x5j96 x6j96 x8j96 r_18) s_j96 a0 x8j96) ∧ (¬ (z0j96 = 0) → wj_Ck_check_114 y Post K_3 K_33 a0 a1 s_j96 x2j96 x4j96 x5j96 x6j96 x8j96 z0j96))
def wj_Ck_check_80 (y : Ly) (Post : St → Int32 → Prop) (K_3 : St → Int32 → Int32 → Int32 → Int32 → Prop) (K_33 : St → Int32 → Int32 → Int32 → Int32 → Int32 → Int32 → Prop) (a0 : Nat) (a1 : Nat) (s_j80 : St) (x2j80 : Int32) (x4j80 : Int32) (x5j80 : Int32) (x6j80 : Int32) (x8j80 : Int32) (x9j80 : Int32) : Prop := ((x9j80 = 0 → wu_Ck_handlersFit y (fun (s_21 : St) (r_20 : Int32) => wj_Ck_check_96 y Post K_3 K_33 a0 a1 s_21 x2j80 x4j80 x5j80 x6j80 x8j80 r_20) s_j80 a0 x8j80) ∧ (¬ (x9j80 = 0) → wj_Ck_check_96 y Post K_3 K_33 a0 a1 s_j80 x2j80 x4j80 x5j80 x6j80 x8j80 x9j80))
def wb_Ck_check_33 (y : Ly) (Post : St → Int32 → Prop) (K_3 : St → Int32 → Int32 → Int32 → Int32 → Prop) (K_33 : St → Int32 → Int32 → Int32 → Int32 → Int32 → Int32 → Prop) (a0 : Nat) (a1 : Nat) (s_h33 : St) (x2h33 : Int32) (x4h33 : Int32) (x5h33 : Int32) (x6h33 : Int32) (x7h33 : Int32) (x8h33 : Int32) : Prop := (((sV s_h33 a0 6) ≤ x8h33 → K_3 s_h33 x2h33 x4h33 x5h33 (x6h33 + 1)) ∧ (¬ ((sV s_h33 a0 6) ≤ x8h33) → xP (uV s_h33 a0 0 x8h33) (fun s_3 : St => wu_Ck_load y (fun (s_5 : St) => wu_Ck_arrive y (fun (s_7 : St) (r_6 : Int32) => ((¬ r_6 = 0 → wj_Ck_check_80 y Post K_3 K_33 a0 a1 s_7 x2h33 x4h33 x5h33 x6h33 x8h33 r_6) ∧ (r_6 = 0 → ((x5h33 = 0 → wj_Ck_check_80 y Post K_3 K_33 a0 a1 s_7 x2h33 x4h33 x5h33 x6h33 x8h33 r_6) ∧ (¬ (x5h33 = 0) → wu_Ck_keep y (fun (s_23 : St) => wj_Ck_check_80 y Post K_3 K_33 a0 a1 s_23 x2h33 x4h33 x5h33 x6h33 x8h33 r_6) s_7 a0 x8h33))))) s_5 a0 x8h33 x7h33) s_3 a0 x8h33)))
def wl_Ck_check_33 (y : Ly) (Post : St → Int32 → Prop) (K_3 : St → Int32 → Int32 → Int32 → Int32 → Prop) (a0 : Nat) (a1 : Nat) (s_h33 : St) (x2h33 : Int32) (x4h33 : Int32) (x5h33 : Int32) (x6h33 : Int32) (x7h33 : Int32) (x8h33 : Int32) : Prop := ∃ (I : St → Int32 → Int32 → Int32 → Int32 → Int32 → Int32 → Prop) (μ : St → Int32 → Int32 → Int32 → Int32 → Int32 → Int32 → Nat), I s_h33 x2h33 x4h33 x5h33 x6h33 x7h33 x8h33 ∧ ∀ (u : St) (t0 : Int32) (t1 : Int32) (t2 : Int32) (t3 : Int32) (t4 : Int32) (t5 : Int32), I u t0 t1 t2 t3 t4 t5 → wb_Ck_check_33 y Post K_3 (fun z t0q t1q t2q t3q t4q t5q => I z t0q t1q t2q t3q t4q t5q ∧ μ z t0q t1q t2q t3q t4q t5q < μ u t0 t1 t2 t3 t4 t5) a0 a1 u t0 t1 t2 t3 t4 t5
def wj_Ck_check_27 (y : Ly) (Post : St → Int32 → Prop) (K_3 : St → Int32 → Int32 → Int32 → Int32 → Prop) (a0 : Nat) (a1 : Nat) (s_j27 : St) (x2j27 : Int32) (x4j27 : Int32) (x5j27 : Int32) (x6j27 : Int32) : Prop := wl_Ck_check_33 y Post K_3 a0 a1 s_j27 x2j27 x4j27 x5j27 x6j27 1 0
def wb_Ck_check_3 (y : Ly) (Post : St → Int32 → Prop) (K_3 : St → Int32 → Int32 → Int32 → Int32 → Prop) (a0 : Nat) (a1 : Nat) (s_h3 : St) (x2h3 : Int32) (x4h3 : Int32) (x5h3 : Int32) (x6h3 : Int32) : Prop := ((x4h3 ≤ x6h3 → Post s_h3 0) ∧ (¬ (x4h3 ≤ x6h3) → wu_Ck_begin y (fun (s_2 : St) => ((x5h3 = 0 → wj_Ck_check_27 y Post K_3 a0 a1 s_2 x2h3 x4h3 x5h3 x6h3) ∧ (¬ (x5h3 = 0) → wu_Ck_forget y (fun (s_25 : St) => wj_Ck_check_27 y Post K_3 a0 a1 s_25 x2h3 x4h3 x5h3 x6h3) s_2 a0))) s_h3 a0 a1 x2h3 x6h3))
def wl_Ck_check_3 (y : Ly) (Post : St → Int32 → Prop) (a0 : Nat) (a1 : Nat) (s_h3 : St) (x2h3 : Int32) (x4h3 : Int32) (x5h3 : Int32) (x6h3 : Int32) : Prop := ∃ (I : St → Int32 → Int32 → Int32 → Int32 → Prop) (μ : St → Int32 → Int32 → Int32 → Int32 → Nat), I s_h3 x2h3 x4h3 x5h3 x6h3 ∧ ∀ (u : St) (t0 : Int32) (t1 : Int32) (t2 : Int32) (t3 : Int32), I u t0 t1 t2 t3 → wb_Ck_check_3 y Post (fun z t0q t1q t2q t3q => I z t0q t1q t2q t3q ∧ μ z t0q t1q t2q t3q < μ u t0 t1 t2 t3) a0 a1 u t0 t1 t2 t3
def wu_Ck_check (y : Ly) (Post : St → Int32 → Prop) (σ : St) (a0 : Nat) (a1 : Nat) (v2 : Int32) (v3 : Int32) (v4 : Int32) (v5 : Int32) : Prop := wl_Ck_check_3 y Post a0 a1 σ v2 v4 v5 v3
set_option maxHeartbeats 4000000 in
set_option maxRecDepth 100000 in
theorem cu_Ck_check (l : Launch) (D : va_G) (g : Nat → ClassId) (F : Nat → SL) (sl : List SL) (hF : SOK F sl) (ad : Nat → Nat) (y : Ly) (Post : St → Int32 → Prop) (σ : St) (a0 : Nat) (a1 : Nat) (v2 : Int32) (v3 : Int32) (v4 : Int32) (v5 : Int32) (sz : Nat) (h_a0 : cl a0 = 0) (h_a1 : cl a1 = 9) (h : wu_Ck_check y Post σ a0 a1 v2 v3 v4 v5) : Met l y_Ck_check (mw y_Ck_check b_Ck_check 10 (some .int)) ru_Ck_check (PC g D sl [.ref (ad a0), .ref (ad a1), .int v2, .int v3, .int v4, .int v5] sz (ws g ad y σ)) (va_Qi (fun (r : Int32) (u : St) => Post u r) (QW D (va_A (ws g ad y σ) sz) (fun u => ws g ad y u)) (va_A (ws g ad y σ) sz)) 0 0 (va_A (ws g ad y σ) sz) := by
  refine ofI (by decide +kernel) (Nat.le_of_ble_eq_true rfl) ?_
  intro p e s m args below meth c A Q ls H locs G hsz hP hD hS hl hret
  subst hsz
  have hl : lv_has ls 10 [(0, .ref (ad a0)), (1, .ref (ad a1)), (2, .int v2), (3, .int v3), (4, .int v4), (5, .int v5)] := hl
  unfold wu_Ck_check at h
  refine lv_iload_n G.1 G.2.1 d_Ck_check_0 rfl (lv_at hl 3 rfl) ?_
  refine lv_istore (lv' := [(6, .int v3), (0, .ref (ad a0)), (1, .ref (ad a1)), (2, .int v2), (3, .int v3), (4, .int v4), (5, .int v5)]) G.1 G.2.1 d_Ck_check_1 hl (by decide) rfl (fun ls hl => ?_)
  unfold wl_Ck_check_3 at h
  obtain ⟨I_3, μ_3, hI_3, hB_3⟩ := h
  have L_3 : ∀ (n_3 : Nat) (s_h3 : St) (x2h3 : Int32) (x4h3 : Int32) (x5h3 : Int32) (x6h3 : Int32), μ_3 s_h3 x2h3 x4h3 x5h3 x6h3 < n_3 → I_3 s_h3 x2h3 x4h3 x5h3 x6h3 → ∀ (H : Heap) (locs : List Loc), va_P D CL (ws g ad y s_h3) H → va_D A (ws g ad y s_h3) → va_S A s.heap H locs → ∀ ls, lv_has ls 10 [(0, .ref (ad a0)), (1, .ref (ad a1)), (2, .int x2h3), (4, .int x4h3), (5, .int x5h3), (6, .int x6h3)] → W p l e ru_Ck_check s m args below meth c H locs 0 0 Q (F0 m 3 ls []) := by
    intro n_3
    induction n_3 with
    | zero => intro s_h3 x2h3 x4h3 x5h3 x6h3 hμ; exact absurd hμ (Nat.not_lt_zero _)
    | succ n_3 ih_3 =>
      intro s_h3 x2h3 x4h3 x5h3 x6h3 hμ_3 hJ H locs hP hD hS ls hl
      obtain ⟨K_3, hK_3, h⟩ : ∃ K : St → Int32 → Int32 → Int32 → Int32 → Prop, (∀ z (t0 : Int32) (t1 : Int32) (t2 : Int32) (t3 : Int32), K z t0 t1 t2 t3 → I_3 z t0 t1 t2 t3 ∧ μ_3 z t0 t1 t2 t3 < μ_3 s_h3 x2h3 x4h3 x5h3 x6h3) ∧ wb_Ck_check_3 y Post K a0 a1 s_h3 x2h3 x4h3 x5h3 x6h3 := ⟨_, fun _ _ _ _ _ h => h, hB_3 s_h3 x2h3 x4h3 x5h3 x6h3 hJ⟩
      unfold wb_Ck_check_3 at h
      refine lv_iload G.1 G.2.1 d_Ck_check_3 (lv_at hl 5 rfl) ?_
      refine lv_iload G.1 G.2.1 d_Ck_check_5 (lv_at hl 3 rfl) ?_
      refine lv_icmp_ge (tgt := 218) G.1 G.2.1 d_Ck_check_7 (by decide) (fun c7 => ?_) (fun c7 => ?_)
      · skip
        have h := h.1 c7
        refine lv_iconst (v := 0) G.1 G.2.1 d_Ck_check_218 (by decide) ?_
        exact hret _ _ _ _ _ _ _ ls h hP hD hS (Nat.le_refl _) (Nat.le_refl _) d_Ck_check_219
      · skip
        have h := h.2 c7
        refine lv_aload_n G.1 G.2.1 d_Ck_check_10 rfl (lv_at hl 0 rfl) ?_
        refine lv_aload_n G.1 G.2.1 d_Ck_check_11 rfl (lv_at hl 1 rfl) ?_
        refine lv_iload_n G.1 G.2.1 d_Ck_check_12 rfl (lv_at hl 2 rfl) ?_
        refine lv_iload G.1 G.2.1 d_Ck_check_13 (lv_at hl 5 rfl) ?_
        refine ucVv (As := [.ref (ad a1), .int x2h3, .int x6h3]) (rest := []) G hP hD hS (cu_Ck_begin l D g ad y _ s_h3 a0 a1 x2h3 x6h3 H.size h_a0 h_a1 h) w9_Ck_begin q1576 ⟨Nat.le_of_ble_eq_true rfl, Nat.le_of_ble_eq_true rfl⟩ rfl rfl h_a0 (q := (RCk, TCk, 22)) rfl rfl hl.1 rfl (Nat.le_of_ble_eq_true rfl) rfl ⟨Nat.le_refl _, Nat.le_refl _⟩ d_Ck_check_15 (fun s_2 H locs h hP hD hS => ?_)
        refine lv_iload G.1 G.2.1 d_Ck_check_18 (lv_at hl 4 rfl) ?_
        have J_27 : ∀ (s_j27 : St) (x2j27 : Int32) (x4j27 : Int32) (x5j27 : Int32) (x6j27 : Int32) (H : Heap) (locs : List Loc), wj_Ck_check_27 y Post K_3 a0 a1 s_j27 x2j27 x4j27 x5j27 x6j27 → va_P D CL (ws g ad y s_j27) H → va_D A (ws g ad y s_j27) → va_S A s.heap H locs → ∀ ls, lv_has ls 10 [(0, .ref (ad a0)), (1, .ref (ad a1)), (2, .int x2j27), (4, .int x4j27), (5, .int x5j27), (6, .int x6j27)] → W p l e ru_Ck_check s m args below meth c H locs 0 0 Q (F0 m 27 ls []) := by
          intro s_j27 x2j27 x4j27 x5j27 x6j27 H locs h hP hD hS ls hl
          unfold wj_Ck_check_27 at h
          refine lv_iconst (v := 1) G.1 G.2.1 d_Ck_check_27 (by decide) ?_
          refine lv_istore (lv' := [(7, .int 1), (0, .ref (ad a0)), (1, .ref (ad a1)), (2, .int x2j27), (4, .int x4j27), (5, .int x5j27), (6, .int x6j27)]) G.1 G.2.1 d_Ck_check_28 hl (by decide) rfl (fun ls hl => ?_)
          refine lv_iconst (v := 0) G.1 G.2.1 d_Ck_check_30 (by decide) ?_
          refine lv_istore (lv' := [(8, .int 0), (7, .int 1), (0, .ref (ad a0)), (1, .ref (ad a1)), (2, .int x2j27), (4, .int x4j27), (5, .int x5j27), (6, .int x6j27)]) G.1 G.2.1 d_Ck_check_31 hl (by decide) rfl (fun ls hl => ?_)
          unfold wl_Ck_check_33 at h
          obtain ⟨I_33, μ_33, hI_33, hB_33⟩ := h
          have L_33 : ∀ (n_33 : Nat) (s_h33 : St) (x2h33 : Int32) (x4h33 : Int32) (x5h33 : Int32) (x6h33 : Int32) (x7h33 : Int32) (x8h33 : Int32), μ_33 s_h33 x2h33 x4h33 x5h33 x6h33 x7h33 x8h33 < n_33 → I_33 s_h33 x2h33 x4h33 x5h33 x6h33 x7h33 x8h33 → ∀ (H : Heap) (locs : List Loc), va_P D CL (ws g ad y s_h33) H → va_D A (ws g ad y s_h33) → va_S A s.heap H locs → ∀ ls, lv_has ls 10 [(0, .ref (ad a0)), (1, .ref (ad a1)), (2, .int x2h33), (4, .int x4h33), (5, .int x5h33), (6, .int x6h33), (7, .int x7h33), (8, .int x8h33)] → W p l e ru_Ck_check s m args below meth c H locs 0 0 Q (F0 m 33 ls []) := by
            intro n_33
            induction n_33 with
            | zero => intro s_h33 x2h33 x4h33 x5h33 x6h33 x7h33 x8h33 hμ; exact absurd hμ (Nat.not_lt_zero _)
            | succ n_33 ih_33 =>
              intro s_h33 x2h33 x4h33 x5h33 x6h33 x7h33 x8h33 hμ_33 hJ H locs hP hD hS ls hl
              obtain ⟨K_33, hK_33, h⟩ : ∃ K : St → Int32 → Int32 → Int32 → Int32 → Int32 → Int32 → Prop, (∀ z (t0 : Int32) (t1 : Int32) (t2 : Int32) (t3 : Int32) (t4 : Int32) (t5 : Int32), K z t0 t1 t2 t3 t4 t5 → I_33 z t0 t1 t2 t3 t4 t5 ∧ μ_33 z t0 t1 t2 t3 t4 t5 < μ_33 s_h33 x2h33 x4h33 x5h33 x6h33 x7h33 x8h33) ∧ wb_Ck_check_33 y Post K_3 K a0 a1 s_h33 x2h33 x4h33 x5h33 x6h33 x7h33 x8h33 := ⟨_, fun _ _ _ _ _ _ _ h => h, hB_33 s_h33 x2h33 x4h33 x5h33 x6h33 x7h33 x8h33 hJ⟩
              unfold wb_Ck_check_33 at h
              refine lv_iload G.1 G.2.1 d_Ck_check_33 (lv_at hl 7 rfl) ?_
              refine lv_aload_n G.1 G.2.1 d_Ck_check_35 rfl (lv_at hl 0 rfl) ?_
              refine ugf (v := .int (sV s_h33 a0 6)) G hP h_a0 iCk rfl 6 (by decide) rfl q657 rfl rfl d_Ck_check_36 ?_
              refine lv_icmp_ge (tgt := 212) G.1 G.2.1 d_Ck_check_39 (by decide) (fun c39 => ?_) (fun c39 => ?_)
              · skip
                have h := h.1 c39
                refine lv_iinc (v := x6h33 + 1) (lv' := [(6, .int (x6h33 + 1)), (0, .ref (ad a0)), (1, .ref (ad a1)), (2, .int x2h33), (4, .int x4h33), (5, .int x5h33), (7, .int x7h33), (8, .int x8h33)]) G.1 G.2.1 d_Ck_check_212 hl (k := 5) rfl rfl (by decide) rfl (fun ls hl => ?_)
                refine lv_goto (tgt := 3) G.1 G.2.1 d_Ck_check_215 (by decide) ?_
                have h := hK_3 s_h33 x2h33 x4h33 x5h33 (x6h33 + 1) h
                exact ih_3 s_h33 x2h33 x4h33 x5h33 (x6h33 + 1) (Nat.lt_of_lt_of_le h.2 (Nat.le_of_lt_succ hμ_3)) h.1 H locs hP hD hS ls (lv_sub hl [1, 2, 3, 4, 5, 0] rfl)
              · skip
                have h := h.2 c39
                refine lv_aload_n G.1 G.2.1 d_Ck_check_42 rfl (lv_at hl 0 rfl) ?_
                refine lv_iload G.1 G.2.1 d_Ck_check_43 (lv_at hl 7 rfl) ?_
                refine upf G hP hD hS h 0 putV h_a0 iCk tCk tCk_ok nCk rfl (by decide) rfl q648 rfl rfl fV rfl rfl d_Ck_check_45 (fun s_3 H locs h hP hD hS => ?_)
                refine lv_aload_n G.1 G.2.1 d_Ck_check_48 rfl (lv_at hl 0 rfl) ?_
                refine lv_iload G.1 G.2.1 d_Ck_check_49 (lv_at hl 7 rfl) ?_
                refine usVv (As := [.int x8h33]) (rest := []) G hP hD hS (cu_Ck_load l D g F sl hF ad y _ s_3 a0 x8h33 H.size h_a0 h) w9_Ck_load q1597 ⟨Nat.le_of_ble_eq_true rfl, Nat.le_of_ble_eq_true rfl⟩ rfl rfl h_a0 (q := (RCk, TCk, 22)) rfl rfl hl.1 rfl (Nat.le_of_ble_eq_true rfl) rfl ⟨Nat.le_refl _, Nat.le_refl _⟩ d_Ck_check_51 (fun s_5 H locs h hP hD hS => ?_)
                refine lv_aload_n G.1 G.2.1 d_Ck_check_54 rfl (lv_at hl 0 rfl) ?_
                refine W.eq (g2 := F0 m 55 ls [.ref (ad a0)]) rfl ?_
                refine lv_iload G.1 G.2.1 d_Ck_check_55 (lv_at hl 7 rfl) ?_
                refine lv_iload G.1 G.2.1 d_Ck_check_57 (lv_at hl 6 rfl) ?_
                refine ucVi (As := [.int x8h33, .int x7h33]) (rest := []) G hP hD hS (cu_Ck_arrive l D g ad y _ s_5 a0 x8h33 x7h33 H.size h_a0 h) w9_Ck_arrive q1603 ⟨Nat.le_of_ble_eq_true rfl, Nat.le_of_ble_eq_true rfl⟩ rfl rfl h_a0 (q := (RCk, TCk, 22)) rfl rfl hl.1 rfl (Nat.le_of_ble_eq_true rfl) rfl ⟨Nat.le_refl _, Nat.le_refl _⟩ d_Ck_check_59 (fun r_6 s_7 H locs h hP hD hS => ?_)
                refine lv_istore (lv' := [(9, .int r_6), (0, .ref (ad a0)), (1, .ref (ad a1)), (2, .int x2h33), (4, .int x4h33), (5, .int x5h33), (6, .int x6h33), (7, .int x7h33), (8, .int x8h33)]) G.1 G.2.1 d_Ck_check_62 hl (by decide) rfl (fun ls hl => ?_)
                refine lv_iload G.1 G.2.1 d_Ck_check_64 (lv_at hl 0 rfl) ?_
                have J_80 : ∀ (s_j80 : St) (x2j80 : Int32) (x4j80 : Int32) (x5j80 : Int32) (x6j80 : Int32) (x8j80 : Int32) (x9j80 : Int32) (H : Heap) (locs : List Loc), wj_Ck_check_80 y Post K_3 K_33 a0 a1 s_j80 x2j80 x4j80 x5j80 x6j80 x8j80 x9j80 → va_P D CL (ws g ad y s_j80) H → va_D A (ws g ad y s_j80) → va_S A s.heap H locs → ∀ ls, lv_has ls 10 [(0, .ref (ad a0)), (1, .ref (ad a1)), (2, .int x2j80), (4, .int x4j80), (5, .int x5j80), (6, .int x6j80), (8, .int x8j80), (9, .int x9j80)] → W p l e ru_Ck_check s m args below meth c H locs 0 0 Q (F0 m 80 ls []) := by
                  intro s_j80 x2j80 x4j80 x5j80 x6j80 x8j80 x9j80 H locs h hP hD hS ls hl
                  unfold wj_Ck_check_80 at h
                  refine lv_iload G.1 G.2.1 d_Ck_check_80 (lv_at hl 7 rfl) ?_
                  have J_96 : ∀ (s_j96 : St) (x2j96 : Int32) (x4j96 : Int32) (x5j96 : Int32) (x6j96 : Int32) (x8j96 : Int32) (z0j96 : Int32) (H : Heap) (locs : List Loc), wj_Ck_check_96 y Post K_3 K_33 a0 a1 s_j96 x2j96 x4j96 x5j96 x6j96 x8j96 z0j96 → va_P D CL (ws g ad y s_j96) H → va_D A (ws g ad y s_j96) → va_S A s.heap H locs → ∀ ls, lv_has ls 10 [(0, .ref (ad a0)), (1, .ref (ad a1)), (2, .int x2j96), (4, .int x4j96), (5, .int x5j96), (6, .int x6j96), (8, .int x8j96)] → W p l e ru_Ck_check s m args below meth c H locs 0 0 Q (F0 m 96 ls [.int z0j96]) := by
                    intro s_j96 x2j96 x4j96 x5j96 x6j96 x8j96 z0j96 H locs h hP hD hS ls hl
                    unfold wj_Ck_check_96 at h
                    refine lv_istore (lv' := [(9, .int z0j96), (0, .ref (ad a0)), (1, .ref (ad a1)), (2, .int x2j96), (4, .int x4j96), (5, .int x5j96), (6, .int x6j96), (8, .int x8j96)]) G.1 G.2.1 d_Ck_check_96 hl (by decide) rfl (fun ls hl => ?_)
                    refine lv_iload G.1 G.2.1 d_Ck_check_98 (lv_at hl 0 rfl) ?_
                    have J_114 : ∀ (s_j114 : St) (x2j114 : Int32) (x4j114 : Int32) (x5j114 : Int32) (x6j114 : Int32) (x8j114 : Int32) (z0j114 : Int32) (H : Heap) (locs : List Loc), wj_Ck_check_114 y Post K_3 K_33 a0 a1 s_j114 x2j114 x4j114 x5j114 x6j114 x8j114 z0j114 → va_P D CL (ws g ad y s_j114) H → va_D A (ws g ad y s_j114) → va_S A s.heap H locs → ∀ ls, lv_has ls 10 [(0, .ref (ad a0)), (1, .ref (ad a1)), (2, .int x2j114), (4, .int x4j114), (5, .int x5j114), (6, .int x6j114), (8, .int x8j114)] → W p l e ru_Ck_check s m args below meth c H locs 0 0 Q (F0 m 114 ls [.int z0j114]) := by
                      intro s_j114 x2j114 x4j114 x5j114 x6j114 x8j114 z0j114 H locs h hP hD hS ls hl
                      unfold wj_Ck_check_114 at h
                      refine lv_istore (lv' := [(9, .int z0j114), (0, .ref (ad a0)), (1, .ref (ad a1)), (2, .int x2j114), (4, .int x4j114), (5, .int x5j114), (6, .int x6j114), (8, .int x8j114)]) G.1 G.2.1 d_Ck_check_114 hl (by decide) rfl (fun ls hl => ?_)
                      refine lv_iload G.1 G.2.1 d_Ck_check_116 (lv_at hl 0 rfl) ?_
                      have J_146 : ∀ (s_j146 : St) (x2j146 : Int32) (x4j146 : Int32) (x5j146 : Int32) (x6j146 : Int32) (x8j146 : Int32) (x9j146 : Int32) (H : Heap) (locs : List Loc), wj_Ck_check_146 y Post K_3 K_33 a0 a1 s_j146 x2j146 x4j146 x5j146 x6j146 x8j146 x9j146 → va_P D CL (ws g ad y s_j146) H → va_D A (ws g ad y s_j146) → va_S A s.heap H locs → ∀ ls, lv_has ls 10 [(0, .ref (ad a0)), (1, .ref (ad a1)), (2, .int x2j146), (4, .int x4j146), (5, .int x5j146), (6, .int x6j146), (8, .int x8j146), (9, .int x9j146)] → W p l e ru_Ck_check s m args below meth c H locs 0 0 Q (F0 m 146 ls []) := by
                        intro s_j146 x2j146 x4j146 x5j146 x6j146 x8j146 x9j146 H locs h hP hD hS ls hl
                        unfold wj_Ck_check_146 at h
                        refine lv_iload G.1 G.2.1 d_Ck_check_146 (lv_at hl 7 rfl) ?_
                        have J_160 : ∀ (s_j160 : St) (x2j160 : Int32) (x4j160 : Int32) (x5j160 : Int32) (x6j160 : Int32) (x8j160 : Int32) (z0j160 : Int32) (H : Heap) (locs : List Loc), wj_Ck_check_160 y Post K_3 K_33 a0 a1 s_j160 x2j160 x4j160 x5j160 x6j160 x8j160 z0j160 → va_P D CL (ws g ad y s_j160) H → va_D A (ws g ad y s_j160) → va_S A s.heap H locs → ∀ ls, lv_has ls 10 [(0, .ref (ad a0)), (1, .ref (ad a1)), (2, .int x2j160), (4, .int x4j160), (5, .int x5j160), (6, .int x6j160), (8, .int x8j160)] → W p l e ru_Ck_check s m args below meth c H locs 0 0 Q (F0 m 160 ls [.int z0j160]) := by
                          intro s_j160 x2j160 x4j160 x5j160 x6j160 x8j160 z0j160 H locs h hP hD hS ls hl
                          unfold wj_Ck_check_160 at h
                          refine lv_istore (lv' := [(9, .int z0j160), (0, .ref (ad a0)), (1, .ref (ad a1)), (2, .int x2j160), (4, .int x4j160), (5, .int x5j160), (6, .int x6j160), (8, .int x8j160)]) G.1 G.2.1 d_Ck_check_160 hl (by decide) rfl (fun ls hl => ?_)
                          refine lv_aload_n G.1 G.2.1 d_Ck_check_162 rfl (lv_at hl 1 rfl) ?_
                          refine ucVi (As := []) (rest := []) G hP hD hS (cu_Ck_goesOn l D g ad y _ s_j160 a0 H.size h_a0 h) w9_Ck_goesOn q1696 ⟨Nat.le_of_ble_eq_true rfl, Nat.le_of_ble_eq_true rfl⟩ rfl rfl h_a0 (q := (RCk, TCk, 22)) rfl rfl hl.1 rfl (Nat.le_of_ble_eq_true rfl) rfl ⟨Nat.le_refl _, Nat.le_refl _⟩ d_Ck_check_163 (fun r_8 s_9 H locs h hP hD hS => ?_)
                          refine lv_istore (lv' := [(7, .int r_8), (9, .int z0j160), (0, .ref (ad a0)), (1, .ref (ad a1)), (2, .int x2j160), (4, .int x4j160), (5, .int x5j160), (6, .int x6j160), (8, .int x8j160)]) G.1 G.2.1 d_Ck_check_166 hl (by decide) rfl (fun ls hl => ?_)
                          refine lv_iload G.1 G.2.1 d_Ck_check_168 (lv_at hl 1 rfl) ?_
                          have J_196 : ∀ (s_j196 : St) (x2j196 : Int32) (x4j196 : Int32) (x5j196 : Int32) (x6j196 : Int32) (x7j196 : Int32) (x8j196 : Int32) (z0j196 : Int32) (H : Heap) (locs : List Loc), wj_Ck_check_196 y Post K_3 K_33 a0 a1 s_j196 x2j196 x4j196 x5j196 x6j196 x7j196 x8j196 z0j196 → va_P D CL (ws g ad y s_j196) H → va_D A (ws g ad y s_j196) → va_S A s.heap H locs → ∀ ls, lv_has ls 10 [(0, .ref (ad a0)), (1, .ref (ad a1)), (2, .int x2j196), (4, .int x4j196), (5, .int x5j196), (6, .int x6j196), (7, .int x7j196), (8, .int x8j196)] → W p l e ru_Ck_check s m args below meth c H locs 0 0 Q (F0 m 196 ls [.int z0j196]) := by
                            intro s_j196 x2j196 x4j196 x5j196 x6j196 x7j196 x8j196 z0j196 H locs h hP hD hS ls hl
                            unfold wj_Ck_check_196 at h
                            refine lv_istore (lv' := [(9, .int z0j196), (0, .ref (ad a0)), (1, .ref (ad a1)), (2, .int x2j196), (4, .int x4j196), (5, .int x5j196), (6, .int x6j196), (7, .int x7j196), (8, .int x8j196)]) G.1 G.2.1 d_Ck_check_196 hl (by decide) rfl (fun ls hl => ?_)
                            refine lv_iload G.1 G.2.1 d_Ck_check_198 (lv_at hl 0 rfl) ?_
                            refine lv_if_eq (tgt := 206) G.1 G.2.1 d_Ck_check_200 (by decide) (fun c200 => ?_) (fun c200 => ?_)
                            · skip
                              have h := h.1 c200
                              refine lv_iinc (v := x8j196 + 1) (lv' := [(8, .int (x8j196 + 1)), (9, .int z0j196), (0, .ref (ad a0)), (1, .ref (ad a1)), (2, .int x2j196), (4, .int x4j196), (5, .int x5j196), (6, .int x6j196), (7, .int x7j196)]) G.1 G.2.1 d_Ck_check_206 hl (k := 8) rfl rfl (by decide) rfl (fun ls hl => ?_)
                              refine lv_goto (tgt := 33) G.1 G.2.1 d_Ck_check_209 (by decide) ?_
                              have h := hK_33 s_j196 x2j196 x4j196 x5j196 x6j196 x7j196 (x8j196 + 1) h
                              exact ih_33 s_j196 x2j196 x4j196 x5j196 x6j196 x7j196 (x8j196 + 1) (Nat.lt_of_lt_of_le h.2 (Nat.le_of_lt_succ hμ_33)) h.1 H locs hP hD hS ls (lv_sub hl [2, 3, 4, 5, 6, 7, 8, 0] rfl)
                            · skip
                              have h := h.2 c200
                              refine lv_iload G.1 G.2.1 d_Ck_check_203 (lv_at hl 0 rfl) ?_
                              exact hret _ _ _ _ _ _ _ ls h hP hD hS (Nat.le_refl _) (Nat.le_refl _) d_Ck_check_205
                          have J_194 : ∀ (s_j194 : St) (x2j194 : Int32) (x4j194 : Int32) (x5j194 : Int32) (x6j194 : Int32) (x7j194 : Int32) (x8j194 : Int32) (x9j194 : Int32) (H : Heap) (locs : List Loc), wj_Ck_check_194 y Post K_3 K_33 a0 a1 s_j194 x2j194 x4j194 x5j194 x6j194 x7j194 x8j194 x9j194 → va_P D CL (ws g ad y s_j194) H → va_D A (ws g ad y s_j194) → va_S A s.heap H locs → ∀ ls, lv_has ls 10 [(0, .ref (ad a0)), (1, .ref (ad a1)), (2, .int x2j194), (4, .int x4j194), (5, .int x5j194), (6, .int x6j194), (7, .int x7j194), (8, .int x8j194), (9, .int x9j194)] → W p l e ru_Ck_check s m args below meth c H locs 0 0 Q (F0 m 194 ls []) := by
                            intro s_j194 x2j194 x4j194 x5j194 x6j194 x7j194 x8j194 x9j194 H locs h hP hD hS ls hl
                            unfold wj_Ck_check_194 at h
                            refine lv_iload G.1 G.2.1 d_Ck_check_194 (lv_at hl 8 rfl) ?_
                            exact J_196 s_j194 x2j194 x4j194 x5j194 x6j194 x7j194 x8j194 x9j194 H locs h hP hD hS ls (lv_sub hl [0, 1, 2, 3, 4, 5, 6, 7] rfl)
                          refine lv_if_ne (tgt := 194) G.1 G.2.1 d_Ck_check_170 (by decide) (fun c170 => ?_) (fun c170 => ?_)
                          · skip
                            have h := h.1 c170
                            exact J_194 s_9 x2j160 x4j160 x5j160 x6j160 r_8 x8j160 z0j160 H locs h hP hD hS ls (lv_sub hl [2, 3, 4, 5, 6, 7, 0, 8, 1] rfl)
                          · skip
                            have h := h.2 c170
                            refine lv_iload G.1 G.2.1 d_Ck_check_173 (lv_at hl 0 rfl) ?_
                            refine lv_if_eq (tgt := 194) G.1 G.2.1 d_Ck_check_175 (by decide) (fun c175 => ?_) (fun c175 => ?_)
                            · skip
                              have h := h.1 c175
                              exact J_194 s_9 x2j160 x4j160 x5j160 x6j160 r_8 x8j160 z0j160 H locs h hP hD hS ls (lv_sub hl [2, 3, 4, 5, 6, 7, 0, 8, 1] rfl)
                            · skip
                              have h := h.2 c175
                              refine lv_iload G.1 G.2.1 d_Ck_check_178 (lv_at hl 8 rfl) ?_
                              refine lv_aload_n G.1 G.2.1 d_Ck_check_180 rfl (lv_at hl 2 rfl) ?_
                              refine ugf (v := .int (sV s_9 a0 6)) G hP h_a0 iCk rfl 6 (by decide) rfl q657 rfl rfl d_Ck_check_181 ?_
                              refine W.eq (g2 := F0 m 184 ls [.int (sV s_9 a0 6), .int x8j160]) rfl ?_
                              refine lv_iconst (v := 1) G.1 G.2.1 d_Ck_check_184 (by decide) ?_
                              refine lv_isub G.1 G.2.1 d_Ck_check_185 ?_
                              refine lv_icmp_ne (tgt := 194) G.1 G.2.1 d_Ck_check_186 (by decide) (fun c186 => ?_) (fun c186 => ?_)
                              · skip
                                have h := h.1 c186
                                exact J_194 s_9 x2j160 x4j160 x5j160 x6j160 r_8 x8j160 z0j160 H locs h hP hD hS ls (lv_sub hl [2, 3, 4, 5, 6, 7, 0, 8, 1] rfl)
                              · skip
                                have h := h.2 c186
                                refine lv_bipush (v := 35) G.1 G.2.1 d_Ck_check_189 (by decide) ?_
                                refine lv_goto (tgt := 196) G.1 G.2.1 d_Ck_check_191 (by decide) ?_
                                exact J_196 s_9 x2j160 x4j160 x5j160 x6j160 r_8 x8j160 35 H locs h hP hD hS ls (lv_sub hl [2, 3, 4, 5, 6, 7, 0, 8] rfl)
                        refine lv_if_eq (tgt := 156) G.1 G.2.1 d_Ck_check_148 (by decide) (fun c148 => ?_) (fun c148 => ?_)
                        · skip
                          have h := h.1 c148
                          refine lv_aload_n G.1 G.2.1 d_Ck_check_156 rfl (lv_at hl 0 rfl) ?_
                          refine ucVi (As := []) (rest := []) G hP hD hS (cu_Ck_labelsFit l D g ad y _ s_j146 a0 H.size h_a0 h) w9_Ck_labelsFit q1684 ⟨Nat.le_of_ble_eq_true rfl, Nat.le_of_ble_eq_true rfl⟩ rfl rfl h_a0 (q := (RCk, TCk, 22)) rfl rfl hl.1 rfl (Nat.le_of_ble_eq_true rfl) rfl ⟨Nat.le_refl _, Nat.le_refl _⟩ d_Ck_check_157 (fun r_10 s_11 H locs h hP hD hS => ?_)
                          exact J_160 s_11 x2j146 x4j146 x5j146 x6j146 x8j146 r_10 H locs h hP hD hS ls (lv_sub hl [0, 1, 2, 3, 4, 5, 6] rfl)
                        · skip
                          have h := h.2 c148
                          refine lv_iload G.1 G.2.1 d_Ck_check_151 (lv_at hl 7 rfl) ?_
                          refine lv_goto (tgt := 160) G.1 G.2.1 d_Ck_check_153 (by decide) ?_
                          exact J_160 s_j146 x2j146 x4j146 x5j146 x6j146 x8j146 x9j146 H locs h hP hD hS ls (lv_sub hl [0, 1, 2, 3, 4, 5, 6] rfl)
                      refine lv_if_ne (tgt := 146) G.1 G.2.1 d_Ck_check_118 (by decide) (fun c118 => ?_) (fun c118 => ?_)
                      · skip
                        have h := h.1 c118
                        exact J_146 s_j114 x2j114 x4j114 x5j114 x6j114 x8j114 z0j114 H locs h hP hD hS ls (lv_sub hl [1, 2, 3, 4, 5, 6, 7, 0] rfl)
                      · skip
                        have h := h.2 c118
                        refine lv_aload_n G.1 G.2.1 d_Ck_check_121 rfl (lv_at hl 1 rfl) ?_
                        refine lv_iload G.1 G.2.1 d_Ck_check_122 (lv_at hl 7 rfl) ?_
                        refine usVv (As := [.int x8j114]) (rest := []) G hP hD hS (cu_Ck_act l D g F sl hF ad y _ s_j114 a0 x8j114 H.size h_a0 h) w9_Ck_act q1668 ⟨Nat.le_of_ble_eq_true rfl, Nat.le_of_ble_eq_true rfl⟩ rfl rfl h_a0 (q := (RCk, TCk, 22)) rfl rfl hl.1 rfl (Nat.le_of_ble_eq_true rfl) rfl ⟨Nat.le_refl _, Nat.le_refl _⟩ d_Ck_check_124 (fun s_13 H locs h hP hD hS => ?_)
                        refine lv_aload_n G.1 G.2.1 d_Ck_check_127 rfl (lv_at hl 1 rfl) ?_
                        refine ucVi (As := []) (rest := []) G hP hD hS (cu_Ck_changesLocals l D g ad y _ s_13 a0 H.size h_a0 h) w9_Ck_changesLocals q1680 ⟨Nat.le_of_ble_eq_true rfl, Nat.le_of_ble_eq_true rfl⟩ rfl rfl h_a0 (q := (RCk, TCk, 22)) rfl rfl hl.1 rfl (Nat.le_of_ble_eq_true rfl) rfl ⟨Nat.le_refl _, Nat.le_refl _⟩ d_Ck_check_128 (fun r_14 s_15 H locs h hP hD hS => ?_)
                        have J_144 : ∀ (s_j144 : St) (x2j144 : Int32) (x4j144 : Int32) (x5j144 : Int32) (x6j144 : Int32) (x8j144 : Int32) (z0j144 : Int32) (H : Heap) (locs : List Loc), wj_Ck_check_144 y Post K_3 K_33 a0 a1 s_j144 x2j144 x4j144 x5j144 x6j144 x8j144 z0j144 → va_P D CL (ws g ad y s_j144) H → va_D A (ws g ad y s_j144) → va_S A s.heap H locs → ∀ ls, lv_has ls 10 [(0, .ref (ad a0)), (1, .ref (ad a1)), (2, .int x2j144), (4, .int x4j144), (5, .int x5j144), (6, .int x6j144), (8, .int x8j144)] → W p l e ru_Ck_check s m args below meth c H locs 0 0 Q (F0 m 144 ls [.int z0j144]) := by
                          intro s_j144 x2j144 x4j144 x5j144 x6j144 x8j144 z0j144 H locs h hP hD hS ls hl
                          unfold wj_Ck_check_144 at h
                          refine lv_istore (lv' := [(9, .int z0j144), (0, .ref (ad a0)), (1, .ref (ad a1)), (2, .int x2j144), (4, .int x4j144), (5, .int x5j144), (6, .int x6j144), (8, .int x8j144)]) G.1 G.2.1 d_Ck_check_144 hl (by decide) rfl (fun ls hl => ?_)
                          exact J_146 s_j144 x2j144 x4j144 x5j144 x6j144 x8j144 z0j144 H locs h hP hD hS ls (lv_sub hl [1, 2, 3, 4, 5, 6, 7, 0] rfl)
                        refine lv_if_eq (tgt := 143) G.1 G.2.1 d_Ck_check_131 (by decide) (fun c131 => ?_) (fun c131 => ?_)
                        · skip
                          have h := h.1 c131
                          refine lv_iconst (v := 0) G.1 G.2.1 d_Ck_check_143 (by decide) ?_
                          exact J_144 s_15 x2j114 x4j114 x5j114 x6j114 x8j114 0 H locs h hP hD hS ls (lv_sub hl [1, 2, 3, 4, 5, 6, 7] rfl)
                        · skip
                          have h := h.2 c131
                          refine lv_aload_n G.1 G.2.1 d_Ck_check_134 rfl (lv_at hl 1 rfl) ?_
                          refine lv_iload G.1 G.2.1 d_Ck_check_135 (lv_at hl 7 rfl) ?_
                          refine W.eq (g2 := F0 m 137 ls [.int x8j114, .ref (ad a0)]) rfl ?_
                          refine ucVi (As := [.int x8j114]) (rest := []) G hP hD hS (cu_Ck_handlersFit l D g ad y _ s_15 a0 x8j114 H.size h_a0 h) w9_Ck_handlersFit q1629 ⟨Nat.le_of_ble_eq_true rfl, Nat.le_of_ble_eq_true rfl⟩ rfl rfl h_a0 (q := (RCk, TCk, 22)) rfl rfl hl.1 rfl (Nat.le_of_ble_eq_true rfl) rfl ⟨Nat.le_refl _, Nat.le_refl _⟩ d_Ck_check_137 (fun r_16 s_17 H locs h hP hD hS => ?_)
                          refine lv_goto (tgt := 144) G.1 G.2.1 d_Ck_check_140 (by decide) ?_
                          exact J_144 s_17 x2j114 x4j114 x5j114 x6j114 x8j114 r_16 H locs h hP hD hS ls (lv_sub hl [1, 2, 3, 4, 5, 6, 7] rfl)
                    refine lv_if_eq (tgt := 108) G.1 G.2.1 d_Ck_check_100 (by decide) (fun c100 => ?_) (fun c100 => ?_)
                    · skip
                      have h := h.1 c100
                      refine lv_aload_n G.1 G.2.1 d_Ck_check_108 rfl (lv_at hl 1 rfl) ?_
                      refine lv_iload G.1 G.2.1 d_Ck_check_109 (lv_at hl 7 rfl) ?_
                      refine usVi (As := [.int x8j96]) (rest := []) G hP hD hS (cu_Ck_rules l D g F sl hF ad y _ s_j96 a0 x8j96 H.size h_a0 h) w9_Ck_rules q1633 ⟨Nat.le_of_ble_eq_true rfl, Nat.le_of_ble_eq_true rfl⟩ rfl rfl h_a0 (q := (RCk, TCk, 22)) rfl rfl hl.1 rfl (Nat.le_of_ble_eq_true rfl) rfl ⟨Nat.le_refl _, Nat.le_refl _⟩ d_Ck_check_111 (fun r_18 s_19 H locs h hP hD hS => ?_)
                      exact J_114 s_19 x2j96 x4j96 x5j96 x6j96 x8j96 r_18 H locs h hP hD hS ls (lv_sub hl [1, 2, 3, 4, 5, 6, 7] rfl)
                    · skip
                      have h := h.2 c100
                      refine lv_iload G.1 G.2.1 d_Ck_check_103 (lv_at hl 0 rfl) ?_
                      refine lv_goto (tgt := 114) G.1 G.2.1 d_Ck_check_105 (by decide) ?_
                      exact J_114 s_j96 x2j96 x4j96 x5j96 x6j96 x8j96 z0j96 H locs h hP hD hS ls (lv_sub hl [1, 2, 3, 4, 5, 6, 7] rfl)
                  refine lv_if_eq (tgt := 90) G.1 G.2.1 d_Ck_check_82 (by decide) (fun c82 => ?_) (fun c82 => ?_)
                  · skip
                    have h := h.1 c82
                    refine lv_aload_n G.1 G.2.1 d_Ck_check_90 rfl (lv_at hl 0 rfl) ?_
                    refine lv_iload G.1 G.2.1 d_Ck_check_91 (lv_at hl 6 rfl) ?_
                    refine ucVi (As := [.int x8j80]) (rest := []) G hP hD hS (cu_Ck_handlersFit l D g ad y _ s_j80 a0 x8j80 H.size h_a0 h) w9_Ck_handlersFit q1629 ⟨Nat.le_of_ble_eq_true rfl, Nat.le_of_ble_eq_true rfl⟩ rfl rfl h_a0 (q := (RCk, TCk, 22)) rfl rfl hl.1 rfl (Nat.le_of_ble_eq_true rfl) rfl ⟨Nat.le_refl _, Nat.le_refl _⟩ d_Ck_check_93 (fun r_20 s_21 H locs h hP hD hS => ?_)
                    exact J_96 s_21 x2j80 x4j80 x5j80 x6j80 x8j80 r_20 H locs h hP hD hS ls (lv_sub hl [0, 1, 2, 3, 4, 5, 6] rfl)
                  · skip
                    have h := h.2 c82
                    refine lv_iload G.1 G.2.1 d_Ck_check_85 (lv_at hl 7 rfl) ?_
                    refine lv_goto (tgt := 96) G.1 G.2.1 d_Ck_check_87 (by decide) ?_
                    exact J_96 s_j80 x2j80 x4j80 x5j80 x6j80 x8j80 x9j80 H locs h hP hD hS ls (lv_sub hl [0, 1, 2, 3, 4, 5, 6] rfl)
                refine lv_if_ne (tgt := 80) G.1 G.2.1 d_Ck_check_66 (by decide) (fun c66 => ?_) (fun c66 => ?_)
                · skip
                  have h := h.1 c66
                  exact J_80 s_7 x2h33 x4h33 x5h33 x6h33 x8h33 r_6 H locs h hP hD hS ls (lv_sub hl [1, 2, 3, 4, 5, 6, 8, 0] rfl)
                · skip
                  have h := h.2 c66
                  refine lv_iload G.1 G.2.1 d_Ck_check_69 (lv_at hl 5 rfl) ?_
                  refine lv_if_eq (tgt := 80) G.1 G.2.1 d_Ck_check_71 (by decide) (fun c71 => ?_) (fun c71 => ?_)
                  · skip
                    have h := h.1 c71
                    exact J_80 s_7 x2h33 x4h33 x5h33 x6h33 x8h33 r_6 H locs h hP hD hS ls (lv_sub hl [1, 2, 3, 4, 5, 6, 8, 0] rfl)
                  · skip
                    have h := h.2 c71
                    refine lv_aload_n G.1 G.2.1 d_Ck_check_74 rfl (lv_at hl 1 rfl) ?_
                    refine lv_iload G.1 G.2.1 d_Ck_check_75 (lv_at hl 8 rfl) ?_
                    refine ucVv (As := [.int x8h33]) (rest := []) G hP hD hS (cu_Ck_keep l D g ad y _ s_7 a0 x8h33 H.size h_a0 h) w9_Ck_keep q1624 ⟨Nat.le_of_ble_eq_true rfl, Nat.le_of_ble_eq_true rfl⟩ rfl rfl h_a0 (q := (RCk, TCk, 22)) rfl rfl hl.1 rfl (Nat.le_of_ble_eq_true rfl) rfl ⟨Nat.le_refl _, Nat.le_refl _⟩ d_Ck_check_77 (fun s_23 H locs h hP hD hS => ?_)
                    exact J_80 s_23 x2h33 x4h33 x5h33 x6h33 x8h33 r_6 H locs h hP hD hS ls (lv_sub hl [1, 2, 3, 4, 5, 6, 8, 0] rfl)
          exact L_33 _ s_j27 x2j27 x4j27 x5j27 x6j27 1 0 (Nat.lt_succ_self _) hI_33 H locs hP hD hS ls (lv_sub hl [2, 3, 4, 5, 6, 7, 1, 0] rfl)
        refine lv_if_eq (tgt := 27) G.1 G.2.1 d_Ck_check_20 (by decide) (fun c20 => ?_) (fun c20 => ?_)
        · skip
          have h := h.1 c20
          exact J_27 s_2 x2h3 x4h3 x5h3 x6h3 H locs h hP hD hS ls (lv_sub hl [0, 1, 2, 3, 4, 5] rfl)
        · skip
          have h := h.2 c20
          refine lv_aload_n G.1 G.2.1 d_Ck_check_23 rfl (lv_at hl 0 rfl) ?_
          refine W.eq (g2 := F0 m 24 ls [.ref (ad a0)]) rfl ?_
          refine ucVv (As := []) (rest := []) G hP hD hS (cu_Ck_forget l D g ad y _ s_2 a0 H.size h_a0 h) w9_Ck_forget q1593 ⟨Nat.le_of_ble_eq_true rfl, Nat.le_of_ble_eq_true rfl⟩ rfl rfl h_a0 (q := (RCk, TCk, 22)) rfl rfl hl.1 rfl (Nat.le_of_ble_eq_true rfl) rfl ⟨Nat.le_refl _, Nat.le_refl _⟩ d_Ck_check_24 (fun s_25 H locs h hP hD hS => ?_)
          exact J_27 s_25 x2h3 x4h3 x5h3 x6h3 H locs h hP hD hS ls (lv_sub hl [0, 1, 2, 3, 4, 5] rfl)
  exact L_3 _ σ v2 v4 v5 v3 (Nat.lt_succ_self _) hI_3 H locs hP hD hS ls (lv_sub hl [1, 2, 3, 5, 6, 0] rfl)
theorem q394 : Cond.fieldLink "ClassWorks$Finder" 154 "ClassWorks$Ints" "size" "I" ∈ lw_ok := lw_okmem (List.mem_of_getElem? (i := 394) (by decide +kernel)) rfl
theorem q1714 : Cond.methodLink "ClassWorks$Finder" 157 y_Fi_openFaces ∈ lw_ok := lw_okmem (List.mem_of_getElem? (i := 1714) (by decide +kernel)) rfl
theorem q1717 : Cond.code y_Fi_openFaces b_Fi_openFaces 5 (none) ∈ lw_ok := lw_okmem (List.mem_of_getElem? (i := 1717) (by decide +kernel)) rfl
theorem q1716 : Cond.instanceMethod y_Fi_openFaces ∈ lw_ok := lw_okmem (List.mem_of_getElem? (i := 1716) (by decide +kernel)) rfl
theorem q76 : Cond.selects y_Fi_openFaces.cls y_Fi_openFaces y_Fi_openFaces ∈ lw_ok := lw_okmem (List.mem_of_getElem? (i := 76) (by decide +kernel)) rfl
theorem w9_Fi_openFaces : CWv y_Fi_openFaces b_Fi_openFaces 5 (none) 2 ∧ Cond.instanceMethod y_Fi_openFaces ∈ lw_ok ∧ Cond.selects y_Fi_openFaces.cls y_Fi_openFaces y_Fi_openFaces ∈ lw_ok := ⟨⟨q1717, q342, by decide +kernel, by decide +kernel, by decide +kernel⟩, q1716, q76⟩
def y_Fi_orderFaces : MethodName := ⟨"ClassWorks$Finder", "orderFaces", "(LClassWorks$World;I)V"⟩
abbrev b_Fi_orderFaces : ByteArray := prog_3_method_8_code
theorem q1718 : Cond.methodLink "ClassWorks$Finder" 160 y_In_add ∈ lw_ok := lw_okmem (List.mem_of_getElem? (i := 1718) (by decide +kernel)) rfl
theorem d_Fi_orderFaces_0 : decode b_Fi_orderFaces 0 = .ok (.aload_n 1, 1) := by decide +kernel
theorem d_Fi_orderFaces_1 : decode b_Fi_orderFaces 1 = .ok (.getfield 151, 3) := by decide +kernel
theorem d_Fi_orderFaces_4 : decode b_Fi_orderFaces 4 = .ok (.getfield 154, 3) := by decide +kernel
theorem d_Fi_orderFaces_7 : decode b_Fi_orderFaces 7 = .ok (.istore_n 3, 1) := by decide +kernel
theorem d_Fi_orderFaces_8 : decode b_Fi_orderFaces 8 = .ok (.lconst 0, 1) := by decide +kernel
theorem d_Fi_orderFaces_9 : decode b_Fi_orderFaces 9 = .ok (.lstore 4, 2) := by decide +kernel
theorem d_Fi_orderFaces_11 : decode b_Fi_orderFaces 11 = .ok (.aload_n 0, 1) := by decide +kernel
theorem d_Fi_orderFaces_12 : decode b_Fi_orderFaces 12 = .ok (.iconst 0, 1) := by decide +kernel
theorem d_Fi_orderFaces_13 : decode b_Fi_orderFaces 13 = .ok (.putfield 40, 3) := by decide +kernel
theorem d_Fi_orderFaces_16 : decode b_Fi_orderFaces 16 = .ok (.aload_n 0, 1) := by decide +kernel
theorem d_Fi_orderFaces_17 : decode b_Fi_orderFaces 17 = .ok (.aload_n 1, 1) := by decide +kernel
theorem d_Fi_orderFaces_18 : decode b_Fi_orderFaces 18 = .ok (.iload_n 2, 1) := by decide +kernel
theorem d_Fi_orderFaces_19 : decode b_Fi_orderFaces 19 = .ok (.invokevirtual 157, 3) := by decide +kernel
theorem d_Fi_orderFaces_22 : decode b_Fi_orderFaces 22 = .ok (.iconst 0, 1) := by decide +kernel
theorem d_Fi_orderFaces_23 : decode b_Fi_orderFaces 23 = .ok (.istore 6, 2) := by decide +kernel
theorem d_Fi_orderFaces_25 : decode b_Fi_orderFaces 25 = .ok (.iload 6, 2) := by decide +kernel
theorem d_Fi_orderFaces_27 : decode b_Fi_orderFaces 27 = .ok (.sipush 204, 3) := by decide +kernel
theorem d_Fi_orderFaces_30 : decode b_Fi_orderFaces 30 = .ok (.if_icmp .ge 75, 3) := by decide +kernel
theorem d_Fi_orderFaces_33 : decode b_Fi_orderFaces 33 = .ok (.aload_n 0, 1) := by decide +kernel
theorem d_Fi_orderFaces_34 : decode b_Fi_orderFaces 34 = .ok (.getfield 40, 3) := by decide +kernel
theorem d_Fi_orderFaces_37 : decode b_Fi_orderFaces 37 = .ok (.ifCond .le 68, 3) := by decide +kernel
theorem d_Fi_orderFaces_40 : decode b_Fi_orderFaces 40 = .ok (.aload_n 0, 1) := by decide +kernel
theorem d_Fi_orderFaces_41 : decode b_Fi_orderFaces 41 = .ok (.dup, 1) := by decide +kernel
theorem d_Fi_orderFaces_42 : decode b_Fi_orderFaces 42 = .ok (.getfield 40, 3) := by decide +kernel
theorem d_Fi_orderFaces_45 : decode b_Fi_orderFaces 45 = .ok (.iconst 1, 1) := by decide +kernel
theorem d_Fi_orderFaces_46 : decode b_Fi_orderFaces 46 = .ok (.isub, 1) := by decide +kernel
theorem d_Fi_orderFaces_47 : decode b_Fi_orderFaces 47 = .ok (.putfield 40, 3) := by decide +kernel
theorem d_Fi_orderFaces_50 : decode b_Fi_orderFaces 50 = .ok (.aload_n 0, 1) := by decide +kernel
theorem d_Fi_orderFaces_51 : decode b_Fi_orderFaces 51 = .ok (.getfield 37, 3) := by decide +kernel
theorem d_Fi_orderFaces_54 : decode b_Fi_orderFaces 54 = .ok (.aload_n 0, 1) := by decide +kernel
theorem d_Fi_orderFaces_55 : decode b_Fi_orderFaces 55 = .ok (.getfield 40, 3) := by decide +kernel
theorem d_Fi_orderFaces_58 : decode b_Fi_orderFaces 58 = .ok (.iaload, 1) := by decide +kernel
theorem d_Fi_orderFaces_59 : decode b_Fi_orderFaces 59 = .ok (.istore 7, 2) := by decide +kernel
theorem d_Fi_orderFaces_61 : decode b_Fi_orderFaces 61 = .ok (.lload 4, 2) := by decide +kernel
theorem d_Fi_orderFaces_63 : decode b_Fi_orderFaces 63 = .ok (.iload 7, 2) := by decide +kernel
theorem d_Fi_orderFaces_65 : decode b_Fi_orderFaces 65 = .ok (.lshr, 1) := by decide +kernel
theorem d_Fi_orderFaces_66 : decode b_Fi_orderFaces 66 = .ok (.lconst 1, 1) := by decide +kernel
theorem d_Fi_orderFaces_67 : decode b_Fi_orderFaces 67 = .ok (.land, 1) := by decide +kernel
theorem d_Fi_orderFaces_68 : decode b_Fi_orderFaces 68 = .ok (.lconst 0, 1) := by decide +kernel
theorem d_Fi_orderFaces_69 : decode b_Fi_orderFaces 69 = .ok (.lcmp, 1) := by decide +kernel
theorem d_Fi_orderFaces_70 : decode b_Fi_orderFaces 70 = .ok (.ifCond .ne 29, 3) := by decide +kernel
theorem d_Fi_orderFaces_73 : decode b_Fi_orderFaces 73 = .ok (.lload 4, 2) := by decide +kernel
theorem d_Fi_orderFaces_75 : decode b_Fi_orderFaces 75 = .ok (.lconst 1, 1) := by decide +kernel
theorem d_Fi_orderFaces_76 : decode b_Fi_orderFaces 76 = .ok (.iload 7, 2) := by decide +kernel
theorem d_Fi_orderFaces_78 : decode b_Fi_orderFaces 78 = .ok (.lshl, 1) := by decide +kernel
theorem d_Fi_orderFaces_79 : decode b_Fi_orderFaces 79 = .ok (.lor, 1) := by decide +kernel
theorem d_Fi_orderFaces_80 : decode b_Fi_orderFaces 80 = .ok (.lstore 4, 2) := by decide +kernel
theorem d_Fi_orderFaces_82 : decode b_Fi_orderFaces 82 = .ok (.aload_n 1, 1) := by decide +kernel
theorem d_Fi_orderFaces_83 : decode b_Fi_orderFaces 83 = .ok (.getfield 151, 3) := by decide +kernel
theorem d_Fi_orderFaces_86 : decode b_Fi_orderFaces 86 = .ok (.iload 7, 2) := by decide +kernel
theorem d_Fi_orderFaces_88 : decode b_Fi_orderFaces 88 = .ok (.invokevirtual 160, 3) := by decide +kernel
theorem d_Fi_orderFaces_91 : decode b_Fi_orderFaces 91 = .ok (.pop, 1) := by decide +kernel
theorem d_Fi_orderFaces_92 : decode b_Fi_orderFaces 92 = .ok (.aload_n 0, 1) := by decide +kernel
theorem d_Fi_orderFaces_93 : decode b_Fi_orderFaces 93 = .ok (.aload_n 1, 1) := by decide +kernel
theorem d_Fi_orderFaces_94 : decode b_Fi_orderFaces 94 = .ok (.iload 7, 2) := by decide +kernel
theorem d_Fi_orderFaces_96 : decode b_Fi_orderFaces 96 = .ok (.invokevirtual 157, 3) := by decide +kernel
theorem d_Fi_orderFaces_99 : decode b_Fi_orderFaces 99 = .ok (.iinc 6 1, 3) := by decide +kernel
theorem d_Fi_orderFaces_102 : decode b_Fi_orderFaces 102 = .ok (.goto (-77), 3) := by decide +kernel
theorem d_Fi_orderFaces_105 : decode b_Fi_orderFaces 105 = .ok (.aload_n 1, 1) := by decide +kernel
theorem d_Fi_orderFaces_106 : decode b_Fi_orderFaces 106 = .ok (.iload_n 2, 1) := by decide +kernel
theorem d_Fi_orderFaces_107 : decode b_Fi_orderFaces 107 = .ok (.bipush 18, 2) := by decide +kernel
theorem d_Fi_orderFaces_109 : decode b_Fi_orderFaces 109 = .ok (.aload_n 1, 1) := by decide +kernel
theorem d_Fi_orderFaces_110 : decode b_Fi_orderFaces 110 = .ok (.getfield 151, 3) := by decide +kernel
theorem d_Fi_orderFaces_113 : decode b_Fi_orderFaces 113 = .ok (.getfield 154, 3) := by decide +kernel
theorem d_Fi_orderFaces_116 : decode b_Fi_orderFaces 116 = .ok (.iload_n 3, 1) := by decide +kernel
theorem d_Fi_orderFaces_117 : decode b_Fi_orderFaces 117 = .ok (.isub, 1) := by decide +kernel
theorem d_Fi_orderFaces_118 : decode b_Fi_orderFaces 118 = .ok (.invokevirtual 82, 3) := by decide +kernel
theorem d_Fi_orderFaces_121 : decode b_Fi_orderFaces 121 = .ok (.aload_n 1, 1) := by decide +kernel
theorem d_Fi_orderFaces_122 : decode b_Fi_orderFaces 122 = .ok (.iload_n 2, 1) := by decide +kernel
theorem d_Fi_orderFaces_123 : decode b_Fi_orderFaces 123 = .ok (.invokevirtual 109, 3) := by decide +kernel
theorem d_Fi_orderFaces_126 : decode b_Fi_orderFaces 126 = .ok (.istore 6, 2) := by decide +kernel
theorem d_Fi_orderFaces_128 : decode b_Fi_orderFaces 128 = .ok (.iconst 0, 1) := by decide +kernel
theorem d_Fi_orderFaces_129 : decode b_Fi_orderFaces 129 = .ok (.istore 7, 2) := by decide +kernel
theorem d_Fi_orderFaces_131 : decode b_Fi_orderFaces 131 = .ok (.iload 6, 2) := by decide +kernel
theorem d_Fi_orderFaces_133 : decode b_Fi_orderFaces 133 = .ok (.ifCond .lt 65, 3) := by decide +kernel
theorem d_Fi_orderFaces_136 : decode b_Fi_orderFaces 136 = .ok (.iload 7, 2) := by decide +kernel
theorem d_Fi_orderFaces_138 : decode b_Fi_orderFaces 138 = .ok (.aload_n 1, 1) := by decide +kernel
theorem d_Fi_orderFaces_139 : decode b_Fi_orderFaces 139 = .ok (.iload 6, 2) := by decide +kernel
theorem d_Fi_orderFaces_141 : decode b_Fi_orderFaces 141 = .ok (.bipush 17, 2) := by decide +kernel
theorem d_Fi_orderFaces_143 : decode b_Fi_orderFaces 143 = .ok (.invokevirtual 51, 3) := by decide +kernel
theorem d_Fi_orderFaces_146 : decode b_Fi_orderFaces 146 = .ok (.if_icmp .ge 52, 3) := by decide +kernel
theorem d_Fi_orderFaces_149 : decode b_Fi_orderFaces 149 = .ok (.aload_n 1, 1) := by decide +kernel
theorem d_Fi_orderFaces_150 : decode b_Fi_orderFaces 150 = .ok (.getfield 151, 3) := by decide +kernel
theorem d_Fi_orderFaces_153 : decode b_Fi_orderFaces 153 = .ok (.getfield 163, 3) := by decide +kernel
theorem d_Fi_orderFaces_156 : decode b_Fi_orderFaces 156 = .ok (.aload_n 1, 1) := by decide +kernel
theorem d_Fi_orderFaces_157 : decode b_Fi_orderFaces 157 = .ok (.iload 6, 2) := by decide +kernel
theorem d_Fi_orderFaces_159 : decode b_Fi_orderFaces 159 = .ok (.bipush 16, 2) := by decide +kernel
theorem d_Fi_orderFaces_161 : decode b_Fi_orderFaces 161 = .ok (.invokevirtual 51, 3) := by decide +kernel
theorem d_Fi_orderFaces_164 : decode b_Fi_orderFaces 164 = .ok (.iload 7, 2) := by decide +kernel
theorem d_Fi_orderFaces_166 : decode b_Fi_orderFaces 166 = .ok (.iadd, 1) := by decide +kernel
theorem d_Fi_orderFaces_167 : decode b_Fi_orderFaces 167 = .ok (.iaload, 1) := by decide +kernel
theorem d_Fi_orderFaces_168 : decode b_Fi_orderFaces 168 = .ok (.istore 8, 2) := by decide +kernel
theorem d_Fi_orderFaces_170 : decode b_Fi_orderFaces 170 = .ok (.lload 4, 2) := by decide +kernel
theorem d_Fi_orderFaces_172 : decode b_Fi_orderFaces 172 = .ok (.iload 8, 2) := by decide +kernel
theorem d_Fi_orderFaces_174 : decode b_Fi_orderFaces 174 = .ok (.lshr, 1) := by decide +kernel
theorem d_Fi_orderFaces_175 : decode b_Fi_orderFaces 175 = .ok (.lconst 1, 1) := by decide +kernel
theorem d_Fi_orderFaces_176 : decode b_Fi_orderFaces 176 = .ok (.land, 1) := by decide +kernel
theorem d_Fi_orderFaces_177 : decode b_Fi_orderFaces 177 = .ok (.lconst 0, 1) := by decide +kernel
theorem d_Fi_orderFaces_178 : decode b_Fi_orderFaces 178 = .ok (.lcmp, 1) := by decide +kernel
theorem d_Fi_orderFaces_179 : decode b_Fi_orderFaces 179 = .ok (.ifCond .ne 13, 3) := by decide +kernel
theorem d_Fi_orderFaces_182 : decode b_Fi_orderFaces 182 = .ok (.aload_n 1, 1) := by decide +kernel
theorem d_Fi_orderFaces_183 : decode b_Fi_orderFaces 183 = .ok (.getfield 151, 3) := by decide +kernel
theorem d_Fi_orderFaces_186 : decode b_Fi_orderFaces 186 = .ok (.iload 8, 2) := by decide +kernel
theorem d_Fi_orderFaces_188 : decode b_Fi_orderFaces 188 = .ok (.invokevirtual 160, 3) := by decide +kernel
theorem d_Fi_orderFaces_191 : decode b_Fi_orderFaces 191 = .ok (.pop, 1) := by decide +kernel
theorem d_Fi_orderFaces_192 : decode b_Fi_orderFaces 192 = .ok (.iinc 7 1, 3) := by decide +kernel
theorem d_Fi_orderFaces_195 : decode b_Fi_orderFaces 195 = .ok (.goto (-64), 3) := by decide +kernel
theorem d_Fi_orderFaces_198 : decode b_Fi_orderFaces 198 = .ok (.aload_n 1, 1) := by decide +kernel
theorem d_Fi_orderFaces_199 : decode b_Fi_orderFaces 199 = .ok (.iload_n 2, 1) := by decide +kernel
theorem d_Fi_orderFaces_200 : decode b_Fi_orderFaces 200 = .ok (.bipush 16, 2) := by decide +kernel
theorem d_Fi_orderFaces_202 : decode b_Fi_orderFaces 202 = .ok (.iload_n 3, 1) := by decide +kernel
theorem d_Fi_orderFaces_203 : decode b_Fi_orderFaces 203 = .ok (.invokevirtual 82, 3) := by decide +kernel
theorem d_Fi_orderFaces_206 : decode b_Fi_orderFaces 206 = .ok (.aload_n 1, 1) := by decide +kernel
theorem d_Fi_orderFaces_207 : decode b_Fi_orderFaces 207 = .ok (.iload_n 2, 1) := by decide +kernel
theorem d_Fi_orderFaces_208 : decode b_Fi_orderFaces 208 = .ok (.bipush 17, 2) := by decide +kernel
theorem d_Fi_orderFaces_210 : decode b_Fi_orderFaces 210 = .ok (.aload_n 1, 1) := by decide +kernel
theorem d_Fi_orderFaces_211 : decode b_Fi_orderFaces 211 = .ok (.getfield 151, 3) := by decide +kernel
theorem d_Fi_orderFaces_214 : decode b_Fi_orderFaces 214 = .ok (.getfield 154, 3) := by decide +kernel
theorem d_Fi_orderFaces_217 : decode b_Fi_orderFaces 217 = .ok (.iload_n 3, 1) := by decide +kernel
theorem d_Fi_orderFaces_218 : decode b_Fi_orderFaces 218 = .ok (.isub, 1) := by decide +kernel
theorem d_Fi_orderFaces_219 : decode b_Fi_orderFaces 219 = .ok (.invokevirtual 82, 3) := by decide +kernel
theorem d_Fi_orderFaces_222 : decode b_Fi_orderFaces 222 = .ok (.return_, 1) := by decide +kernel
abbrev ra_Fi_orderFaces (mc ms : Nat) : Room := { frames := 5, cells := mc, slots := ms, locals := 421 }
def wja_Fi_orderFaces_198 (mc ms : Nat) (Post : Ly → St → Nat → Nat → Prop) (a0 : Nat) (a1 : Nat) (y_j198 : Ly) (s_j198 : St) (d_j198 e_j198 : Nat) (x2j198 : Int32) (x3j198 : Int32) : Prop := (d_j198 ≤ mc ∧ e_j198 ≤ ms) ∧ wu_Wd_set y_j198 (fun (s_9 : St) => wu_Wd_set y_j198 (fun (s_11 : St) => Post y_j198 s_11 d_j198 e_j198) s_9 a1 x2j198 17 ((sV s_9 (lk a1 13) 1) - x3j198)) s_j198 a1 x2j198 16 x3j198
def wja_Fi_orderFaces_192 (mc ms : Nat) (Post : Ly → St → Nat → Nat → Prop) (K_131 : Ly → St → Nat → Nat → Int32 → Int32 → Int64 → Int32 → Int32 → Prop) (a0 : Nat) (a1 : Nat) (y_j192 : Ly) (s_j192 : St) (d_j192 e_j192 : Nat) (x2j192 : Int32) (x3j192 : Int32) (x4j192 : Int64) (x6j192 : Int32) (x7j192 : Int32) : Prop := (d_j192 ≤ mc ∧ e_j192 ≤ ms) ∧ K_131 y_j192 s_j192 d_j192 e_j192 x2j192 x3j192 x4j192 x6j192 (x7j192 + 1)
def wba_Fi_orderFaces_131 (mc ms : Nat) (Post : Ly → St → Nat → Nat → Prop) (K_131 : Ly → St → Nat → Nat → Int32 → Int32 → Int64 → Int32 → Int32 → Prop) (a0 : Nat) (a1 : Nat) (y_h131 : Ly) (s_h131 : St) (d_h131 e_h131 : Nat) (x2h131 : Int32) (x3h131 : Int32) (x4h131 : Int64) (x6h131 : Int32) (x7h131 : Int32) : Prop := (d_h131 ≤ mc ∧ e_h131 ≤ ms) ∧ ((x6h131 < 0 → wja_Fi_orderFaces_198 mc ms Post a0 a1 y_h131 s_h131 d_h131 e_h131 x2h131 x3h131) ∧ (¬ (x6h131 < 0) → wu_Wd_of y_h131 (fun (s_13 : St) (r_12 : Int32) => ((r_12 ≤ x7h131 → wja_Fi_orderFaces_198 mc ms Post a0 a1 y_h131 s_13 d_h131 e_h131 x2h131 x3h131) ∧ (¬ (r_12 ≤ x7h131) → wu_Wd_of y_h131 (fun (s_15 : St) (r_14 : Int32) => xA y_h131 s_15 (lk a1 13) 0 (r_14 + x7h131) (fun x_16 : Int32 => ((¬ (lg_cmp ((x4h131 >>> (x_16.toInt64 &&& 63)) &&& 1) 0) = 0 → wja_Fi_orderFaces_192 mc ms Post K_131 a0 a1 y_h131 s_15 d_h131 e_h131 x2h131 x3h131 x4h131 x6h131 x7h131) ∧ ((lg_cmp ((x4h131 >>> (x_16.toInt64 &&& 63)) &&& 1) 0) = 0 → ∃ mc_22 ms_23 : Nat, (d_h131 + mc_22 ≤ mc ∧ e_h131 + ms_23 ≤ ms) ∧ wa_In_add mc_22 ms_23 y_h131 (fun (y_19 : Ly) (s_18 : St) (r_17 : Int32) (d_20 e_21 : Nat) => (d_h131 + d_20 ≤ mc ∧ e_h131 + e_21 ≤ ms) ∧ wja_Fi_orderFaces_192 mc ms Post K_131 a0 a1 y_19 s_18 (d_h131 + d_20) (e_h131 + e_21) x2h131 x3h131 x4h131 x6h131 x7h131) s_15 (lk a1 13) x_16)))) s_13 a1 x6h131 16))) s_h131 a1 x6h131 17))
def wla_Fi_orderFaces_131 (mc ms : Nat) (Post : Ly → St → Nat → Nat → Prop) (a0 : Nat) (a1 : Nat) (y_h131 : Ly) (s_h131 : St) (d_h131 e_h131 : Nat) (x2h131 : Int32) (x3h131 : Int32) (x4h131 : Int64) (x6h131 : Int32) (x7h131 : Int32) : Prop := ∃ (I : Ly → St → Nat → Nat → Int32 → Int32 → Int64 → Int32 → Int32 → Prop) (μ : Ly → St → Nat → Nat → Int32 → Int32 → Int64 → Int32 → Int32 → Nat), I y_h131 s_h131 d_h131 e_h131 x2h131 x3h131 x4h131 x6h131 x7h131 ∧ ∀ (u1 : Ly) (u2 : St) (u3 u4 : Nat) (t0 : Int32) (t1 : Int32) (t2 : Int64) (t3 : Int32) (t4 : Int32), I u1 u2 u3 u4 t0 t1 t2 t3 t4 → wba_Fi_orderFaces_131 mc ms Post (fun z1 z2 z3 z4 t0q t1q t2q t3q t4q => I z1 z2 z3 z4 t0q t1q t2q t3q t4q ∧ μ z1 z2 z3 z4 t0q t1q t2q t3q t4q < μ u1 u2 u3 u4 t0 t1 t2 t3 t4) a0 a1 u1 u2 u3 u4 t0 t1 t2 t3 t4
def wja_Fi_orderFaces_105 (mc ms : Nat) (Post : Ly → St → Nat → Nat → Prop) (a0 : Nat) (a1 : Nat) (y_j105 : Ly) (s_j105 : St) (d_j105 e_j105 : Nat) (x2j105 : Int32) (x3j105 : Int32) (x4j105 : Int64) : Prop := (d_j105 ≤ mc ∧ e_j105 ≤ ms) ∧ wu_Wd_set y_j105 (fun (s_5 : St) => wu_Wd_up y_j105 (fun (s_7 : St) (r_6 : Int32) => wla_Fi_orderFaces_131 mc ms Post a0 a1 y_j105 s_7 d_j105 e_j105 x2j105 x3j105 x4j105 r_6 0) s_5 a1 x2j105) s_j105 a1 x2j105 18 ((sV s_j105 (lk a1 13) 1) - x3j105)
def wja_Fi_orderFaces_99 (mc ms : Nat) (Post : Ly → St → Nat → Nat → Prop) (K_25 : Ly → St → Nat → Nat → Int32 → Int32 → Int64 → Int32 → Prop) (a0 : Nat) (a1 : Nat) (y_j99 : Ly) (s_j99 : St) (d_j99 e_j99 : Nat) (x2j99 : Int32) (x3j99 : Int32) (x4j99 : Int64) (x6j99 : Int32) : Prop := (d_j99 ≤ mc ∧ e_j99 ≤ ms) ∧ K_25 y_j99 s_j99 d_j99 e_j99 x2j99 x3j99 x4j99 (x6j99 + 1)
def wba_Fi_orderFaces_25 (mc ms : Nat) (Post : Ly → St → Nat → Nat → Prop) (K_25 : Ly → St → Nat → Nat → Int32 → Int32 → Int64 → Int32 → Prop) (a0 : Nat) (a1 : Nat) (y_h25 : Ly) (s_h25 : St) (d_h25 e_h25 : Nat) (x2h25 : Int32) (x3h25 : Int32) (x4h25 : Int64) (x6h25 : Int32) : Prop := (d_h25 ≤ mc ∧ e_h25 ≤ ms) ∧ ((204 ≤ x6h25 → wja_Fi_orderFaces_105 mc ms Post a0 a1 y_h25 s_h25 d_h25 e_h25 x2h25 x3h25 x4h25) ∧ (¬ (204 ≤ x6h25) → (((sV s_h25 a0 9) ≤ 0 → wja_Fi_orderFaces_105 mc ms Post a0 a1 y_h25 s_h25 d_h25 e_h25 x2h25 x3h25 x4h25) ∧ (¬ ((sV s_h25 a0 9) ≤ 0) → xP (uV s_h25 a0 9 ((sV s_h25 a0 9) - 1)) (fun s_25 : St => xA y_h25 s_25 a0 8 (sV s_25 a0 9) (fun x_26 : Int32 => ((¬ (lg_cmp ((x4h25 >>> (x_26.toInt64 &&& 63)) &&& 1) 0) = 0 → wja_Fi_orderFaces_99 mc ms Post K_25 a0 a1 y_h25 s_25 d_h25 e_h25 x2h25 x3h25 x4h25 x6h25) ∧ ((lg_cmp ((x4h25 >>> (x_26.toInt64 &&& 63)) &&& 1) 0) = 0 → ∃ mc_32 ms_33 : Nat, (d_h25 + mc_32 ≤ mc ∧ e_h25 + ms_33 ≤ ms) ∧ wa_In_add mc_32 ms_33 y_h25 (fun (y_29 : Ly) (s_28 : St) (r_27 : Int32) (d_30 e_31 : Nat) => (d_h25 + d_30 ≤ mc ∧ e_h25 + e_31 ≤ ms) ∧ wu_Fi_openFaces y_29 (fun (s_36 : St) => wja_Fi_orderFaces_99 mc ms Post K_25 a0 a1 y_29 s_36 (d_h25 + d_30) (e_h25 + e_31) x2h25 x3h25 (x4h25 ||| (1 <<< (x_26.toInt64 &&& 63))) x6h25) s_28 a0 a1 x_26) s_25 (lk a1 13) x_26))))))))
def wla_Fi_orderFaces_25 (mc ms : Nat) (Post : Ly → St → Nat → Nat → Prop) (a0 : Nat) (a1 : Nat) (y_h25 : Ly) (s_h25 : St) (d_h25 e_h25 : Nat) (x2h25 : Int32) (x3h25 : Int32) (x4h25 : Int64) (x6h25 : Int32) : Prop := ∃ (I : Ly → St → Nat → Nat → Int32 → Int32 → Int64 → Int32 → Prop) (μ : Ly → St → Nat → Nat → Int32 → Int32 → Int64 → Int32 → Nat), I y_h25 s_h25 d_h25 e_h25 x2h25 x3h25 x4h25 x6h25 ∧ ∀ (u1 : Ly) (u2 : St) (u3 u4 : Nat) (t0 : Int32) (t1 : Int32) (t2 : Int64) (t3 : Int32), I u1 u2 u3 u4 t0 t1 t2 t3 → wba_Fi_orderFaces_25 mc ms Post (fun z1 z2 z3 z4 t0q t1q t2q t3q => I z1 z2 z3 z4 t0q t1q t2q t3q ∧ μ z1 z2 z3 z4 t0q t1q t2q t3q < μ u1 u2 u3 u4 t0 t1 t2 t3) a0 a1 u1 u2 u3 u4 t0 t1 t2 t3
def wa_Fi_orderFaces (mc ms : Nat) (y : Ly) (Post : Ly → St → Nat → Nat → Prop) (σ : St) (a0 : Nat) (a1 : Nat) (v2 : Int32) : Prop := xP (uV σ a0 9 0) (fun s_1 : St => wu_Fi_openFaces y (fun (s_3 : St) => wla_Fi_orderFaces_25 mc ms Post a0 a1 y s_3 0 0 v2 (sV σ (lk a1 13) 1) 0 0) s_1 a0 a1 v2)
set_option maxHeartbeats 4000000 in
set_option maxRecDepth 100000 in
theorem ca_Fi_orderFaces (l : Launch) (D : va_G) (g : Nat → ClassId) (ad : Nat → Nat) (mc ms : Nat) (y : Ly) (Post : Ly → St → Nat → Nat → Prop) (σ : St) (a0 : Nat) (a1 : Nat) (v2 : Int32) (sz uz : Nat) (h_a0 : cl a0 = 1) (h_a1 : cl a1 = 9) (h : wa_Fi_orderFaces mc ms y Post σ a0 a1 v2) : Met l y_Fi_orderFaces (mw y_Fi_orderFaces b_Fi_orderFaces 9 (none)) (ra_Fi_orderFaces mc ms) (PCu g D [] [.ref (ad a0), .ref (ad a1), .int v2] sz uz (ws g ad y σ)) (va_Qv (fun (u : Ly × St × Nat × Nat) => Post u.1 u.2.1 u.2.2.1 u.2.2.2) (QU D (va_A (ws g ad y σ) sz) (fun u => ws g ad u.1 u.2.1) sz uz (fun u => u.2.2.1) (fun u => u.2.2.2)) (va_A (ws g ad y σ) sz)) mc ms (va_A (ws g ad y σ) sz) := by
  refine ofVu (by decide +kernel) (Nat.le_of_ble_eq_true rfl) ?_
  intro p e s m args below meth c A Q ls H locs G hsz hP hD hS hl hret
  subst hsz
  have hl : lv_has ls 9 [(0, .ref (ad a0)), (1, .ref (ad a1)), (2, .int v2)] := hl
  have hd : 0 ≤ mc ∧ 0 ≤ ms := ⟨Nat.zero_le _, Nat.zero_le _⟩
  unfold wa_Fi_orderFaces at h
  refine lv_aload_n G.1 G.2.1 d_Fi_orderFaces_0 rfl (lv_at hl 1 rfl) ?_
  refine ugf (v := .ref (ad (lk a1 13))) G hP h_a1 iWd rfl 13 (by decide) rfl q859 rfl rfl d_Fi_orderFaces_1 ?_
  refine ugf (v := .int (sV σ (lk a1 13) 1)) G hP (lk_9_13 h_a1) iIn rfl 1 (by decide) rfl q394 rfl rfl d_Fi_orderFaces_4 ?_
  refine lv_istore_n (lv' := [(3, .int (sV σ (lk a1 13) 1)), (0, .ref (ad a0)), (1, .ref (ad a1)), (2, .int v2)]) G.1 G.2.1 d_Fi_orderFaces_7 rfl hl (by decide) rfl (fun ls hl => ?_)
  refine lv_lconst (v := 0) G.1 G.2.1 d_Fi_orderFaces_8 (by decide) ?_
  refine lv_lstore (lv' := [(4, .long 0), (3, .int (sV σ (lk a1 13) 1)), (0, .ref (ad a0)), (1, .ref (ad a1)), (2, .int v2)]) G.1 G.2.1 d_Fi_orderFaces_9 hl (by decide) rfl (fun ls hl => ?_)
  refine lv_aload_n G.1 G.2.1 d_Fi_orderFaces_11 rfl (lv_at hl 2 rfl) ?_
  refine lv_iconst (v := 0) G.1 G.2.1 d_Fi_orderFaces_12 (by decide) ?_
  refine upf G hP hD hS h 9 putV h_a0 iFi tFi tFi_ok nFi rfl (by decide) rfl q741 rfl rfl fV rfl rfl d_Fi_orderFaces_13 (fun s_1 H locs h hP hD hS => ?_)
  refine lv_aload_n G.1 G.2.1 d_Fi_orderFaces_16 rfl (lv_at hl 2 rfl) ?_
  refine lv_aload_n G.1 G.2.1 d_Fi_orderFaces_17 rfl (lv_at hl 3 rfl) ?_
  refine W.eq (g2 := F0 m 18 ls [.ref (ad a1), .ref (ad a0)]) rfl ?_
  refine lv_iload_n G.1 G.2.1 d_Fi_orderFaces_18 rfl (lv_at hl 4 rfl) ?_
  refine ucVv (As := [.ref (ad a1), .int v2]) (rest := []) G hP hD hS (cu_Fi_openFaces l D g ad y _ s_1 a0 a1 v2 H.size h_a0 h_a1 h) w9_Fi_openFaces q1714 ⟨Nat.le_of_ble_eq_true rfl, Nat.le_of_ble_eq_true rfl⟩ rfl rfl h_a0 (q := (RFi, TFi, 10)) rfl rfl hl.1 rfl (Nat.le_of_ble_eq_true rfl) rfl hd d_Fi_orderFaces_19 (fun s_3 H locs h hP hD hS => ?_)
  refine lv_iconst (v := 0) G.1 G.2.1 d_Fi_orderFaces_22 (by decide) ?_
  refine lv_istore (lv' := [(6, .int 0), (4, .long 0), (3, .int (sV σ (lk a1 13) 1)), (0, .ref (ad a0)), (1, .ref (ad a1)), (2, .int v2)]) G.1 G.2.1 d_Fi_orderFaces_23 hl (by decide) rfl (fun ls hl => ?_)
  unfold wla_Fi_orderFaces_25 at h
  obtain ⟨I_25, μ_25, hI_25, hB_25⟩ := h
  have L_25 : ∀ (n_25 : Nat) (y_h25 : Ly) (s_h25 : St) (d_h25 e_h25 : Nat) (x2h25 : Int32) (x3h25 : Int32) (x4h25 : Int64) (x6h25 : Int32), μ_25 y_h25 s_h25 d_h25 e_h25 x2h25 x3h25 x4h25 x6h25 < n_25 → I_25 y_h25 s_h25 d_h25 e_h25 x2h25 x3h25 x4h25 x6h25 → ∀ (H : Heap) (locs : List Loc), va_P D CL (ws g ad y_h25 s_h25) H → va_D A (ws g ad y_h25 s_h25) → va_S A s.heap H locs → ∀ ls, lv_has ls 9 [(0, .ref (ad a0)), (1, .ref (ad a1)), (2, .int x2h25), (3, .int x3h25), (4, .long x4h25), (6, .int x6h25)] → W p l e (ra_Fi_orderFaces mc ms) s m args below meth c H locs d_h25 e_h25 Q (F0 m 25 ls []) := by
    intro n_25
    induction n_25 with
    | zero => intro y_h25 s_h25 d_h25 e_h25 x2h25 x3h25 x4h25 x6h25 hμ; exact absurd hμ (Nat.not_lt_zero _)
    | succ n_25 ih_25 =>
      intro y_h25 s_h25 d_h25 e_h25 x2h25 x3h25 x4h25 x6h25 hμ_25 hJ H locs hP hD hS ls hl
      obtain ⟨K_25, hK_25, h⟩ : ∃ K : Ly → St → Nat → Nat → Int32 → Int32 → Int64 → Int32 → Prop, (∀ z1 z2 z3 z4 (t0 : Int32) (t1 : Int32) (t2 : Int64) (t3 : Int32), K z1 z2 z3 z4 t0 t1 t2 t3 → I_25 z1 z2 z3 z4 t0 t1 t2 t3 ∧ μ_25 z1 z2 z3 z4 t0 t1 t2 t3 < μ_25 y_h25 s_h25 d_h25 e_h25 x2h25 x3h25 x4h25 x6h25) ∧ wba_Fi_orderFaces_25 mc ms Post K a0 a1 y_h25 s_h25 d_h25 e_h25 x2h25 x3h25 x4h25 x6h25 := ⟨_, fun _ _ _ _ _ _ _ _ h => h, hB_25 y_h25 s_h25 d_h25 e_h25 x2h25 x3h25 x4h25 x6h25 hJ⟩
      unfold wba_Fi_orderFaces_25 at h
      obtain ⟨hd, h⟩ := h
      refine lv_iload G.1 G.2.1 d_Fi_orderFaces_25 (lv_at hl 5 rfl) ?_
      refine lv_sipush (v := 204) G.1 G.2.1 d_Fi_orderFaces_27 (by decide) ?_
      have J_105 : ∀ (y_j105 : Ly) (s_j105 : St) (d_j105 e_j105 : Nat) (x2j105 : Int32) (x3j105 : Int32) (x4j105 : Int64) (H : Heap) (locs : List Loc), wja_Fi_orderFaces_105 mc ms Post a0 a1 y_j105 s_j105 d_j105 e_j105 x2j105 x3j105 x4j105 → va_P D CL (ws g ad y_j105 s_j105) H → va_D A (ws g ad y_j105 s_j105) → va_S A s.heap H locs → ∀ ls, lv_has ls 9 [(1, .ref (ad a1)), (2, .int x2j105), (3, .int x3j105), (4, .long x4j105)] → W p l e (ra_Fi_orderFaces mc ms) s m args below meth c H locs d_j105 e_j105 Q (F0 m 105 ls []) := by
        intro y_j105 s_j105 d_j105 e_j105 x2j105 x3j105 x4j105 H locs h hP hD hS ls hl
        unfold wja_Fi_orderFaces_105 at h
        obtain ⟨hd, h⟩ := h
        refine lv_aload_n G.1 G.2.1 d_Fi_orderFaces_105 rfl (lv_at hl 0 rfl) ?_
        refine lv_iload_n G.1 G.2.1 d_Fi_orderFaces_106 rfl (lv_at hl 1 rfl) ?_
        refine lv_bipush (v := 18) G.1 G.2.1 d_Fi_orderFaces_107 (by decide) ?_
        refine lv_aload_n G.1 G.2.1 d_Fi_orderFaces_109 rfl (lv_at hl 0 rfl) ?_
        refine ugf (v := .ref (ad (lk a1 13))) G hP h_a1 iWd rfl 13 (by decide) rfl q859 rfl rfl d_Fi_orderFaces_110 ?_
        refine ugf (v := .int (sV s_j105 (lk a1 13) 1)) G hP (lk_9_13 h_a1) iIn rfl 1 (by decide) rfl q394 rfl rfl d_Fi_orderFaces_113 ?_
        refine lv_iload_n G.1 G.2.1 d_Fi_orderFaces_116 rfl (lv_at hl 2 rfl) ?_
        refine lv_isub G.1 G.2.1 d_Fi_orderFaces_117 ?_
        refine ucVv (As := [.int x2j105, .int 18, .int ((sV s_j105 (lk a1 13) 1) - x3j105)]) (rest := []) G hP hD hS (cu_Wd_set l D g ad y_j105 _ s_j105 a1 x2j105 18 ((sV s_j105 (lk a1 13) 1) - x3j105) H.size h_a1 h) w9_Wd_set q1563 ⟨Nat.le_of_ble_eq_true rfl, Nat.le_of_ble_eq_true rfl⟩ rfl rfl h_a1 (q := (RWd, TWd, 17)) rfl rfl hl.1 rfl (Nat.le_of_ble_eq_true rfl) rfl hd d_Fi_orderFaces_118 (fun s_5 H locs h hP hD hS => ?_)
        refine lv_aload_n G.1 G.2.1 d_Fi_orderFaces_121 rfl (lv_at hl 0 rfl) ?_
        refine lv_iload_n G.1 G.2.1 d_Fi_orderFaces_122 rfl (lv_at hl 1 rfl) ?_
        refine W.eq (g2 := F0 m 123 ls [.int x2j105, .ref (ad a1)]) rfl ?_
        refine ucVi (As := [.int x2j105]) (rest := []) G hP hD hS (cu_Wd_up l D g ad y_j105 _ s_5 a1 x2j105 H.size h_a1 h) w9_Wd_up q1570 ⟨Nat.le_of_ble_eq_true rfl, Nat.le_of_ble_eq_true rfl⟩ rfl rfl h_a1 (q := (RWd, TWd, 17)) rfl rfl hl.1 rfl (Nat.le_of_ble_eq_true rfl) rfl hd d_Fi_orderFaces_123 (fun r_6 s_7 H locs h hP hD hS => ?_)
        refine lv_istore (lv' := [(6, .int r_6), (1, .ref (ad a1)), (2, .int x2j105), (3, .int x3j105), (4, .long x4j105)]) G.1 G.2.1 d_Fi_orderFaces_126 hl (by decide) rfl (fun ls hl => ?_)
        refine lv_iconst (v := 0) G.1 G.2.1 d_Fi_orderFaces_128 (by decide) ?_
        refine lv_istore (lv' := [(7, .int 0), (6, .int r_6), (1, .ref (ad a1)), (2, .int x2j105), (3, .int x3j105), (4, .long x4j105)]) G.1 G.2.1 d_Fi_orderFaces_129 hl (by decide) rfl (fun ls hl => ?_)
        unfold wla_Fi_orderFaces_131 at h
        obtain ⟨I_131, μ_131, hI_131, hB_131⟩ := h
        have L_131 : ∀ (n_131 : Nat) (y_h131 : Ly) (s_h131 : St) (d_h131 e_h131 : Nat) (x2h131 : Int32) (x3h131 : Int32) (x4h131 : Int64) (x6h131 : Int32) (x7h131 : Int32), μ_131 y_h131 s_h131 d_h131 e_h131 x2h131 x3h131 x4h131 x6h131 x7h131 < n_131 → I_131 y_h131 s_h131 d_h131 e_h131 x2h131 x3h131 x4h131 x6h131 x7h131 → ∀ (H : Heap) (locs : List Loc), va_P D CL (ws g ad y_h131 s_h131) H → va_D A (ws g ad y_h131 s_h131) → va_S A s.heap H locs → ∀ ls, lv_has ls 9 [(1, .ref (ad a1)), (2, .int x2h131), (3, .int x3h131), (4, .long x4h131), (6, .int x6h131), (7, .int x7h131)] → W p l e (ra_Fi_orderFaces mc ms) s m args below meth c H locs d_h131 e_h131 Q (F0 m 131 ls []) := by
          intro n_131
          induction n_131 with
          | zero => intro y_h131 s_h131 d_h131 e_h131 x2h131 x3h131 x4h131 x6h131 x7h131 hμ; exact absurd hμ (Nat.not_lt_zero _)
          | succ n_131 ih_131 =>
            intro y_h131 s_h131 d_h131 e_h131 x2h131 x3h131 x4h131 x6h131 x7h131 hμ_131 hJ H locs hP hD hS ls hl
            obtain ⟨K_131, hK_131, h⟩ : ∃ K : Ly → St → Nat → Nat → Int32 → Int32 → Int64 → Int32 → Int32 → Prop, (∀ z1 z2 z3 z4 (t0 : Int32) (t1 : Int32) (t2 : Int64) (t3 : Int32) (t4 : Int32), K z1 z2 z3 z4 t0 t1 t2 t3 t4 → I_131 z1 z2 z3 z4 t0 t1 t2 t3 t4 ∧ μ_131 z1 z2 z3 z4 t0 t1 t2 t3 t4 < μ_131 y_h131 s_h131 d_h131 e_h131 x2h131 x3h131 x4h131 x6h131 x7h131) ∧ wba_Fi_orderFaces_131 mc ms Post K a0 a1 y_h131 s_h131 d_h131 e_h131 x2h131 x3h131 x4h131 x6h131 x7h131 := ⟨_, fun _ _ _ _ _ _ _ _ _ h => h, hB_131 y_h131 s_h131 d_h131 e_h131 x2h131 x3h131 x4h131 x6h131 x7h131 hJ⟩
            unfold wba_Fi_orderFaces_131 at h
            obtain ⟨hd, h⟩ := h
            refine lv_iload G.1 G.2.1 d_Fi_orderFaces_131 (lv_at hl 4 rfl) ?_
            have J_198 : ∀ (y_j198 : Ly) (s_j198 : St) (d_j198 e_j198 : Nat) (x2j198 : Int32) (x3j198 : Int32) (H : Heap) (locs : List Loc), wja_Fi_orderFaces_198 mc ms Post a0 a1 y_j198 s_j198 d_j198 e_j198 x2j198 x3j198 → va_P D CL (ws g ad y_j198 s_j198) H → va_D A (ws g ad y_j198 s_j198) → va_S A s.heap H locs → ∀ ls, lv_has ls 9 [(1, .ref (ad a1)), (2, .int x2j198), (3, .int x3j198)] → W p l e (ra_Fi_orderFaces mc ms) s m args below meth c H locs d_j198 e_j198 Q (F0 m 198 ls []) := by
              intro y_j198 s_j198 d_j198 e_j198 x2j198 x3j198 H locs h hP hD hS ls hl
              unfold wja_Fi_orderFaces_198 at h
              obtain ⟨hd, h⟩ := h
              refine lv_aload_n G.1 G.2.1 d_Fi_orderFaces_198 rfl (lv_at hl 0 rfl) ?_
              refine lv_iload_n G.1 G.2.1 d_Fi_orderFaces_199 rfl (lv_at hl 1 rfl) ?_
              refine lv_bipush (v := 16) G.1 G.2.1 d_Fi_orderFaces_200 (by decide) ?_
              refine lv_iload_n G.1 G.2.1 d_Fi_orderFaces_202 rfl (lv_at hl 2 rfl) ?_
              refine ucVv (As := [.int x2j198, .int 16, .int x3j198]) (rest := []) G hP hD hS (cu_Wd_set l D g ad y_j198 _ s_j198 a1 x2j198 16 x3j198 H.size h_a1 h) w9_Wd_set q1563 ⟨Nat.le_of_ble_eq_true rfl, Nat.le_of_ble_eq_true rfl⟩ rfl rfl h_a1 (q := (RWd, TWd, 17)) rfl rfl hl.1 rfl (Nat.le_of_ble_eq_true rfl) rfl hd d_Fi_orderFaces_203 (fun s_9 H locs h hP hD hS => ?_)
              refine lv_aload_n G.1 G.2.1 d_Fi_orderFaces_206 rfl (lv_at hl 0 rfl) ?_
              refine lv_iload_n G.1 G.2.1 d_Fi_orderFaces_207 rfl (lv_at hl 1 rfl) ?_
              refine lv_bipush (v := 17) G.1 G.2.1 d_Fi_orderFaces_208 (by decide) ?_
              refine lv_aload_n G.1 G.2.1 d_Fi_orderFaces_210 rfl (lv_at hl 0 rfl) ?_
              refine ugf (v := .ref (ad (lk a1 13))) G hP h_a1 iWd rfl 13 (by decide) rfl q859 rfl rfl d_Fi_orderFaces_211 ?_
              refine ugf (v := .int (sV s_9 (lk a1 13) 1)) G hP (lk_9_13 h_a1) iIn rfl 1 (by decide) rfl q394 rfl rfl d_Fi_orderFaces_214 ?_
              refine W.eq (g2 := F0 m 217 ls [.int (sV s_9 (lk a1 13) 1), .int 17, .int x2j198, .ref (ad a1)]) rfl ?_
              refine lv_iload_n G.1 G.2.1 d_Fi_orderFaces_217 rfl (lv_at hl 2 rfl) ?_
              refine lv_isub G.1 G.2.1 d_Fi_orderFaces_218 ?_
              refine ucVv (As := [.int x2j198, .int 17, .int ((sV s_9 (lk a1 13) 1) - x3j198)]) (rest := []) G hP hD hS (cu_Wd_set l D g ad y_j198 _ s_9 a1 x2j198 17 ((sV s_9 (lk a1 13) 1) - x3j198) H.size h_a1 h) w9_Wd_set q1563 ⟨Nat.le_of_ble_eq_true rfl, Nat.le_of_ble_eq_true rfl⟩ rfl rfl h_a1 (q := (RWd, TWd, 17)) rfl rfl hl.1 rfl (Nat.le_of_ble_eq_true rfl) rfl hd d_Fi_orderFaces_219 (fun s_11 H locs h hP hD hS => ?_)
              exact hret (y_j198, s_11, d_j198, e_j198) _ _ _ _ _ ls h hP hD hS (Nat.le_refl _) (Nat.le_refl _) hd.1 hd.2 d_Fi_orderFaces_222
            refine lv_if_lt (tgt := 198) G.1 G.2.1 d_Fi_orderFaces_133 (by decide) (fun c133 => ?_) (fun c133 => ?_)
            · skip
              have h := h.1 c133
              exact J_198 y_h131 s_h131 d_h131 e_h131 x2h131 x3h131 H locs h hP hD hS ls (lv_sub hl [0, 1, 2] rfl)
            · skip
              have h := h.2 c133
              refine lv_iload G.1 G.2.1 d_Fi_orderFaces_136 (lv_at hl 5 rfl) ?_
              refine lv_aload_n G.1 G.2.1 d_Fi_orderFaces_138 rfl (lv_at hl 0 rfl) ?_
              refine lv_iload G.1 G.2.1 d_Fi_orderFaces_139 (lv_at hl 4 rfl) ?_
              refine lv_bipush (v := 17) G.1 G.2.1 d_Fi_orderFaces_141 (by decide) ?_
              refine ucVi (As := [.int x6h131, .int 17]) (rest := [.int x7h131]) G hP hD hS (cu_Wd_of l D g ad y_h131 _ s_h131 a1 x6h131 17 H.size h_a1 h) w9_Wd_of q1532 ⟨Nat.le_of_ble_eq_true rfl, Nat.le_of_ble_eq_true rfl⟩ rfl rfl h_a1 (q := (RWd, TWd, 17)) rfl rfl hl.1 rfl (Nat.le_of_ble_eq_true rfl) rfl hd d_Fi_orderFaces_143 (fun r_12 s_13 H locs h hP hD hS => ?_)
              refine lv_icmp_ge (tgt := 198) G.1 G.2.1 d_Fi_orderFaces_146 (by decide) (fun c146 => ?_) (fun c146 => ?_)
              · skip
                have h := h.1 c146
                exact J_198 y_h131 s_13 d_h131 e_h131 x2h131 x3h131 H locs h hP hD hS ls (lv_sub hl [0, 1, 2] rfl)
              · skip
                have h := h.2 c146
                refine lv_aload_n G.1 G.2.1 d_Fi_orderFaces_149 rfl (lv_at hl 0 rfl) ?_
                refine ugf (v := .ref (ad (lk a1 13))) G hP h_a1 iWd rfl 13 (by decide) rfl q859 rfl rfl d_Fi_orderFaces_150 ?_
                refine ugf (v := .ref (yP y_h131 (lk a1 13) 0)) G hP (lk_9_13 h_a1) iIn rfl 0 (by decide) rfl q383 rfl rfl d_Fi_orderFaces_153 ?_
                refine W.eq (g2 := F0 m 156 ls [.ref (yP y_h131 (lk a1 13) 0)]) rfl ?_
                refine lv_aload_n G.1 G.2.1 d_Fi_orderFaces_156 rfl (lv_at hl 0 rfl) ?_
                refine lv_iload G.1 G.2.1 d_Fi_orderFaces_157 (lv_at hl 4 rfl) ?_
                refine lv_bipush (v := 16) G.1 G.2.1 d_Fi_orderFaces_159 (by decide) ?_
                refine ucVi (As := [.int x6h131, .int 16]) (rest := [.ref (yP y_h131 (lk a1 13) 0)]) G hP hD hS (cu_Wd_of l D g ad y_h131 _ s_13 a1 x6h131 16 H.size h_a1 h) w9_Wd_of q1532 ⟨Nat.le_of_ble_eq_true rfl, Nat.le_of_ble_eq_true rfl⟩ rfl rfl h_a1 (q := (RWd, TWd, 17)) rfl rfl hl.1 rfl (Nat.le_of_ble_eq_true rfl) rfl hd d_Fi_orderFaces_161 (fun r_14 s_15 H locs h hP hD hS => ?_)
                refine lv_iload G.1 G.2.1 d_Fi_orderFaces_164 (lv_at hl 5 rfl) ?_
                refine lv_iadd G.1 G.2.1 d_Fi_orderFaces_166 ?_
                refine uiald G hP (kdp (lk_9_13 h_a1) rfl) (typ (lk_9_13 h_a1) rfl) h d_Fi_orderFaces_167 (fun x_16 h => ?_)
                refine lv_istore (lv' := [(8, .int x_16), (1, .ref (ad a1)), (2, .int x2h131), (3, .int x3h131), (4, .long x4h131), (6, .int x6h131), (7, .int x7h131)]) G.1 G.2.1 d_Fi_orderFaces_168 hl (by decide) rfl (fun ls hl => ?_)
                refine lv_lload G.1 G.2.1 d_Fi_orderFaces_170 (lv_at hl 4 rfl) ?_
                refine lv_iload G.1 G.2.1 d_Fi_orderFaces_172 (lv_at hl 0 rfl) ?_
                refine lv_lshr G.1 G.2.1 d_Fi_orderFaces_174 rfl ?_
                refine lv_lconst (v := 1) G.1 G.2.1 d_Fi_orderFaces_175 (by decide) ?_
                refine W.eq (g2 := F0 m 176 ls [.long 1, .long (x4h131 >>> (x_16.toInt64 &&& 63))]) rfl ?_
                refine lv_land G.1 G.2.1 d_Fi_orderFaces_176 ?_
                refine lv_lconst (v := 0) G.1 G.2.1 d_Fi_orderFaces_177 (by decide) ?_
                refine W.lcmp G.1 G.2.1 d_Fi_orderFaces_178 ?_
                have J_192 : ∀ (y_j192 : Ly) (s_j192 : St) (d_j192 e_j192 : Nat) (x2j192 : Int32) (x3j192 : Int32) (x4j192 : Int64) (x6j192 : Int32) (x7j192 : Int32) (H : Heap) (locs : List Loc), wja_Fi_orderFaces_192 mc ms Post K_131 a0 a1 y_j192 s_j192 d_j192 e_j192 x2j192 x3j192 x4j192 x6j192 x7j192 → va_P D CL (ws g ad y_j192 s_j192) H → va_D A (ws g ad y_j192 s_j192) → va_S A s.heap H locs → ∀ ls, lv_has ls 9 [(1, .ref (ad a1)), (2, .int x2j192), (3, .int x3j192), (4, .long x4j192), (6, .int x6j192), (7, .int x7j192)] → W p l e (ra_Fi_orderFaces mc ms) s m args below meth c H locs d_j192 e_j192 Q (F0 m 192 ls []) := by
                  intro y_j192 s_j192 d_j192 e_j192 x2j192 x3j192 x4j192 x6j192 x7j192 H locs h hP hD hS ls hl
                  unfold wja_Fi_orderFaces_192 at h
                  obtain ⟨hd, h⟩ := h
                  refine lv_iinc (v := x7j192 + 1) (lv' := [(7, .int (x7j192 + 1)), (1, .ref (ad a1)), (2, .int x2j192), (3, .int x3j192), (4, .long x4j192), (6, .int x6j192)]) G.1 G.2.1 d_Fi_orderFaces_192 hl (k := 5) rfl rfl (by decide) rfl (fun ls hl => ?_)
                  refine lv_goto (tgt := 131) G.1 G.2.1 d_Fi_orderFaces_195 (by decide) ?_
                  have h := hK_131 y_j192 s_j192 d_j192 e_j192 x2j192 x3j192 x4j192 x6j192 (x7j192 + 1) h
                  exact ih_131 y_j192 s_j192 d_j192 e_j192 x2j192 x3j192 x4j192 x6j192 (x7j192 + 1) (Nat.lt_of_lt_of_le h.2 (Nat.le_of_lt_succ hμ_131)) h.1 H locs hP hD hS ls (lv_sub hl [1, 2, 3, 4, 5, 0] rfl)
                refine lv_if_ne (tgt := 192) G.1 G.2.1 d_Fi_orderFaces_179 (by decide) (fun c179 => ?_) (fun c179 => ?_)
                · skip
                  have h := h.1 c179
                  exact J_192 y_h131 s_15 d_h131 e_h131 x2h131 x3h131 x4h131 x6h131 x7h131 H locs h hP hD hS ls (lv_sub hl [1, 2, 3, 4, 5, 6] rfl)
                · skip
                  have h := h.2 c179
                  refine lv_aload_n G.1 G.2.1 d_Fi_orderFaces_182 rfl (lv_at hl 1 rfl) ?_
                  refine ugf (v := .ref (ad (lk a1 13))) G hP h_a1 iWd rfl 13 (by decide) rfl q859 rfl rfl d_Fi_orderFaces_183 ?_
                  refine lv_iload G.1 G.2.1 d_Fi_orderFaces_186 (lv_at hl 0 rfl) ?_
                  obtain ⟨mc_22, ms_23, hr_24, h⟩ := h
                  refine uaVi (As := [.int x_16]) (rest := []) G hP hD hS (ca_In_add l D g [] ad mc_22 ms_23 y_h131 _ s_15 (lk a1 13) x_16 H.size (us H) (lk_9_13 h_a1) h) w9_In_add q1718 ⟨Nat.le_of_ble_eq_true rfl, Nat.le_of_ble_eq_true rfl⟩ rfl rfl (lk_9_13 h_a1) (q := (RIn, TIn, 2)) rfl rfl hl.1 rfl (Nat.le_of_ble_eq_true rfl) rfl hr_24 d_Fi_orderFaces_188 (fun r_17 y_19 s_18 d_20 e_21 H locs h hP hD hS => ?_)
                  have hl := lv_sub (l' := [(1, .ref (ad a1)), (2, .int x2h131), (3, .int x3h131), (4, .long x4h131), (6, .int x6h131), (7, .int x7h131)]) hl [1, 2, 3, 4, 5, 6] rfl
                  obtain ⟨hd, h⟩ := h
                  refine lv_pop G.1 G.2.1 d_Fi_orderFaces_191 rfl ?_
                  exact J_192 y_19 s_18 (d_h131 + d_20) (e_h131 + e_21) x2h131 x3h131 x4h131 x6h131 x7h131 H locs h hP hD hS ls (lv_sub hl [0, 1, 2, 3, 4, 5] rfl)
        exact L_131 _ y_j105 s_7 d_j105 e_j105 x2j105 x3j105 x4j105 r_6 0 (Nat.lt_succ_self _) hI_131 H locs hP hD hS ls (lv_sub hl [2, 3, 4, 5, 1, 0] rfl)
      refine lv_icmp_ge (tgt := 105) G.1 G.2.1 d_Fi_orderFaces_30 (by decide) (fun c30 => ?_) (fun c30 => ?_)
      · skip
        have h := h.1 c30
        exact J_105 y_h25 s_h25 d_h25 e_h25 x2h25 x3h25 x4h25 H locs h hP hD hS ls (lv_sub hl [1, 2, 3, 4] rfl)
      · skip
        have h := h.2 c30
        refine lv_aload_n G.1 G.2.1 d_Fi_orderFaces_33 rfl (lv_at hl 0 rfl) ?_
        refine ugf (v := .int (sV s_h25 a0 9)) G hP h_a0 iFi rfl 9 (by decide) rfl q741 rfl rfl d_Fi_orderFaces_34 ?_
        refine lv_if_le (tgt := 105) G.1 G.2.1 d_Fi_orderFaces_37 (by decide) (fun c37 => ?_) (fun c37 => ?_)
        · skip
          have h := h.1 c37
          exact J_105 y_h25 s_h25 d_h25 e_h25 x2h25 x3h25 x4h25 H locs h hP hD hS ls (lv_sub hl [1, 2, 3, 4] rfl)
        · skip
          have h := h.2 c37
          refine lv_aload_n G.1 G.2.1 d_Fi_orderFaces_40 rfl (lv_at hl 0 rfl) ?_
          refine lv_dup G.1 G.2.1 d_Fi_orderFaces_41 rfl ?_
          refine ugf (v := .int (sV s_h25 a0 9)) G hP h_a0 iFi rfl 9 (by decide) rfl q741 rfl rfl d_Fi_orderFaces_42 ?_
          refine lv_iconst (v := 1) G.1 G.2.1 d_Fi_orderFaces_45 (by decide) ?_
          refine lv_isub G.1 G.2.1 d_Fi_orderFaces_46 ?_
          refine W.eq (g2 := F0 m 47 ls [.int ((sV s_h25 a0 9) - 1), .ref (ad a0)]) rfl ?_
          refine upf G hP hD hS h 9 putV h_a0 iFi tFi tFi_ok nFi rfl (by decide) rfl q741 rfl rfl fV rfl rfl d_Fi_orderFaces_47 (fun s_25 H locs h hP hD hS => ?_)
          refine lv_aload_n G.1 G.2.1 d_Fi_orderFaces_50 rfl (lv_at hl 0 rfl) ?_
          refine ugf (v := .ref (yP y_h25 a0 8)) G hP h_a0 iFi rfl 8 (by decide) rfl q740 rfl rfl d_Fi_orderFaces_51 ?_
          refine lv_aload_n G.1 G.2.1 d_Fi_orderFaces_54 rfl (lv_at hl 0 rfl) ?_
          refine ugf (v := .int (sV s_25 a0 9)) G hP h_a0 iFi rfl 9 (by decide) rfl q741 rfl rfl d_Fi_orderFaces_55 ?_
          refine uiald G hP (kdp h_a0 rfl) (typ h_a0 rfl) h d_Fi_orderFaces_58 (fun x_26 h => ?_)
          refine lv_istore (lv' := [(7, .int x_26), (0, .ref (ad a0)), (1, .ref (ad a1)), (2, .int x2h25), (3, .int x3h25), (4, .long x4h25), (6, .int x6h25)]) G.1 G.2.1 d_Fi_orderFaces_59 hl (by decide) rfl (fun ls hl => ?_)
          refine lv_lload G.1 G.2.1 d_Fi_orderFaces_61 (lv_at hl 5 rfl) ?_
          refine lv_iload G.1 G.2.1 d_Fi_orderFaces_63 (lv_at hl 0 rfl) ?_
          refine lv_lshr G.1 G.2.1 d_Fi_orderFaces_65 rfl ?_
          refine lv_lconst (v := 1) G.1 G.2.1 d_Fi_orderFaces_66 (by decide) ?_
          refine lv_land G.1 G.2.1 d_Fi_orderFaces_67 ?_
          refine W.eq (g2 := F0 m 68 ls [.long ((x4h25 >>> (x_26.toInt64 &&& 63)) &&& 1)]) rfl ?_
          refine lv_lconst (v := 0) G.1 G.2.1 d_Fi_orderFaces_68 (by decide) ?_
          refine W.lcmp G.1 G.2.1 d_Fi_orderFaces_69 ?_
          have J_99 : ∀ (y_j99 : Ly) (s_j99 : St) (d_j99 e_j99 : Nat) (x2j99 : Int32) (x3j99 : Int32) (x4j99 : Int64) (x6j99 : Int32) (H : Heap) (locs : List Loc), wja_Fi_orderFaces_99 mc ms Post K_25 a0 a1 y_j99 s_j99 d_j99 e_j99 x2j99 x3j99 x4j99 x6j99 → va_P D CL (ws g ad y_j99 s_j99) H → va_D A (ws g ad y_j99 s_j99) → va_S A s.heap H locs → ∀ ls, lv_has ls 9 [(0, .ref (ad a0)), (1, .ref (ad a1)), (2, .int x2j99), (3, .int x3j99), (4, .long x4j99), (6, .int x6j99)] → W p l e (ra_Fi_orderFaces mc ms) s m args below meth c H locs d_j99 e_j99 Q (F0 m 99 ls []) := by
            intro y_j99 s_j99 d_j99 e_j99 x2j99 x3j99 x4j99 x6j99 H locs h hP hD hS ls hl
            unfold wja_Fi_orderFaces_99 at h
            obtain ⟨hd, h⟩ := h
            refine lv_iinc (v := x6j99 + 1) (lv' := [(6, .int (x6j99 + 1)), (0, .ref (ad a0)), (1, .ref (ad a1)), (2, .int x2j99), (3, .int x3j99), (4, .long x4j99)]) G.1 G.2.1 d_Fi_orderFaces_99 hl (k := 5) rfl rfl (by decide) rfl (fun ls hl => ?_)
            refine lv_goto (tgt := 25) G.1 G.2.1 d_Fi_orderFaces_102 (by decide) ?_
            have h := hK_25 y_j99 s_j99 d_j99 e_j99 x2j99 x3j99 x4j99 (x6j99 + 1) h
            exact ih_25 y_j99 s_j99 d_j99 e_j99 x2j99 x3j99 x4j99 (x6j99 + 1) (Nat.lt_of_lt_of_le h.2 (Nat.le_of_lt_succ hμ_25)) h.1 H locs hP hD hS ls (lv_sub hl [1, 2, 3, 4, 5, 0] rfl)
          refine lv_if_ne (tgt := 99) G.1 G.2.1 d_Fi_orderFaces_70 (by decide) (fun c70 => ?_) (fun c70 => ?_)
          · skip
            have h := h.1 c70
            exact J_99 y_h25 s_25 d_h25 e_h25 x2h25 x3h25 x4h25 x6h25 H locs h hP hD hS ls (lv_sub hl [1, 2, 3, 4, 5, 6] rfl)
          · skip
            have h := h.2 c70
            refine lv_lload G.1 G.2.1 d_Fi_orderFaces_73 (lv_at hl 5 rfl) ?_
            refine lv_lconst (v := 1) G.1 G.2.1 d_Fi_orderFaces_75 (by decide) ?_
            refine lv_iload G.1 G.2.1 d_Fi_orderFaces_76 (lv_at hl 0 rfl) ?_
            refine lv_lshl G.1 G.2.1 d_Fi_orderFaces_78 rfl ?_
            refine lv_lor G.1 G.2.1 d_Fi_orderFaces_79 ?_
            refine lv_lstore (lv' := [(4, .long (x4h25 ||| (1 <<< (x_26.toInt64 &&& 63)))), (7, .int x_26), (0, .ref (ad a0)), (1, .ref (ad a1)), (2, .int x2h25), (3, .int x3h25), (6, .int x6h25)]) G.1 G.2.1 d_Fi_orderFaces_80 hl (by decide) rfl (fun ls hl => ?_)
            refine lv_aload_n G.1 G.2.1 d_Fi_orderFaces_82 rfl (lv_at hl 3 rfl) ?_
            refine ugf (v := .ref (ad (lk a1 13))) G hP h_a1 iWd rfl 13 (by decide) rfl q859 rfl rfl d_Fi_orderFaces_83 ?_
            refine lv_iload G.1 G.2.1 d_Fi_orderFaces_86 (lv_at hl 1 rfl) ?_
            refine W.eq (g2 := F0 m 88 ls [.int x_26, .ref (ad (lk a1 13))]) rfl ?_
            obtain ⟨mc_32, ms_33, hr_34, h⟩ := h
            refine uaVi (As := [.int x_26]) (rest := []) G hP hD hS (ca_In_add l D g [] ad mc_32 ms_33 y_h25 _ s_25 (lk a1 13) x_26 H.size (us H) (lk_9_13 h_a1) h) w9_In_add q1718 ⟨Nat.le_of_ble_eq_true rfl, Nat.le_of_ble_eq_true rfl⟩ rfl rfl (lk_9_13 h_a1) (q := (RIn, TIn, 2)) rfl rfl hl.1 rfl (Nat.le_of_ble_eq_true rfl) rfl hr_34 d_Fi_orderFaces_88 (fun r_27 y_29 s_28 d_30 e_31 H locs h hP hD hS => ?_)
            obtain ⟨hd, h⟩ := h
            refine lv_pop G.1 G.2.1 d_Fi_orderFaces_91 rfl ?_
            refine lv_aload_n G.1 G.2.1 d_Fi_orderFaces_92 rfl (lv_at hl 2 rfl) ?_
            refine lv_aload_n G.1 G.2.1 d_Fi_orderFaces_93 rfl (lv_at hl 3 rfl) ?_
            refine lv_iload G.1 G.2.1 d_Fi_orderFaces_94 (lv_at hl 1 rfl) ?_
            refine ucVv (As := [.ref (ad a1), .int x_26]) (rest := []) G hP hD hS (cu_Fi_openFaces l D g ad y_29 _ s_28 a0 a1 x_26 H.size h_a0 h_a1 h) w9_Fi_openFaces q1714 ⟨Nat.le_of_ble_eq_true rfl, Nat.le_of_ble_eq_true rfl⟩ rfl rfl h_a0 (q := (RFi, TFi, 10)) rfl rfl hl.1 rfl (Nat.le_of_ble_eq_true rfl) rfl hd d_Fi_orderFaces_96 (fun s_36 H locs h hP hD hS => ?_)
            exact J_99 y_29 s_36 (d_h25 + d_30) (e_h25 + e_31) x2h25 x3h25 (x4h25 ||| (1 <<< (x_26.toInt64 &&& 63))) x6h25 H locs h hP hD hS ls (lv_sub hl [2, 3, 4, 5, 0, 6] rfl)
  exact L_25 _ y s_3 0 0 v2 (sV σ (lk a1 13) 1) 0 0 (Nat.lt_succ_self _) hI_25 H locs hP hD hS ls (lv_sub hl [3, 4, 5, 2, 1, 0] rfl)
theorem q834 : Cond.fieldLink "ClassWorks$Finder" 130 "ClassWorks$World" "above" "[J" ∈ lw_ok := lw_okmem (List.mem_of_getElem? (i := 834) (by decide +kernel)) rfl
theorem q1704 : Cond.methodLink "ClassWorks$Finder" 134 y_Fi_giveSlots ∈ lw_ok := lw_okmem (List.mem_of_getElem? (i := 1704) (by decide +kernel)) rfl
theorem q1707 : Cond.code y_Fi_giveSlots b_Fi_giveSlots 6 (none) ∈ lw_ok := lw_okmem (List.mem_of_getElem? (i := 1707) (by decide +kernel)) rfl
theorem q1706 : Cond.instanceMethod y_Fi_giveSlots ∈ lw_ok := lw_okmem (List.mem_of_getElem? (i := 1706) (by decide +kernel)) rfl
theorem q74 : Cond.selects y_Fi_giveSlots.cls y_Fi_giveSlots y_Fi_giveSlots ∈ lw_ok := lw_okmem (List.mem_of_getElem? (i := 74) (by decide +kernel)) rfl
theorem w9_Fi_giveSlots : CWv y_Fi_giveSlots b_Fi_giveSlots 6 (none) 2 ∧ Cond.instanceMethod y_Fi_giveSlots ∈ lw_ok ∧ Cond.selects y_Fi_giveSlots.cls y_Fi_giveSlots y_Fi_giveSlots ∈ lw_ok := ⟨⟨q1707, q342, by decide +kernel, by decide +kernel, by decide +kernel⟩, q1706, q74⟩
theorem q1710 : Cond.methodLink "ClassWorks$Finder" 138 y_Fi_orderFaces ∈ lw_ok := lw_okmem (List.mem_of_getElem? (i := 1710) (by decide +kernel)) rfl
theorem q1713 : Cond.code y_Fi_orderFaces b_Fi_orderFaces 9 (none) ∈ lw_ok := lw_okmem (List.mem_of_getElem? (i := 1713) (by decide +kernel)) rfl
theorem q1712 : Cond.instanceMethod y_Fi_orderFaces ∈ lw_ok := lw_okmem (List.mem_of_getElem? (i := 1712) (by decide +kernel)) rfl
theorem q75 : Cond.selects y_Fi_orderFaces.cls y_Fi_orderFaces y_Fi_orderFaces ∈ lw_ok := lw_okmem (List.mem_of_getElem? (i := 75) (by decide +kernel)) rfl
theorem w9_Fi_orderFaces : CWv y_Fi_orderFaces b_Fi_orderFaces 9 (none) 2 ∧ Cond.instanceMethod y_Fi_orderFaces ∈ lw_ok ∧ Cond.selects y_Fi_orderFaces.cls y_Fi_orderFaces y_Fi_orderFaces ∈ lw_ok := ⟨⟨q1713, q342, by decide +kernel, by decide +kernel, by decide +kernel⟩, q1712, q75⟩
def y_Fi_endCheck : MethodName := ⟨"ClassWorks$Finder", "endCheck", "(LClassWorks$World;II)I"⟩
abbrev b_Fi_endCheck : ByteArray := prog_3_method_6_code
theorem q823 : Cond.fieldLink "ClassWorks$Finder" 115 "ClassWorks$World" "wrongClass" "I" ∈ lw_ok := lw_okmem (List.mem_of_getElem? (i := 823) (by decide +kernel)) rfl
theorem q737 : Cond.fieldLink "ClassWorks$Finder" 47 "ClassWorks$Finder" "checker" "LClassWorks$Checker;" ∈ lw_ok := lw_okmem (List.mem_of_getElem? (i := 737) (by decide +kernel)) rfl
theorem q652 : Cond.fieldLink "ClassWorks$Finder" 118 "ClassWorks$Checker" "spotMethod" "I" ∈ lw_ok := lw_okmem (List.mem_of_getElem? (i := 652) (by decide +kernel)) rfl
theorem q826 : Cond.fieldLink "ClassWorks$Finder" 121 "ClassWorks$World" "wrongMethod" "I" ∈ lw_ok := lw_okmem (List.mem_of_getElem? (i := 826) (by decide +kernel)) rfl
theorem q649 : Cond.fieldLink "ClassWorks$Finder" 124 "ClassWorks$Checker" "spot" "I" ∈ lw_ok := lw_okmem (List.mem_of_getElem? (i := 649) (by decide +kernel)) rfl
theorem q829 : Cond.fieldLink "ClassWorks$Finder" 127 "ClassWorks$World" "wrongAt" "I" ∈ lw_ok := lw_okmem (List.mem_of_getElem? (i := 829) (by decide +kernel)) rfl
theorem d_Fi_endCheck_0 : decode b_Fi_endCheck 0 = .ok (.iload_n 3, 1) := by decide +kernel
theorem d_Fi_endCheck_1 : decode b_Fi_endCheck 1 = .ok (.ifCond .eq 38, 3) := by decide +kernel
theorem d_Fi_endCheck_4 : decode b_Fi_endCheck 4 = .ok (.aload_n 1, 1) := by decide +kernel
theorem d_Fi_endCheck_5 : decode b_Fi_endCheck 5 = .ok (.iload_n 2, 1) := by decide +kernel
theorem d_Fi_endCheck_6 : decode b_Fi_endCheck 6 = .ok (.putfield 115, 3) := by decide +kernel
theorem d_Fi_endCheck_9 : decode b_Fi_endCheck 9 = .ok (.aload_n 1, 1) := by decide +kernel
theorem d_Fi_endCheck_10 : decode b_Fi_endCheck 10 = .ok (.aload_n 0, 1) := by decide +kernel
theorem d_Fi_endCheck_11 : decode b_Fi_endCheck 11 = .ok (.getfield 47, 3) := by decide +kernel
theorem d_Fi_endCheck_14 : decode b_Fi_endCheck 14 = .ok (.getfield 118, 3) := by decide +kernel
theorem d_Fi_endCheck_17 : decode b_Fi_endCheck 17 = .ok (.putfield 121, 3) := by decide +kernel
theorem d_Fi_endCheck_20 : decode b_Fi_endCheck 20 = .ok (.aload_n 1, 1) := by decide +kernel
theorem d_Fi_endCheck_21 : decode b_Fi_endCheck 21 = .ok (.aload_n 0, 1) := by decide +kernel
theorem d_Fi_endCheck_22 : decode b_Fi_endCheck 22 = .ok (.getfield 47, 3) := by decide +kernel
theorem d_Fi_endCheck_25 : decode b_Fi_endCheck 25 = .ok (.getfield 124, 3) := by decide +kernel
theorem d_Fi_endCheck_28 : decode b_Fi_endCheck 28 = .ok (.putfield 127, 3) := by decide +kernel
theorem d_Fi_endCheck_31 : decode b_Fi_endCheck 31 = .ok (.bipush 100, 2) := by decide +kernel
theorem d_Fi_endCheck_33 : decode b_Fi_endCheck 33 = .ok (.iload_n 3, 1) := by decide +kernel
theorem d_Fi_endCheck_34 : decode b_Fi_endCheck 34 = .ok (.imul, 1) := by decide +kernel
theorem d_Fi_endCheck_35 : decode b_Fi_endCheck 35 = .ok (.bipush 17, 2) := by decide +kernel
theorem d_Fi_endCheck_37 : decode b_Fi_endCheck 37 = .ok (.iadd, 1) := by decide +kernel
theorem d_Fi_endCheck_38 : decode b_Fi_endCheck 38 = .ok (.ireturn, 1) := by decide +kernel
theorem d_Fi_endCheck_39 : decode b_Fi_endCheck 39 = .ok (.aload_n 1, 1) := by decide +kernel
theorem d_Fi_endCheck_40 : decode b_Fi_endCheck 40 = .ok (.getfield 130, 3) := by decide +kernel
theorem d_Fi_endCheck_43 : decode b_Fi_endCheck 43 = .ok (.iload_n 2, 1) := by decide +kernel
theorem d_Fi_endCheck_44 : decode b_Fi_endCheck 44 = .ok (.aload_n 1, 1) := by decide +kernel
theorem d_Fi_endCheck_45 : decode b_Fi_endCheck 45 = .ok (.iload_n 2, 1) := by decide +kernel
theorem d_Fi_endCheck_46 : decode b_Fi_endCheck 46 = .ok (.iconst 0, 1) := by decide +kernel
theorem d_Fi_endCheck_47 : decode b_Fi_endCheck 47 = .ok (.invokevirtual 93, 3) := by decide +kernel
theorem d_Fi_endCheck_50 : decode b_Fi_endCheck 50 = .ok (.lconst 1, 1) := by decide +kernel
theorem d_Fi_endCheck_51 : decode b_Fi_endCheck 51 = .ok (.iload_n 2, 1) := by decide +kernel
theorem d_Fi_endCheck_52 : decode b_Fi_endCheck 52 = .ok (.lshl, 1) := by decide +kernel
theorem d_Fi_endCheck_53 : decode b_Fi_endCheck 53 = .ok (.lor, 1) := by decide +kernel
theorem d_Fi_endCheck_54 : decode b_Fi_endCheck 54 = .ok (.lastore, 1) := by decide +kernel
theorem d_Fi_endCheck_55 : decode b_Fi_endCheck 55 = .ok (.aload_n 0, 1) := by decide +kernel
theorem d_Fi_endCheck_56 : decode b_Fi_endCheck 56 = .ok (.aload_n 1, 1) := by decide +kernel
theorem d_Fi_endCheck_57 : decode b_Fi_endCheck 57 = .ok (.iload_n 2, 1) := by decide +kernel
theorem d_Fi_endCheck_58 : decode b_Fi_endCheck 58 = .ok (.invokevirtual 134, 3) := by decide +kernel
theorem d_Fi_endCheck_61 : decode b_Fi_endCheck 61 = .ok (.aload_n 0, 1) := by decide +kernel
theorem d_Fi_endCheck_62 : decode b_Fi_endCheck 62 = .ok (.aload_n 1, 1) := by decide +kernel
theorem d_Fi_endCheck_63 : decode b_Fi_endCheck 63 = .ok (.iload_n 2, 1) := by decide +kernel
theorem d_Fi_endCheck_64 : decode b_Fi_endCheck 64 = .ok (.invokevirtual 138, 3) := by decide +kernel
theorem d_Fi_endCheck_67 : decode b_Fi_endCheck 67 = .ok (.iconst 1, 1) := by decide +kernel
theorem d_Fi_endCheck_68 : decode b_Fi_endCheck 68 = .ok (.ireturn, 1) := by decide +kernel
abbrev ra_Fi_endCheck (mc ms : Nat) : Room := { frames := 6, cells := mc, slots := ms, locals := 449 }
def wa_Fi_endCheck (mc ms : Nat) (y : Ly) (Post : Ly → St → Int32 → Nat → Nat → Prop) (σ : St) (a0 : Nat) (a1 : Nat) (v2 : Int32) (v3 : Int32) : Prop := ((v3 = 0 → wu_Wd_allAbove y (fun (s_2 : St) (r_1 : Int64) => xT y s_2 a1 7 v2 (r_1 ||| (1 <<< (v2.toInt64 &&& 63))) (fun s_3 : St => wu_Fi_giveSlots y (fun (s_5 : St) => ∃ mc_11 ms_12 : Nat, (0 + mc_11 ≤ mc ∧ 0 + ms_12 ≤ ms) ∧ wa_Fi_orderFaces mc_11 ms_12 y (fun (y_8 : Ly) (s_7 : St) (d_9 e_10 : Nat) => (0 + d_9 ≤ mc ∧ 0 + e_10 ≤ ms) ∧ Post y_8 s_7 1 (0 + d_9) (0 + e_10)) s_5 a0 a1 v2) s_3 a0 a1 v2)) σ a1 v2 0) ∧ (¬ (v3 = 0) → xP (uV σ a1 3 v2) (fun s_14 : St => xP (uV s_14 a1 4 (sV s_14 (lk a0 5) 1)) (fun s_15 : St => xP (uV s_15 a1 5 (sV s_15 (lk a0 5) 0)) (fun s_16 : St => Post y s_16 ((100 * v3) + 17) 0 0)))))
set_option maxHeartbeats 4000000 in
set_option maxRecDepth 100000 in
theorem ca_Fi_endCheck (l : Launch) (D : va_G) (g : Nat → ClassId) (ad : Nat → Nat) (mc ms : Nat) (y : Ly) (Post : Ly → St → Int32 → Nat → Nat → Prop) (σ : St) (a0 : Nat) (a1 : Nat) (v2 : Int32) (v3 : Int32) (sz uz : Nat) (h_a0 : cl a0 = 1) (h_a1 : cl a1 = 9) (h : wa_Fi_endCheck mc ms y Post σ a0 a1 v2 v3) : Met l y_Fi_endCheck (mw y_Fi_endCheck b_Fi_endCheck 4 (some .int)) (ra_Fi_endCheck mc ms) (PCu g D [] [.ref (ad a0), .ref (ad a1), .int v2, .int v3] sz uz (ws g ad y σ)) (va_Qi (fun (r : Int32) (u : Ly × St × Nat × Nat) => Post u.1 u.2.1 r u.2.2.1 u.2.2.2) (QU D (va_A (ws g ad y σ) sz) (fun u => ws g ad u.1 u.2.1) sz uz (fun u => u.2.2.1) (fun u => u.2.2.2)) (va_A (ws g ad y σ) sz)) mc ms (va_A (ws g ad y σ) sz) := by
  refine ofIu (by decide +kernel) (Nat.le_of_ble_eq_true rfl) ?_
  intro p e s m args below meth c A Q ls H locs G hsz hP hD hS hl hret
  subst hsz
  have hl : lv_has ls 4 [(0, .ref (ad a0)), (1, .ref (ad a1)), (2, .int v2), (3, .int v3)] := hl
  have hd : 0 ≤ mc ∧ 0 ≤ ms := ⟨Nat.zero_le _, Nat.zero_le _⟩
  unfold wa_Fi_endCheck at h
  refine lv_iload_n G.1 G.2.1 d_Fi_endCheck_0 rfl (lv_at hl 3 rfl) ?_
  refine lv_if_eq (tgt := 39) G.1 G.2.1 d_Fi_endCheck_1 (by decide) (fun c1 => ?_) (fun c1 => ?_)
  · skip
    have h := h.1 c1
    refine lv_aload_n G.1 G.2.1 d_Fi_endCheck_39 rfl (lv_at hl 1 rfl) ?_
    refine ugf (v := .ref (yP y a1 7)) G hP h_a1 iWd rfl 7 (by decide) rfl q834 rfl rfl d_Fi_endCheck_40 ?_
    refine lv_iload_n G.1 G.2.1 d_Fi_endCheck_43 rfl (lv_at hl 2 rfl) ?_
    refine lv_aload_n G.1 G.2.1 d_Fi_endCheck_44 rfl (lv_at hl 1 rfl) ?_
    refine lv_iload_n G.1 G.2.1 d_Fi_endCheck_45 rfl (lv_at hl 2 rfl) ?_
    refine lv_iconst (v := 0) G.1 G.2.1 d_Fi_endCheck_46 (by decide) ?_
    refine ucVl (As := [.int v2, .int 0]) (rest := [.int v2, .ref (yP y a1 7)]) G hP hD hS (cu_Wd_allAbove l D g ad y _ σ a1 v2 0 H.size h_a1 h) w9_Wd_allAbove q1537 ⟨Nat.le_of_ble_eq_true rfl, Nat.le_of_ble_eq_true rfl⟩ rfl rfl h_a1 (q := (RWd, TWd, 17)) rfl rfl hl.1 rfl (Nat.le_of_ble_eq_true rfl) rfl hd d_Fi_endCheck_47 (fun r_1 s_2 H locs h hP hD hS => ?_)
    refine lv_lconst (v := 1) G.1 G.2.1 d_Fi_endCheck_50 (by decide) ?_
    refine lv_iload_n G.1 G.2.1 d_Fi_endCheck_51 rfl (lv_at hl 2 rfl) ?_
    refine W.eq (g2 := F0 m 52 ls [.int v2, .long 1, .long r_1, .int v2, .ref (yP y a1 7)]) rfl ?_
    refine lv_lshl G.1 G.2.1 d_Fi_endCheck_52 rfl ?_
    refine lv_lor G.1 G.2.1 d_Fi_endCheck_53 ?_
    refine ulast G hP hD hS (kdp h_a1 rfl) (typ h_a1 rfl) h d_Fi_endCheck_54 (fun s_3 H locs h hP hD hS => ?_)
    refine lv_aload_n G.1 G.2.1 d_Fi_endCheck_55 rfl (lv_at hl 0 rfl) ?_
    refine lv_aload_n G.1 G.2.1 d_Fi_endCheck_56 rfl (lv_at hl 1 rfl) ?_
    refine lv_iload_n G.1 G.2.1 d_Fi_endCheck_57 rfl (lv_at hl 2 rfl) ?_
    refine ucVv (As := [.ref (ad a1), .int v2]) (rest := []) G hP hD hS (cu_Fi_giveSlots l D g ad y _ s_3 a0 a1 v2 H.size h_a0 h_a1 h) w9_Fi_giveSlots q1704 ⟨Nat.le_of_ble_eq_true rfl, Nat.le_of_ble_eq_true rfl⟩ rfl rfl h_a0 (q := (RFi, TFi, 10)) rfl rfl hl.1 rfl (Nat.le_of_ble_eq_true rfl) rfl hd d_Fi_endCheck_58 (fun s_5 H locs h hP hD hS => ?_)
    refine lv_aload_n G.1 G.2.1 d_Fi_endCheck_61 rfl (lv_at hl 0 rfl) ?_
    refine lv_aload_n G.1 G.2.1 d_Fi_endCheck_62 rfl (lv_at hl 1 rfl) ?_
    refine lv_iload_n G.1 G.2.1 d_Fi_endCheck_63 rfl (lv_at hl 2 rfl) ?_
    obtain ⟨mc_11, ms_12, hr_13, h⟩ := h
    refine uaVv (As := [.ref (ad a1), .int v2]) (rest := []) G hP hD hS (ca_Fi_orderFaces l D g ad mc_11 ms_12 y _ s_5 a0 a1 v2 H.size (us H) h_a0 h_a1 h) w9_Fi_orderFaces q1710 ⟨Nat.le_of_ble_eq_true rfl, Nat.le_of_ble_eq_true rfl⟩ rfl rfl h_a0 (q := (RFi, TFi, 10)) rfl rfl hl.1 rfl (Nat.le_of_ble_eq_true rfl) rfl hr_13 d_Fi_endCheck_64 (fun y_8 s_7 d_9 e_10 H locs h hP hD hS => ?_)
    have hl := lv_sub (l' := []) hl [] rfl
    obtain ⟨hd, h⟩ := h
    refine lv_iconst (v := 1) G.1 G.2.1 d_Fi_endCheck_67 (by decide) ?_
    refine W.eq (g2 := F0 m 68 ls [.int 1]) rfl ?_
    exact hret _ (y_8, s_7, 0 + d_9, 0 + e_10) _ _ _ _ _ ls h hP hD hS (Nat.le_refl _) (Nat.le_refl _) hd.1 hd.2 d_Fi_endCheck_68
  · skip
    have h := h.2 c1
    refine lv_aload_n G.1 G.2.1 d_Fi_endCheck_4 rfl (lv_at hl 1 rfl) ?_
    refine lv_iload_n G.1 G.2.1 d_Fi_endCheck_5 rfl (lv_at hl 2 rfl) ?_
    refine upf G hP hD hS h 3 putV h_a1 iWd tWd tWd_ok nWd rfl (by decide) rfl q823 rfl rfl fV rfl rfl d_Fi_endCheck_6 (fun s_14 H locs h hP hD hS => ?_)
    refine lv_aload_n G.1 G.2.1 d_Fi_endCheck_9 rfl (lv_at hl 1 rfl) ?_
    refine lv_aload_n G.1 G.2.1 d_Fi_endCheck_10 rfl (lv_at hl 0 rfl) ?_
    refine ugf (v := .ref (ad (lk a0 5))) G hP h_a0 iFi rfl 5 (by decide) rfl q737 rfl rfl d_Fi_endCheck_11 ?_
    refine ugf (v := .int (sV s_14 (lk a0 5) 1)) G hP (lk_1_5 h_a0) iCk rfl 1 (by decide) rfl q652 rfl rfl d_Fi_endCheck_14 ?_
    refine upf G hP hD hS h 4 putV h_a1 iWd tWd tWd_ok nWd rfl (by decide) rfl q826 rfl rfl fV rfl rfl d_Fi_endCheck_17 (fun s_15 H locs h hP hD hS => ?_)
    refine lv_aload_n G.1 G.2.1 d_Fi_endCheck_20 rfl (lv_at hl 1 rfl) ?_
    refine W.eq (g2 := F0 m 21 ls [.ref (ad a1)]) rfl ?_
    refine lv_aload_n G.1 G.2.1 d_Fi_endCheck_21 rfl (lv_at hl 0 rfl) ?_
    refine ugf (v := .ref (ad (lk a0 5))) G hP h_a0 iFi rfl 5 (by decide) rfl q737 rfl rfl d_Fi_endCheck_22 ?_
    refine ugf (v := .int (sV s_15 (lk a0 5) 0)) G hP (lk_1_5 h_a0) iCk rfl 0 (by decide) rfl q649 rfl rfl d_Fi_endCheck_25 ?_
    refine upf G hP hD hS h 5 putV h_a1 iWd tWd tWd_ok nWd rfl (by decide) rfl q829 rfl rfl fV rfl rfl d_Fi_endCheck_28 (fun s_16 H locs h hP hD hS => ?_)
    refine lv_bipush (v := 100) G.1 G.2.1 d_Fi_endCheck_31 (by decide) ?_
    refine lv_iload_n G.1 G.2.1 d_Fi_endCheck_33 rfl (lv_at hl 3 rfl) ?_
    refine lv_imul G.1 G.2.1 d_Fi_endCheck_34 ?_
    refine lv_bipush (v := 17) G.1 G.2.1 d_Fi_endCheck_35 (by decide) ?_
    refine lv_iadd G.1 G.2.1 d_Fi_endCheck_37 ?_
    exact hret _ (y, s_16, 0, 0) _ _ _ _ _ ls h hP hD hS (Nat.le_refl _) (Nat.le_refl _) hd.1 hd.2 d_Fi_endCheck_38
theorem q738 : Cond.fieldLink "ClassWorks$Finder" 30 "ClassWorks$Finder" "waiting" "[I" ∈ lw_ok := lw_okmem (List.mem_of_getElem? (i := 738) (by decide +kernel)) rfl
theorem q1700 : Cond.methodLink "ClassWorks$Finder" 79 y_Fi_endCheck ∈ lw_ok := lw_okmem (List.mem_of_getElem? (i := 1700) (by decide +kernel)) rfl
theorem q1703 : Cond.code y_Fi_endCheck b_Fi_endCheck 4 (some .int) ∈ lw_ok := lw_okmem (List.mem_of_getElem? (i := 1703) (by decide +kernel)) rfl
theorem q1702 : Cond.instanceMethod y_Fi_endCheck ∈ lw_ok := lw_okmem (List.mem_of_getElem? (i := 1702) (by decide +kernel)) rfl
theorem q73 : Cond.selects y_Fi_endCheck.cls y_Fi_endCheck y_Fi_endCheck ∈ lw_ok := lw_okmem (List.mem_of_getElem? (i := 73) (by decide +kernel)) rfl
theorem w9_Fi_endCheck : CWv y_Fi_endCheck b_Fi_endCheck 4 (some .int) 3 ∧ Cond.instanceMethod y_Fi_endCheck ∈ lw_ok ∧ Cond.selects y_Fi_endCheck.cls y_Fi_endCheck y_Fi_endCheck ∈ lw_ok := ⟨⟨q1703, q342, by decide +kernel, by decide +kernel, by decide +kernel⟩, q1702, q73⟩
theorem q1572 : Cond.methodLink "ClassWorks$Finder" 73 y_Ck_check ∈ lw_ok := lw_okmem (List.mem_of_getElem? (i := 1572) (by decide +kernel)) rfl
theorem q1575 : Cond.code y_Ck_check b_Ck_check 10 (some .int) ∈ lw_ok := lw_okmem (List.mem_of_getElem? (i := 1575) (by decide +kernel)) rfl
theorem q1573 : Cond.instanceMethod y_Ck_check ∈ lw_ok := lw_okmem (List.mem_of_getElem? (i := 1573) (by decide +kernel)) rfl
theorem q1574 : Cond.selects y_Ck_check.cls y_Ck_check y_Ck_check ∈ lw_ok := lw_okmem (List.mem_of_getElem? (i := 1574) (by decide +kernel)) rfl
theorem w9_Ck_check : CWv y_Ck_check b_Ck_check 10 (some .int) 5 ∧ Cond.instanceMethod y_Ck_check ∈ lw_ok ∧ Cond.selects y_Ck_check.cls y_Ck_check y_Ck_check ∈ lw_ok := ⟨⟨q1575, q341, by decide +kernel, by decide +kernel, by decide +kernel⟩, q1573, q1574⟩
theorem q1564 : Cond.methodLink "ClassWorks$Finder" 69 y_Fi_hasFinalAbove ∈ lw_ok := lw_okmem (List.mem_of_getElem? (i := 1564) (by decide +kernel)) rfl
theorem q1567 : Cond.code y_Fi_hasFinalAbove b_Fi_hasFinalAbove 10 (some (.boolean)) ∈ lw_ok := lw_okmem (List.mem_of_getElem? (i := 1567) (by decide +kernel)) rfl
theorem q1566 : Cond.instanceMethod y_Fi_hasFinalAbove ∈ lw_ok := lw_okmem (List.mem_of_getElem? (i := 1566) (by decide +kernel)) rfl
theorem q48 : Cond.selects y_Fi_hasFinalAbove.cls y_Fi_hasFinalAbove y_Fi_hasFinalAbove ∈ lw_ok := lw_okmem (List.mem_of_getElem? (i := 48) (by decide +kernel)) rfl
theorem w9_Fi_hasFinalAbove : CWv y_Fi_hasFinalAbove b_Fi_hasFinalAbove 10 (some (.boolean)) 2 ∧ Cond.instanceMethod y_Fi_hasFinalAbove ∈ lw_ok ∧ Cond.selects y_Fi_hasFinalAbove.cls y_Fi_hasFinalAbove y_Fi_hasFinalAbove ∈ lw_ok := ⟨⟨q1567, q342, by decide +kernel, by decide +kernel, by decide +kernel⟩, q1566, q48⟩
theorem q1559 : Cond.methodLink "ClassWorks$Finder" 61 y_Fi_nextAbove ∈ lw_ok := lw_okmem (List.mem_of_getElem? (i := 1559) (by decide +kernel)) rfl
theorem q1562 : Cond.code y_Fi_nextAbove b_Fi_nextAbove 8 (some .int) ∈ lw_ok := lw_okmem (List.mem_of_getElem? (i := 1562) (by decide +kernel)) rfl
theorem q1561 : Cond.instanceMethod y_Fi_nextAbove ∈ lw_ok := lw_okmem (List.mem_of_getElem? (i := 1561) (by decide +kernel)) rfl
theorem q47 : Cond.selects y_Fi_nextAbove.cls y_Fi_nextAbove y_Fi_nextAbove ∈ lw_ok := lw_okmem (List.mem_of_getElem? (i := 47) (by decide +kernel)) rfl
theorem w9_Fi_nextAbove : CWv y_Fi_nextAbove b_Fi_nextAbove 8 (some .int) 3 ∧ Cond.instanceMethod y_Fi_nextAbove ∈ lw_ok ∧ Cond.selects y_Fi_nextAbove.cls y_Fi_nextAbove y_Fi_nextAbove ∈ lw_ok := ⟨⟨q1562, q342, by decide +kernel, by decide +kernel, by decide +kernel⟩, q1561, q47⟩
theorem q1533 : Cond.methodLink "ClassWorks$Finder" 57 y_Fi_headFault ∈ lw_ok := lw_okmem (List.mem_of_getElem? (i := 1533) (by decide +kernel)) rfl
theorem q1536 : Cond.code y_Fi_headFault b_Fi_headFault 6 (some .int) ∈ lw_ok := lw_okmem (List.mem_of_getElem? (i := 1536) (by decide +kernel)) rfl
theorem q1535 : Cond.instanceMethod y_Fi_headFault ∈ lw_ok := lw_okmem (List.mem_of_getElem? (i := 1535) (by decide +kernel)) rfl
theorem q46 : Cond.selects y_Fi_headFault.cls y_Fi_headFault y_Fi_headFault ∈ lw_ok := lw_okmem (List.mem_of_getElem? (i := 46) (by decide +kernel)) rfl
theorem w9_Fi_headFault : CWv y_Fi_headFault b_Fi_headFault 6 (some .int) 2 ∧ Cond.instanceMethod y_Fi_headFault ∈ lw_ok ∧ Cond.selects y_Fi_headFault.cls y_Fi_headFault y_Fi_headFault ∈ lw_ok := ⟨⟨q1536, q342, by decide +kernel, by decide +kernel, by decide +kernel⟩, q1535, q46⟩
def y_Fi_settle : MethodName := ⟨"ClassWorks$Finder", "settle", "(LClassWorks$World;I)I"⟩
abbrev b_Fi_settle : ByteArray := prog_3_method_2_code
theorem d_Fi_settle_0 : decode b_Fi_settle 0 = .ok (.iconst 0, 1) := by decide +kernel
theorem d_Fi_settle_1 : decode b_Fi_settle 1 = .ok (.istore_n 3, 1) := by decide +kernel
theorem d_Fi_settle_2 : decode b_Fi_settle 2 = .ok (.aload_n 0, 1) := by decide +kernel
theorem d_Fi_settle_3 : decode b_Fi_settle 3 = .ok (.getfield 30, 3) := by decide +kernel
theorem d_Fi_settle_6 : decode b_Fi_settle 6 = .ok (.iconst 0, 1) := by decide +kernel
theorem d_Fi_settle_7 : decode b_Fi_settle 7 = .ok (.iload_n 2, 1) := by decide +kernel
theorem d_Fi_settle_8 : decode b_Fi_settle 8 = .ok (.iastore, 1) := by decide +kernel
theorem d_Fi_settle_9 : decode b_Fi_settle 9 = .ok (.aload_n 0, 1) := by decide +kernel
theorem d_Fi_settle_10 : decode b_Fi_settle 10 = .ok (.getfield 34, 3) := by decide +kernel
theorem d_Fi_settle_13 : decode b_Fi_settle 13 = .ok (.iconst 0, 1) := by decide +kernel
theorem d_Fi_settle_14 : decode b_Fi_settle 14 = .ok (.iconst (-1), 1) := by decide +kernel
theorem d_Fi_settle_15 : decode b_Fi_settle 15 = .ok (.iastore, 1) := by decide +kernel
theorem d_Fi_settle_16 : decode b_Fi_settle 16 = .ok (.iconst 0, 1) := by decide +kernel
theorem d_Fi_settle_17 : decode b_Fi_settle 17 = .ok (.istore 4, 2) := by decide +kernel
theorem d_Fi_settle_19 : decode b_Fi_settle 19 = .ok (.iload 4, 2) := by decide +kernel
theorem d_Fi_settle_21 : decode b_Fi_settle 21 = .ok (.sipush 2601, 3) := by decide +kernel
theorem d_Fi_settle_24 : decode b_Fi_settle 24 = .ok (.if_icmp .ge 225, 3) := by decide +kernel
theorem d_Fi_settle_27 : decode b_Fi_settle 27 = .ok (.iload_n 3, 1) := by decide +kernel
theorem d_Fi_settle_28 : decode b_Fi_settle 28 = .ok (.ifCond .lt 221, 3) := by decide +kernel
theorem d_Fi_settle_31 : decode b_Fi_settle 31 = .ok (.aload_n 0, 1) := by decide +kernel
theorem d_Fi_settle_32 : decode b_Fi_settle 32 = .ok (.getfield 30, 3) := by decide +kernel
theorem d_Fi_settle_35 : decode b_Fi_settle 35 = .ok (.iload_n 3, 1) := by decide +kernel
theorem d_Fi_settle_36 : decode b_Fi_settle 36 = .ok (.iaload, 1) := by decide +kernel
theorem d_Fi_settle_37 : decode b_Fi_settle 37 = .ok (.istore 5, 2) := by decide +kernel
theorem d_Fi_settle_39 : decode b_Fi_settle 39 = .ok (.aload_n 1, 1) := by decide +kernel
theorem d_Fi_settle_40 : decode b_Fi_settle 40 = .ok (.iload 5, 2) := by decide +kernel
theorem d_Fi_settle_42 : decode b_Fi_settle 42 = .ok (.bipush 12, 2) := by decide +kernel
theorem d_Fi_settle_44 : decode b_Fi_settle 44 = .ok (.invokevirtual 51, 3) := by decide +kernel
theorem d_Fi_settle_47 : decode b_Fi_settle 47 = .ok (.istore 6, 2) := by decide +kernel
theorem d_Fi_settle_49 : decode b_Fi_settle 49 = .ok (.iload 6, 2) := by decide +kernel
theorem d_Fi_settle_51 : decode b_Fi_settle 51 = .ok (.ifCond .ne 28, 3) := by decide +kernel
theorem d_Fi_settle_54 : decode b_Fi_settle 54 = .ok (.aload_n 0, 1) := by decide +kernel
theorem d_Fi_settle_55 : decode b_Fi_settle 55 = .ok (.getfield 34, 3) := by decide +kernel
theorem d_Fi_settle_58 : decode b_Fi_settle 58 = .ok (.iload_n 3, 1) := by decide +kernel
theorem d_Fi_settle_59 : decode b_Fi_settle 59 = .ok (.iaload, 1) := by decide +kernel
theorem d_Fi_settle_60 : decode b_Fi_settle 60 = .ok (.ifCond .ge 19, 3) := by decide +kernel
theorem d_Fi_settle_63 : decode b_Fi_settle 63 = .ok (.aload_n 0, 1) := by decide +kernel
theorem d_Fi_settle_64 : decode b_Fi_settle 64 = .ok (.aload_n 1, 1) := by decide +kernel
theorem d_Fi_settle_65 : decode b_Fi_settle 65 = .ok (.iload 5, 2) := by decide +kernel
theorem d_Fi_settle_67 : decode b_Fi_settle 67 = .ok (.invokevirtual 57, 3) := by decide +kernel
theorem d_Fi_settle_70 : decode b_Fi_settle 70 = .ok (.istore 6, 2) := by decide +kernel
theorem d_Fi_settle_72 : decode b_Fi_settle 72 = .ok (.aload_n 0, 1) := by decide +kernel
theorem d_Fi_settle_73 : decode b_Fi_settle 73 = .ok (.getfield 34, 3) := by decide +kernel
theorem d_Fi_settle_76 : decode b_Fi_settle 76 = .ok (.iload_n 3, 1) := by decide +kernel
theorem d_Fi_settle_77 : decode b_Fi_settle 77 = .ok (.iconst 0, 1) := by decide +kernel
theorem d_Fi_settle_78 : decode b_Fi_settle 78 = .ok (.iastore, 1) := by decide +kernel
theorem d_Fi_settle_79 : decode b_Fi_settle 79 = .ok (.iload 6, 2) := by decide +kernel
theorem d_Fi_settle_81 : decode b_Fi_settle 81 = .ok (.ifCond .ne 14, 3) := by decide +kernel
theorem d_Fi_settle_84 : decode b_Fi_settle 84 = .ok (.aload_n 0, 1) := by decide +kernel
theorem d_Fi_settle_85 : decode b_Fi_settle 85 = .ok (.aload_n 1, 1) := by decide +kernel
theorem d_Fi_settle_86 : decode b_Fi_settle 86 = .ok (.iload 5, 2) := by decide +kernel
theorem d_Fi_settle_88 : decode b_Fi_settle 88 = .ok (.iload_n 3, 1) := by decide +kernel
theorem d_Fi_settle_89 : decode b_Fi_settle 89 = .ok (.invokevirtual 61, 3) := by decide +kernel
theorem d_Fi_settle_92 : decode b_Fi_settle 92 = .ok (.goto 4, 3) := by decide +kernel
theorem d_Fi_settle_95 : decode b_Fi_settle 95 = .ok (.iconst (-1), 1) := by decide +kernel
theorem d_Fi_settle_96 : decode b_Fi_settle 96 = .ok (.istore 7, 2) := by decide +kernel
theorem d_Fi_settle_98 : decode b_Fi_settle 98 = .ok (.iload 7, 2) := by decide +kernel
theorem d_Fi_settle_100 : decode b_Fi_settle 100 = .ok (.ifCond .lt 30, 3) := by decide +kernel
theorem d_Fi_settle_103 : decode b_Fi_settle 103 = .ok (.iload_n 3, 1) := by decide +kernel
theorem d_Fi_settle_104 : decode b_Fi_settle 104 = .ok (.bipush 51, 2) := by decide +kernel
theorem d_Fi_settle_106 : decode b_Fi_settle 106 = .ok (.if_icmp .ge 24, 3) := by decide +kernel
theorem d_Fi_settle_109 : decode b_Fi_settle 109 = .ok (.iinc 3 1, 3) := by decide +kernel
theorem d_Fi_settle_112 : decode b_Fi_settle 112 = .ok (.aload_n 0, 1) := by decide +kernel
theorem d_Fi_settle_113 : decode b_Fi_settle 113 = .ok (.getfield 30, 3) := by decide +kernel
theorem d_Fi_settle_116 : decode b_Fi_settle 116 = .ok (.iload_n 3, 1) := by decide +kernel
theorem d_Fi_settle_117 : decode b_Fi_settle 117 = .ok (.iload 7, 2) := by decide +kernel
theorem d_Fi_settle_119 : decode b_Fi_settle 119 = .ok (.iastore, 1) := by decide +kernel
theorem d_Fi_settle_120 : decode b_Fi_settle 120 = .ok (.aload_n 0, 1) := by decide +kernel
theorem d_Fi_settle_121 : decode b_Fi_settle 121 = .ok (.getfield 34, 3) := by decide +kernel
theorem d_Fi_settle_124 : decode b_Fi_settle 124 = .ok (.iload_n 3, 1) := by decide +kernel
theorem d_Fi_settle_125 : decode b_Fi_settle 125 = .ok (.iconst (-1), 1) := by decide +kernel
theorem d_Fi_settle_126 : decode b_Fi_settle 126 = .ok (.iastore, 1) := by decide +kernel
theorem d_Fi_settle_127 : decode b_Fi_settle 127 = .ok (.goto 116, 3) := by decide +kernel
theorem d_Fi_settle_130 : decode b_Fi_settle 130 = .ok (.iload 6, 2) := by decide +kernel
theorem d_Fi_settle_132 : decode b_Fi_settle 132 = .ok (.ifCond .ne 14, 3) := by decide +kernel
theorem d_Fi_settle_135 : decode b_Fi_settle 135 = .ok (.aload_n 1, 1) := by decide +kernel
theorem d_Fi_settle_136 : decode b_Fi_settle 136 = .ok (.iload 5, 2) := by decide +kernel
theorem d_Fi_settle_138 : decode b_Fi_settle 138 = .ok (.bipush 12, 2) := by decide +kernel
theorem d_Fi_settle_140 : decode b_Fi_settle 140 = .ok (.invokevirtual 51, 3) := by decide +kernel
theorem d_Fi_settle_143 : decode b_Fi_settle 143 = .ok (.goto 5, 3) := by decide +kernel
theorem d_Fi_settle_146 : decode b_Fi_settle 146 = .ok (.iload 6, 2) := by decide +kernel
theorem d_Fi_settle_148 : decode b_Fi_settle 148 = .ok (.istore 6, 2) := by decide +kernel
theorem d_Fi_settle_150 : decode b_Fi_settle 150 = .ok (.iload 6, 2) := by decide +kernel
theorem d_Fi_settle_152 : decode b_Fi_settle 152 = .ok (.ifCond .ne 27, 3) := by decide +kernel
theorem d_Fi_settle_155 : decode b_Fi_settle 155 = .ok (.aload_n 1, 1) := by decide +kernel
theorem d_Fi_settle_156 : decode b_Fi_settle 156 = .ok (.iconst 4, 1) := by decide +kernel
theorem d_Fi_settle_157 : decode b_Fi_settle 157 = .ok (.invokevirtual 65, 3) := by decide +kernel
theorem d_Fi_settle_160 : decode b_Fi_settle 160 = .ok (.ifCond .eq 19, 3) := by decide +kernel
theorem d_Fi_settle_163 : decode b_Fi_settle 163 = .ok (.aload_n 0, 1) := by decide +kernel
theorem d_Fi_settle_164 : decode b_Fi_settle 164 = .ok (.aload_n 1, 1) := by decide +kernel
theorem d_Fi_settle_165 : decode b_Fi_settle 165 = .ok (.iload 5, 2) := by decide +kernel
theorem d_Fi_settle_167 : decode b_Fi_settle 167 = .ok (.invokevirtual 69, 3) := by decide +kernel
theorem d_Fi_settle_170 : decode b_Fi_settle 170 = .ok (.ifCond .eq 9, 3) := by decide +kernel
theorem d_Fi_settle_173 : decode b_Fi_settle 173 = .ok (.sipush 2515, 3) := by decide +kernel
theorem d_Fi_settle_176 : decode b_Fi_settle 176 = .ok (.goto 5, 3) := by decide +kernel
theorem d_Fi_settle_179 : decode b_Fi_settle 179 = .ok (.iload 6, 2) := by decide +kernel
theorem d_Fi_settle_181 : decode b_Fi_settle 181 = .ok (.istore 6, 2) := by decide +kernel
theorem d_Fi_settle_183 : decode b_Fi_settle 183 = .ok (.iload 6, 2) := by decide +kernel
theorem d_Fi_settle_185 : decode b_Fi_settle 185 = .ok (.ifCond .ne 26, 3) := by decide +kernel
theorem d_Fi_settle_188 : decode b_Fi_settle 188 = .ok (.aload_n 0, 1) := by decide +kernel
theorem d_Fi_settle_189 : decode b_Fi_settle 189 = .ok (.getfield 47, 3) := by decide +kernel
theorem d_Fi_settle_192 : decode b_Fi_settle 192 = .ok (.aload_n 1, 1) := by decide +kernel
theorem d_Fi_settle_193 : decode b_Fi_settle 193 = .ok (.iload 5, 2) := by decide +kernel
theorem d_Fi_settle_195 : decode b_Fi_settle 195 = .ok (.iconst 0, 1) := by decide +kernel
theorem d_Fi_settle_196 : decode b_Fi_settle 196 = .ok (.aload_n 1, 1) := by decide +kernel
theorem d_Fi_settle_197 : decode b_Fi_settle 197 = .ok (.iload 5, 2) := by decide +kernel
theorem d_Fi_settle_199 : decode b_Fi_settle 199 = .ok (.bipush 11, 2) := by decide +kernel
theorem d_Fi_settle_201 : decode b_Fi_settle 201 = .ok (.invokevirtual 51, 3) := by decide +kernel
theorem d_Fi_settle_204 : decode b_Fi_settle 204 = .ok (.iconst 0, 1) := by decide +kernel
theorem d_Fi_settle_205 : decode b_Fi_settle 205 = .ok (.invokevirtual 73, 3) := by decide +kernel
theorem d_Fi_settle_208 : decode b_Fi_settle 208 = .ok (.goto 4, 3) := by decide +kernel
theorem d_Fi_settle_211 : decode b_Fi_settle 211 = .ok (.iconst 0, 1) := by decide +kernel
theorem d_Fi_settle_212 : decode b_Fi_settle 212 = .ok (.istore 8, 2) := by decide +kernel
theorem d_Fi_settle_214 : decode b_Fi_settle 214 = .ok (.iload 6, 2) := by decide +kernel
theorem d_Fi_settle_216 : decode b_Fi_settle 216 = .ok (.ifCond .ne 14, 3) := by decide +kernel
theorem d_Fi_settle_219 : decode b_Fi_settle 219 = .ok (.aload_n 0, 1) := by decide +kernel
theorem d_Fi_settle_220 : decode b_Fi_settle 220 = .ok (.aload_n 1, 1) := by decide +kernel
theorem d_Fi_settle_221 : decode b_Fi_settle 221 = .ok (.iload 5, 2) := by decide +kernel
theorem d_Fi_settle_223 : decode b_Fi_settle 223 = .ok (.iload 8, 2) := by decide +kernel
theorem d_Fi_settle_225 : decode b_Fi_settle 225 = .ok (.invokevirtual 79, 3) := by decide +kernel
theorem d_Fi_settle_228 : decode b_Fi_settle 228 = .ok (.istore 6, 2) := by decide +kernel
theorem d_Fi_settle_230 : decode b_Fi_settle 230 = .ok (.aload_n 1, 1) := by decide +kernel
theorem d_Fi_settle_231 : decode b_Fi_settle 231 = .ok (.iload 5, 2) := by decide +kernel
theorem d_Fi_settle_233 : decode b_Fi_settle 233 = .ok (.bipush 12, 2) := by decide +kernel
theorem d_Fi_settle_235 : decode b_Fi_settle 235 = .ok (.iload 6, 2) := by decide +kernel
theorem d_Fi_settle_237 : decode b_Fi_settle 237 = .ok (.invokevirtual 82, 3) := by decide +kernel
theorem d_Fi_settle_240 : decode b_Fi_settle 240 = .ok (.iinc 3 (-1), 3) := by decide +kernel
theorem d_Fi_settle_243 : decode b_Fi_settle 243 = .ok (.iinc 4 1, 3) := by decide +kernel
theorem d_Fi_settle_246 : decode b_Fi_settle 246 = .ok (.goto (-227), 3) := by decide +kernel
theorem d_Fi_settle_249 : decode b_Fi_settle 249 = .ok (.aload_n 1, 1) := by decide +kernel
theorem d_Fi_settle_250 : decode b_Fi_settle 250 = .ok (.iload_n 2, 1) := by decide +kernel
theorem d_Fi_settle_251 : decode b_Fi_settle 251 = .ok (.bipush 12, 2) := by decide +kernel
theorem d_Fi_settle_253 : decode b_Fi_settle 253 = .ok (.invokevirtual 51, 3) := by decide +kernel
theorem d_Fi_settle_256 : decode b_Fi_settle 256 = .ok (.istore 4, 2) := by decide +kernel
theorem d_Fi_settle_258 : decode b_Fi_settle 258 = .ok (.iload 4, 2) := by decide +kernel
theorem d_Fi_settle_260 : decode b_Fi_settle 260 = .ok (.iconst 1, 1) := by decide +kernel
theorem d_Fi_settle_261 : decode b_Fi_settle 261 = .ok (.if_icmp .ne 7, 3) := by decide +kernel
theorem d_Fi_settle_264 : decode b_Fi_settle 264 = .ok (.iconst 0, 1) := by decide +kernel
theorem d_Fi_settle_265 : decode b_Fi_settle 265 = .ok (.goto 5, 3) := by decide +kernel
theorem d_Fi_settle_268 : decode b_Fi_settle 268 = .ok (.iload 4, 2) := by decide +kernel
theorem d_Fi_settle_270 : decode b_Fi_settle 270 = .ok (.ireturn, 1) := by decide +kernel
abbrev ra_Fi_settle (mc ms : Nat) : Room := { frames := 7, cells := mc, slots := ms, locals := 472 }
def wja_Fi_settle_270 (mc ms : Nat) (Post : Ly → St → Int32 → Nat → Nat → Prop) (a0 : Nat) (a1 : Nat) (y_j270 : Ly) (s_j270 : St) (d_j270 e_j270 : Nat) (z0j270 : Int32) : Prop := (d_j270 ≤ mc ∧ e_j270 ≤ ms) ∧ Post y_j270 s_j270 z0j270 d_j270 e_j270
def wja_Fi_settle_249 (mc ms : Nat) (Post : Ly → St → Int32 → Nat → Nat → Prop) (a0 : Nat) (a1 : Nat) (y_j249 : Ly) (s_j249 : St) (d_j249 e_j249 : Nat) (x2j249 : Int32) : Prop := (d_j249 ≤ mc ∧ e_j249 ≤ ms) ∧ wu_Wd_of y_j249 (fun (s_4 : St) (r_3 : Int32) => ((¬ r_3 = 1 → wja_Fi_settle_270 mc ms Post a0 a1 y_j249 s_4 d_j249 e_j249 r_3) ∧ (r_3 = 1 → wja_Fi_settle_270 mc ms Post a0 a1 y_j249 s_4 d_j249 e_j249 0))) s_j249 a1 x2j249 12
def wja_Fi_settle_243 (mc ms : Nat) (Post : Ly → St → Int32 → Nat → Nat → Prop) (K_19 : Ly → St → Nat → Nat → Int32 → Int32 → Int32 → Prop) (a0 : Nat) (a1 : Nat) (y_j243 : Ly) (s_j243 : St) (d_j243 e_j243 : Nat) (x2j243 : Int32) (x3j243 : Int32) (x4j243 : Int32) : Prop := (d_j243 ≤ mc ∧ e_j243 ≤ ms) ∧ K_19 y_j243 s_j243 d_j243 e_j243 x2j243 x3j243 (x4j243 + 1)
def wja_Fi_settle_230 (mc ms : Nat) (Post : Ly → St → Int32 → Nat → Nat → Prop) (K_19 : Ly → St → Nat → Nat → Int32 → Int32 → Int32 → Prop) (a0 : Nat) (a1 : Nat) (y_j230 : Ly) (s_j230 : St) (d_j230 e_j230 : Nat) (x2j230 : Int32) (x3j230 : Int32) (x4j230 : Int32) (x5j230 : Int32) (x6j230 : Int32) : Prop := (d_j230 ≤ mc ∧ e_j230 ≤ ms) ∧ wu_Wd_set y_j230 (fun (s_9 : St) => wja_Fi_settle_243 mc ms Post K_19 a0 a1 y_j230 s_9 d_j230 e_j230 x2j230 (x3j230 + (-1)) x4j230) s_j230 a1 x5j230 12 x6j230
def wja_Fi_settle_212 (mc ms : Nat) (Post : Ly → St → Int32 → Nat → Nat → Prop) (K_19 : Ly → St → Nat → Nat → Int32 → Int32 → Int32 → Prop) (a0 : Nat) (a1 : Nat) (y_j212 : Ly) (s_j212 : St) (d_j212 e_j212 : Nat) (x2j212 : Int32) (x3j212 : Int32) (x4j212 : Int32) (x5j212 : Int32) (x6j212 : Int32) (z0j212 : Int32) : Prop := (d_j212 ≤ mc ∧ e_j212 ≤ ms) ∧ ((¬ x6j212 = 0 → wja_Fi_settle_230 mc ms Post K_19 a0 a1 y_j212 s_j212 d_j212 e_j212 x2j212 x3j212 x4j212 x5j212 x6j212) ∧ (x6j212 = 0 → ∃ mc_15 ms_16 : Nat, (d_j212 + mc_15 ≤ mc ∧ e_j212 + ms_16 ≤ ms) ∧ wa_Fi_endCheck mc_15 ms_16 y_j212 (fun (y_12 : Ly) (s_11 : St) (r_10 : Int32) (d_13 e_14 : Nat) => (d_j212 + d_13 ≤ mc ∧ e_j212 + e_14 ≤ ms) ∧ wja_Fi_settle_230 mc ms Post K_19 a0 a1 y_12 s_11 (d_j212 + d_13) (e_j212 + e_14) x2j212 x3j212 x4j212 x5j212 r_10) s_j212 a0 a1 x5j212 z0j212))
def wja_Fi_settle_181 (mc ms : Nat) (Post : Ly → St → Int32 → Nat → Nat → Prop) (K_19 : Ly → St → Nat → Nat → Int32 → Int32 → Int32 → Prop) (a0 : Nat) (a1 : Nat) (y_j181 : Ly) (s_j181 : St) (d_j181 e_j181 : Nat) (x2j181 : Int32) (x3j181 : Int32) (x4j181 : Int32) (x5j181 : Int32) (z0j181 : Int32) : Prop := (d_j181 ≤ mc ∧ e_j181 ≤ ms) ∧ ((¬ z0j181 = 0 → wja_Fi_settle_212 mc ms Post K_19 a0 a1 y_j181 s_j181 d_j181 e_j181 x2j181 x3j181 x4j181 x5j181 z0j181 0) ∧ (z0j181 = 0 → wu_Wd_of y_j181 (fun (s_19 : St) (r_18 : Int32) => wu_Ck_check y_j181 (fun (s_21 : St) (r_20 : Int32) => wja_Fi_settle_212 mc ms Post K_19 a0 a1 y_j181 s_21 d_j181 e_j181 x2j181 x3j181 x4j181 x5j181 z0j181 r_20) s_19 (lk a0 5) a1 x5j181 0 r_18 0) s_j181 a1 x5j181 11))
def wja_Fi_settle_179 (mc ms : Nat) (Post : Ly → St → Int32 → Nat → Nat → Prop) (K_19 : Ly → St → Nat → Nat → Int32 → Int32 → Int32 → Prop) (a0 : Nat) (a1 : Nat) (y_j179 : Ly) (s_j179 : St) (d_j179 e_j179 : Nat) (x2j179 : Int32) (x3j179 : Int32) (x4j179 : Int32) (x5j179 : Int32) (x6j179 : Int32) : Prop := (d_j179 ≤ mc ∧ e_j179 ≤ ms) ∧ wja_Fi_settle_181 mc ms Post K_19 a0 a1 y_j179 s_j179 d_j179 e_j179 x2j179 x3j179 x4j179 x5j179 x6j179
def wja_Fi_settle_148 (mc ms : Nat) (Post : Ly → St → Int32 → Nat → Nat → Prop) (K_19 : Ly → St → Nat → Nat → Int32 → Int32 → Int32 → Prop) (a0 : Nat) (a1 : Nat) (y_j148 : Ly) (s_j148 : St) (d_j148 e_j148 : Nat) (x2j148 : Int32) (x3j148 : Int32) (x4j148 : Int32) (x5j148 : Int32) (z0j148 : Int32) : Prop := (d_j148 ≤ mc ∧ e_j148 ≤ ms) ∧ ((¬ z0j148 = 0 → wja_Fi_settle_179 mc ms Post K_19 a0 a1 y_j148 s_j148 d_j148 e_j148 x2j148 x3j148 x4j148 x5j148 z0j148) ∧ (z0j148 = 0 → wu_Wd_asks y_j148 (fun (s_23 : St) (r_22 : Int32) => ((r_22 = 0 → wja_Fi_settle_179 mc ms Post K_19 a0 a1 y_j148 s_23 d_j148 e_j148 x2j148 x3j148 x4j148 x5j148 z0j148) ∧ (¬ (r_22 = 0) → wu_Fi_hasFinalAbove y_j148 (fun (s_25 : St) (r_24 : Int32) => ((r_24 = 0 → wja_Fi_settle_179 mc ms Post K_19 a0 a1 y_j148 s_25 d_j148 e_j148 x2j148 x3j148 x4j148 x5j148 z0j148) ∧ (¬ (r_24 = 0) → wja_Fi_settle_181 mc ms Post K_19 a0 a1 y_j148 s_25 d_j148 e_j148 x2j148 x3j148 x4j148 x5j148 2515))) s_23 a0 a1 x5j148))) s_j148 a1 4))
def wja_Fi_settle_130 (mc ms : Nat) (Post : Ly → St → Int32 → Nat → Nat → Prop) (K_19 : Ly → St → Nat → Nat → Int32 → Int32 → Int32 → Prop) (a0 : Nat) (a1 : Nat) (y_j130 : Ly) (s_j130 : St) (d_j130 e_j130 : Nat) (x2j130 : Int32) (x3j130 : Int32) (x4j130 : Int32) (x5j130 : Int32) (x6j130 : Int32) : Prop := (d_j130 ≤ mc ∧ e_j130 ≤ ms) ∧ ((¬ x6j130 = 0 → wja_Fi_settle_148 mc ms Post K_19 a0 a1 y_j130 s_j130 d_j130 e_j130 x2j130 x3j130 x4j130 x5j130 x6j130) ∧ (x6j130 = 0 → wu_Wd_of y_j130 (fun (s_27 : St) (r_26 : Int32) => wja_Fi_settle_148 mc ms Post K_19 a0 a1 y_j130 s_27 d_j130 e_j130 x2j130 x3j130 x4j130 x5j130 r_26) s_j130 a1 x5j130 12))
def wja_Fi_settle_96 (mc ms : Nat) (Post : Ly → St → Int32 → Nat → Nat → Prop) (K_19 : Ly → St → Nat → Nat → Int32 → Int32 → Int32 → Prop) (a0 : Nat) (a1 : Nat) (y_j96 : Ly) (s_j96 : St) (d_j96 e_j96 : Nat) (x2j96 : Int32) (x3j96 : Int32) (x4j96 : Int32) (x5j96 : Int32) (x6j96 : Int32) (z0j96 : Int32) : Prop := (d_j96 ≤ mc ∧ e_j96 ≤ ms) ∧ ((z0j96 < 0 → wja_Fi_settle_130 mc ms Post K_19 a0 a1 y_j96 s_j96 d_j96 e_j96 x2j96 x3j96 x4j96 x5j96 x6j96) ∧ (¬ (z0j96 < 0) → ((51 ≤ x3j96 → wja_Fi_settle_130 mc ms Post K_19 a0 a1 y_j96 s_j96 d_j96 e_j96 x2j96 x3j96 x4j96 x5j96 x6j96) ∧ (¬ (51 ≤ x3j96) → xS y_j96 s_j96 a0 6 (x3j96 + 1) z0j96 (fun s_28 : St => xS y_j96 s_28 a0 7 (x3j96 + 1) (-1) (fun s_29 : St => wja_Fi_settle_243 mc ms Post K_19 a0 a1 y_j96 s_29 d_j96 e_j96 x2j96 (x3j96 + 1) x4j96))))))
def wja_Fi_settle_79 (mc ms : Nat) (Post : Ly → St → Int32 → Nat → Nat → Prop) (K_19 : Ly → St → Nat → Nat → Int32 → Int32 → Int32 → Prop) (a0 : Nat) (a1 : Nat) (y_j79 : Ly) (s_j79 : St) (d_j79 e_j79 : Nat) (x2j79 : Int32) (x3j79 : Int32) (x4j79 : Int32) (x5j79 : Int32) (x6j79 : Int32) : Prop := (d_j79 ≤ mc ∧ e_j79 ≤ ms) ∧ ((¬ x6j79 = 0 → wja_Fi_settle_96 mc ms Post K_19 a0 a1 y_j79 s_j79 d_j79 e_j79 x2j79 x3j79 x4j79 x5j79 x6j79 (-1)) ∧ (x6j79 = 0 → wu_Fi_nextAbove y_j79 (fun (s_31 : St) (r_30 : Int32) => wja_Fi_settle_96 mc ms Post K_19 a0 a1 y_j79 s_31 d_j79 e_j79 x2j79 x3j79 x4j79 x5j79 x6j79 r_30) s_j79 a0 a1 x5j79 x3j79))
def wba_Fi_settle_19 (mc ms : Nat) (Post : Ly → St → Int32 → Nat → Nat → Prop) (K_19 : Ly → St → Nat → Nat → Int32 → Int32 → Int32 → Prop) (a0 : Nat) (a1 : Nat) (y_h19 : Ly) (s_h19 : St) (d_h19 e_h19 : Nat) (x2h19 : Int32) (x3h19 : Int32) (x4h19 : Int32) : Prop := (d_h19 ≤ mc ∧ e_h19 ≤ ms) ∧ ((2601 ≤ x4h19 → wja_Fi_settle_249 mc ms Post a0 a1 y_h19 s_h19 d_h19 e_h19 x2h19) ∧ (¬ (2601 ≤ x4h19) → ((x3h19 < 0 → wja_Fi_settle_249 mc ms Post a0 a1 y_h19 s_h19 d_h19 e_h19 x2h19) ∧ (¬ (x3h19 < 0) → xA y_h19 s_h19 a0 6 x3h19 (fun x_5 : Int32 => wu_Wd_of y_h19 (fun (s_7 : St) (r_6 : Int32) => ((¬ r_6 = 0 → wja_Fi_settle_79 mc ms Post K_19 a0 a1 y_h19 s_7 d_h19 e_h19 x2h19 x3h19 x4h19 x_5 r_6) ∧ (r_6 = 0 → xA y_h19 s_7 a0 7 x3h19 (fun x_32 : Int32 => ((0 ≤ x_32 → wja_Fi_settle_79 mc ms Post K_19 a0 a1 y_h19 s_7 d_h19 e_h19 x2h19 x3h19 x4h19 x_5 r_6) ∧ (¬ (0 ≤ x_32) → wu_Fi_headFault y_h19 (fun (s_34 : St) (r_33 : Int32) => xS y_h19 s_34 a0 7 x3h19 0 (fun s_35 : St => wja_Fi_settle_79 mc ms Post K_19 a0 a1 y_h19 s_35 d_h19 e_h19 x2h19 x3h19 x4h19 x_5 r_33)) s_7 a0 a1 x_5)))))) s_h19 a1 x_5 12)))))
def wla_Fi_settle_19 (mc ms : Nat) (Post : Ly → St → Int32 → Nat → Nat → Prop) (a0 : Nat) (a1 : Nat) (y_h19 : Ly) (s_h19 : St) (d_h19 e_h19 : Nat) (x2h19 : Int32) (x3h19 : Int32) (x4h19 : Int32) : Prop := ∃ (I : Ly → St → Nat → Nat → Int32 → Int32 → Int32 → Prop) (μ : Ly → St → Nat → Nat → Int32 → Int32 → Int32 → Nat), I y_h19 s_h19 d_h19 e_h19 x2h19 x3h19 x4h19 ∧ ∀ (u1 : Ly) (u2 : St) (u3 u4 : Nat) (t0 : Int32) (t1 : Int32) (t2 : Int32), I u1 u2 u3 u4 t0 t1 t2 → wba_Fi_settle_19 mc ms Post (fun z1 z2 z3 z4 t0q t1q t2q => I z1 z2 z3 z4 t0q t1q t2q ∧ μ z1 z2 z3 z4 t0q t1q t2q < μ u1 u2 u3 u4 t0 t1 t2) a0 a1 u1 u2 u3 u4 t0 t1 t2
def wa_Fi_settle (mc ms : Nat) (y : Ly) (Post : Ly → St → Int32 → Nat → Nat → Prop) (σ : St) (a0 : Nat) (a1 : Nat) (v2 : Int32) : Prop := xS y σ a0 6 0 v2 (fun s_1 : St => xS y s_1 a0 7 0 (-1) (fun s_2 : St => wla_Fi_settle_19 mc ms Post a0 a1 y s_2 0 0 v2 0 0))
set_option maxHeartbeats 4000000 in
set_option maxRecDepth 100000 in
theorem ca_Fi_settle (l : Launch) (D : va_G) (g : Nat → ClassId) (F : Nat → SL) (sl : List SL) (hF : SOK F sl) (ad : Nat → Nat) (mc ms : Nat) (y : Ly) (Post : Ly → St → Int32 → Nat → Nat → Prop) (σ : St) (a0 : Nat) (a1 : Nat) (v2 : Int32) (sz uz : Nat) (h_a0 : cl a0 = 1) (h_a1 : cl a1 = 9) (h : wa_Fi_settle mc ms y Post σ a0 a1 v2) : Met l y_Fi_settle (mw y_Fi_settle b_Fi_settle 9 (some .int)) (ra_Fi_settle mc ms) (PCu g D sl [.ref (ad a0), .ref (ad a1), .int v2] sz uz (ws g ad y σ)) (va_Qi (fun (r : Int32) (u : Ly × St × Nat × Nat) => Post u.1 u.2.1 r u.2.2.1 u.2.2.2) (QU D (va_A (ws g ad y σ) sz) (fun u => ws g ad u.1 u.2.1) sz uz (fun u => u.2.2.1) (fun u => u.2.2.2)) (va_A (ws g ad y σ) sz)) mc ms (va_A (ws g ad y σ) sz) := by
  refine ofIu (by decide +kernel) (Nat.le_of_ble_eq_true rfl) ?_
  intro p e s m args below meth c A Q ls H locs G hsz hP hD hS hl hret
  subst hsz
  have hl : lv_has ls 9 [(0, .ref (ad a0)), (1, .ref (ad a1)), (2, .int v2)] := hl
  have hd : 0 ≤ mc ∧ 0 ≤ ms := ⟨Nat.zero_le _, Nat.zero_le _⟩
  unfold wa_Fi_settle at h
  refine lv_iconst (v := 0) G.1 G.2.1 d_Fi_settle_0 (by decide) ?_
  refine lv_istore_n (lv' := [(3, .int 0), (0, .ref (ad a0)), (1, .ref (ad a1)), (2, .int v2)]) G.1 G.2.1 d_Fi_settle_1 rfl hl (by decide) rfl (fun ls hl => ?_)
  refine lv_aload_n G.1 G.2.1 d_Fi_settle_2 rfl (lv_at hl 1 rfl) ?_
  refine ugf (v := .ref (yP y a0 6)) G hP h_a0 iFi rfl 6 (by decide) rfl q738 rfl rfl d_Fi_settle_3 ?_
  refine lv_iconst (v := 0) G.1 G.2.1 d_Fi_settle_6 (by decide) ?_
  refine lv_iload_n G.1 G.2.1 d_Fi_settle_7 rfl (lv_at hl 3 rfl) ?_
  refine uiast G hP hD hS (kdp h_a0 rfl) (typ h_a0 rfl) h d_Fi_settle_8 (fun s_1 H locs h hP hD hS => ?_)
  refine lv_aload_n G.1 G.2.1 d_Fi_settle_9 rfl (lv_at hl 1 rfl) ?_
  refine ugf (v := .ref (yP y a0 7)) G hP h_a0 iFi rfl 7 (by decide) rfl q739 rfl rfl d_Fi_settle_10 ?_
  refine lv_iconst (v := 0) G.1 G.2.1 d_Fi_settle_13 (by decide) ?_
  refine lv_iconst (v := (-1)) G.1 G.2.1 d_Fi_settle_14 (by decide) ?_
  refine W.eq (g2 := F0 m 15 ls [.int (-1), .int 0, .ref (yP y a0 7)]) rfl ?_
  refine uiast G hP hD hS (kdp h_a0 rfl) (typ h_a0 rfl) h d_Fi_settle_15 (fun s_2 H locs h hP hD hS => ?_)
  refine lv_iconst (v := 0) G.1 G.2.1 d_Fi_settle_16 (by decide) ?_
  refine lv_istore (lv' := [(4, .int 0), (3, .int 0), (0, .ref (ad a0)), (1, .ref (ad a1)), (2, .int v2)]) G.1 G.2.1 d_Fi_settle_17 hl (by decide) rfl (fun ls hl => ?_)
  unfold wla_Fi_settle_19 at h
  obtain ⟨I_19, μ_19, hI_19, hB_19⟩ := h
  have L_19 : ∀ (n_19 : Nat) (y_h19 : Ly) (s_h19 : St) (d_h19 e_h19 : Nat) (x2h19 : Int32) (x3h19 : Int32) (x4h19 : Int32), μ_19 y_h19 s_h19 d_h19 e_h19 x2h19 x3h19 x4h19 < n_19 → I_19 y_h19 s_h19 d_h19 e_h19 x2h19 x3h19 x4h19 → ∀ (H : Heap) (locs : List Loc), va_P D CL (ws g ad y_h19 s_h19) H → va_D A (ws g ad y_h19 s_h19) → va_S A s.heap H locs → ∀ ls, lv_has ls 9 [(0, .ref (ad a0)), (1, .ref (ad a1)), (2, .int x2h19), (3, .int x3h19), (4, .int x4h19)] → W p l e (ra_Fi_settle mc ms) s m args below meth c H locs d_h19 e_h19 Q (F0 m 19 ls []) := by
    intro n_19
    induction n_19 with
    | zero => intro y_h19 s_h19 d_h19 e_h19 x2h19 x3h19 x4h19 hμ; exact absurd hμ (Nat.not_lt_zero _)
    | succ n_19 ih_19 =>
      intro y_h19 s_h19 d_h19 e_h19 x2h19 x3h19 x4h19 hμ_19 hJ H locs hP hD hS ls hl
      obtain ⟨K_19, hK_19, h⟩ : ∃ K : Ly → St → Nat → Nat → Int32 → Int32 → Int32 → Prop, (∀ z1 z2 z3 z4 (t0 : Int32) (t1 : Int32) (t2 : Int32), K z1 z2 z3 z4 t0 t1 t2 → I_19 z1 z2 z3 z4 t0 t1 t2 ∧ μ_19 z1 z2 z3 z4 t0 t1 t2 < μ_19 y_h19 s_h19 d_h19 e_h19 x2h19 x3h19 x4h19) ∧ wba_Fi_settle_19 mc ms Post K a0 a1 y_h19 s_h19 d_h19 e_h19 x2h19 x3h19 x4h19 := ⟨_, fun _ _ _ _ _ _ _ h => h, hB_19 y_h19 s_h19 d_h19 e_h19 x2h19 x3h19 x4h19 hJ⟩
      unfold wba_Fi_settle_19 at h
      obtain ⟨hd, h⟩ := h
      refine lv_iload G.1 G.2.1 d_Fi_settle_19 (lv_at hl 4 rfl) ?_
      refine lv_sipush (v := 2601) G.1 G.2.1 d_Fi_settle_21 (by decide) ?_
      have J_249 : ∀ (y_j249 : Ly) (s_j249 : St) (d_j249 e_j249 : Nat) (x2j249 : Int32) (H : Heap) (locs : List Loc), wja_Fi_settle_249 mc ms Post a0 a1 y_j249 s_j249 d_j249 e_j249 x2j249 → va_P D CL (ws g ad y_j249 s_j249) H → va_D A (ws g ad y_j249 s_j249) → va_S A s.heap H locs → ∀ ls, lv_has ls 9 [(1, .ref (ad a1)), (2, .int x2j249)] → W p l e (ra_Fi_settle mc ms) s m args below meth c H locs d_j249 e_j249 Q (F0 m 249 ls []) := by
        intro y_j249 s_j249 d_j249 e_j249 x2j249 H locs h hP hD hS ls hl
        unfold wja_Fi_settle_249 at h
        obtain ⟨hd, h⟩ := h
        refine lv_aload_n G.1 G.2.1 d_Fi_settle_249 rfl (lv_at hl 0 rfl) ?_
        refine lv_iload_n G.1 G.2.1 d_Fi_settle_250 rfl (lv_at hl 1 rfl) ?_
        refine lv_bipush (v := 12) G.1 G.2.1 d_Fi_settle_251 (by decide) ?_
        refine ucVi (As := [.int x2j249, .int 12]) (rest := []) G hP hD hS (cu_Wd_of l D g ad y_j249 _ s_j249 a1 x2j249 12 H.size h_a1 h) w9_Wd_of q1532 ⟨Nat.le_of_ble_eq_true rfl, Nat.le_of_ble_eq_true rfl⟩ rfl rfl h_a1 (q := (RWd, TWd, 17)) rfl rfl hl.1 rfl (Nat.le_of_ble_eq_true rfl) rfl hd d_Fi_settle_253 (fun r_3 s_4 H locs h hP hD hS => ?_)
        refine lv_istore (lv' := [(4, .int r_3), (1, .ref (ad a1)), (2, .int x2j249)]) G.1 G.2.1 d_Fi_settle_256 hl (by decide) rfl (fun ls hl => ?_)
        refine lv_iload G.1 G.2.1 d_Fi_settle_258 (lv_at hl 0 rfl) ?_
        refine lv_iconst (v := 1) G.1 G.2.1 d_Fi_settle_260 (by decide) ?_
        have J_270 : ∀ (y_j270 : Ly) (s_j270 : St) (d_j270 e_j270 : Nat) (z0j270 : Int32) (H : Heap) (locs : List Loc), wja_Fi_settle_270 mc ms Post a0 a1 y_j270 s_j270 d_j270 e_j270 z0j270 → va_P D CL (ws g ad y_j270 s_j270) H → va_D A (ws g ad y_j270 s_j270) → va_S A s.heap H locs → ∀ ls, lv_has ls 9 [] → W p l e (ra_Fi_settle mc ms) s m args below meth c H locs d_j270 e_j270 Q (F0 m 270 ls [.int z0j270]) := by
          intro y_j270 s_j270 d_j270 e_j270 z0j270 H locs h hP hD hS ls hl
          unfold wja_Fi_settle_270 at h
          obtain ⟨hd, h⟩ := h
          exact hret _ (y_j270, s_j270, d_j270, e_j270) _ _ _ _ _ ls h hP hD hS (Nat.le_refl _) (Nat.le_refl _) hd.1 hd.2 d_Fi_settle_270
        refine lv_icmp_ne (tgt := 268) G.1 G.2.1 d_Fi_settle_261 (by decide) (fun c261 => ?_) (fun c261 => ?_)
        · skip
          have h := h.1 c261
          refine lv_iload G.1 G.2.1 d_Fi_settle_268 (lv_at hl 0 rfl) ?_
          exact J_270 y_j249 s_4 d_j249 e_j249 r_3 H locs h hP hD hS ls (lv_sub hl [] rfl)
        · skip
          have h := h.2 c261
          refine lv_iconst (v := 0) G.1 G.2.1 d_Fi_settle_264 (by decide) ?_
          refine lv_goto (tgt := 270) G.1 G.2.1 d_Fi_settle_265 (by decide) ?_
          exact J_270 y_j249 s_4 d_j249 e_j249 0 H locs h hP hD hS ls (lv_sub hl [] rfl)
      refine lv_icmp_ge (tgt := 249) G.1 G.2.1 d_Fi_settle_24 (by decide) (fun c24 => ?_) (fun c24 => ?_)
      · skip
        have h := h.1 c24
        exact J_249 y_h19 s_h19 d_h19 e_h19 x2h19 H locs h hP hD hS ls (lv_sub hl [1, 2] rfl)
      · skip
        have h := h.2 c24
        refine lv_iload_n G.1 G.2.1 d_Fi_settle_27 rfl (lv_at hl 3 rfl) ?_
        refine lv_if_lt (tgt := 249) G.1 G.2.1 d_Fi_settle_28 (by decide) (fun c28 => ?_) (fun c28 => ?_)
        · skip
          have h := h.1 c28
          exact J_249 y_h19 s_h19 d_h19 e_h19 x2h19 H locs h hP hD hS ls (lv_sub hl [1, 2] rfl)
        · skip
          have h := h.2 c28
          refine lv_aload_n G.1 G.2.1 d_Fi_settle_31 rfl (lv_at hl 0 rfl) ?_
          refine ugf (v := .ref (yP y_h19 a0 6)) G hP h_a0 iFi rfl 6 (by decide) rfl q738 rfl rfl d_Fi_settle_32 ?_
          refine lv_iload_n G.1 G.2.1 d_Fi_settle_35 rfl (lv_at hl 3 rfl) ?_
          refine uiald G hP (kdp h_a0 rfl) (typ h_a0 rfl) h d_Fi_settle_36 (fun x_5 h => ?_)
          refine lv_istore (lv' := [(5, .int x_5), (0, .ref (ad a0)), (1, .ref (ad a1)), (2, .int x2h19), (3, .int x3h19), (4, .int x4h19)]) G.1 G.2.1 d_Fi_settle_37 hl (by decide) rfl (fun ls hl => ?_)
          refine lv_aload_n G.1 G.2.1 d_Fi_settle_39 rfl (lv_at hl 2 rfl) ?_
          refine W.eq (g2 := F0 m 40 ls [.ref (ad a1)]) rfl ?_
          refine lv_iload G.1 G.2.1 d_Fi_settle_40 (lv_at hl 0 rfl) ?_
          refine lv_bipush (v := 12) G.1 G.2.1 d_Fi_settle_42 (by decide) ?_
          refine ucVi (As := [.int x_5, .int 12]) (rest := []) G hP hD hS (cu_Wd_of l D g ad y_h19 _ s_h19 a1 x_5 12 H.size h_a1 h) w9_Wd_of q1532 ⟨Nat.le_of_ble_eq_true rfl, Nat.le_of_ble_eq_true rfl⟩ rfl rfl h_a1 (q := (RWd, TWd, 17)) rfl rfl hl.1 rfl (Nat.le_of_ble_eq_true rfl) rfl hd d_Fi_settle_44 (fun r_6 s_7 H locs h hP hD hS => ?_)
          refine lv_istore (lv' := [(6, .int r_6), (5, .int x_5), (0, .ref (ad a0)), (1, .ref (ad a1)), (2, .int x2h19), (3, .int x3h19), (4, .int x4h19)]) G.1 G.2.1 d_Fi_settle_47 hl (by decide) rfl (fun ls hl => ?_)
          refine lv_iload G.1 G.2.1 d_Fi_settle_49 (lv_at hl 0 rfl) ?_
          have J_79 : ∀ (y_j79 : Ly) (s_j79 : St) (d_j79 e_j79 : Nat) (x2j79 : Int32) (x3j79 : Int32) (x4j79 : Int32) (x5j79 : Int32) (x6j79 : Int32) (H : Heap) (locs : List Loc), wja_Fi_settle_79 mc ms Post K_19 a0 a1 y_j79 s_j79 d_j79 e_j79 x2j79 x3j79 x4j79 x5j79 x6j79 → va_P D CL (ws g ad y_j79 s_j79) H → va_D A (ws g ad y_j79 s_j79) → va_S A s.heap H locs → ∀ ls, lv_has ls 9 [(0, .ref (ad a0)), (1, .ref (ad a1)), (2, .int x2j79), (3, .int x3j79), (4, .int x4j79), (5, .int x5j79), (6, .int x6j79)] → W p l e (ra_Fi_settle mc ms) s m args below meth c H locs d_j79 e_j79 Q (F0 m 79 ls []) := by
            intro y_j79 s_j79 d_j79 e_j79 x2j79 x3j79 x4j79 x5j79 x6j79 H locs h hP hD hS ls hl
            unfold wja_Fi_settle_79 at h
            obtain ⟨hd, h⟩ := h
            refine lv_iload G.1 G.2.1 d_Fi_settle_79 (lv_at hl 6 rfl) ?_
            have J_96 : ∀ (y_j96 : Ly) (s_j96 : St) (d_j96 e_j96 : Nat) (x2j96 : Int32) (x3j96 : Int32) (x4j96 : Int32) (x5j96 : Int32) (x6j96 : Int32) (z0j96 : Int32) (H : Heap) (locs : List Loc), wja_Fi_settle_96 mc ms Post K_19 a0 a1 y_j96 s_j96 d_j96 e_j96 x2j96 x3j96 x4j96 x5j96 x6j96 z0j96 → va_P D CL (ws g ad y_j96 s_j96) H → va_D A (ws g ad y_j96 s_j96) → va_S A s.heap H locs → ∀ ls, lv_has ls 9 [(0, .ref (ad a0)), (1, .ref (ad a1)), (2, .int x2j96), (3, .int x3j96), (4, .int x4j96), (5, .int x5j96), (6, .int x6j96)] → W p l e (ra_Fi_settle mc ms) s m args below meth c H locs d_j96 e_j96 Q (F0 m 96 ls [.int z0j96]) := by
              intro y_j96 s_j96 d_j96 e_j96 x2j96 x3j96 x4j96 x5j96 x6j96 z0j96 H locs h hP hD hS ls hl
              unfold wja_Fi_settle_96 at h
              obtain ⟨hd, h⟩ := h
              refine lv_istore (lv' := [(7, .int z0j96), (0, .ref (ad a0)), (1, .ref (ad a1)), (2, .int x2j96), (3, .int x3j96), (4, .int x4j96), (5, .int x5j96), (6, .int x6j96)]) G.1 G.2.1 d_Fi_settle_96 hl (by decide) rfl (fun ls hl => ?_)
              refine lv_iload G.1 G.2.1 d_Fi_settle_98 (lv_at hl 0 rfl) ?_
              have J_243 : ∀ (y_j243 : Ly) (s_j243 : St) (d_j243 e_j243 : Nat) (x2j243 : Int32) (x3j243 : Int32) (x4j243 : Int32) (H : Heap) (locs : List Loc), wja_Fi_settle_243 mc ms Post K_19 a0 a1 y_j243 s_j243 d_j243 e_j243 x2j243 x3j243 x4j243 → va_P D CL (ws g ad y_j243 s_j243) H → va_D A (ws g ad y_j243 s_j243) → va_S A s.heap H locs → ∀ ls, lv_has ls 9 [(0, .ref (ad a0)), (1, .ref (ad a1)), (2, .int x2j243), (3, .int x3j243), (4, .int x4j243)] → W p l e (ra_Fi_settle mc ms) s m args below meth c H locs d_j243 e_j243 Q (F0 m 243 ls []) := by
                intro y_j243 s_j243 d_j243 e_j243 x2j243 x3j243 x4j243 H locs h hP hD hS ls hl
                unfold wja_Fi_settle_243 at h
                obtain ⟨hd, h⟩ := h
                refine lv_iinc (v := x4j243 + 1) (lv' := [(4, .int (x4j243 + 1)), (0, .ref (ad a0)), (1, .ref (ad a1)), (2, .int x2j243), (3, .int x3j243)]) G.1 G.2.1 d_Fi_settle_243 hl (k := 4) rfl rfl (by decide) rfl (fun ls hl => ?_)
                refine lv_goto (tgt := 19) G.1 G.2.1 d_Fi_settle_246 (by decide) ?_
                have h := hK_19 y_j243 s_j243 d_j243 e_j243 x2j243 x3j243 (x4j243 + 1) h
                exact ih_19 y_j243 s_j243 d_j243 e_j243 x2j243 x3j243 (x4j243 + 1) (Nat.lt_of_lt_of_le h.2 (Nat.le_of_lt_succ hμ_19)) h.1 H locs hP hD hS ls (lv_sub hl [1, 2, 3, 4, 0] rfl)
              have J_130 : ∀ (y_j130 : Ly) (s_j130 : St) (d_j130 e_j130 : Nat) (x2j130 : Int32) (x3j130 : Int32) (x4j130 : Int32) (x5j130 : Int32) (x6j130 : Int32) (H : Heap) (locs : List Loc), wja_Fi_settle_130 mc ms Post K_19 a0 a1 y_j130 s_j130 d_j130 e_j130 x2j130 x3j130 x4j130 x5j130 x6j130 → va_P D CL (ws g ad y_j130 s_j130) H → va_D A (ws g ad y_j130 s_j130) → va_S A s.heap H locs → ∀ ls, lv_has ls 9 [(0, .ref (ad a0)), (1, .ref (ad a1)), (2, .int x2j130), (3, .int x3j130), (4, .int x4j130), (5, .int x5j130), (6, .int x6j130)] → W p l e (ra_Fi_settle mc ms) s m args below meth c H locs d_j130 e_j130 Q (F0 m 130 ls []) := by
                intro y_j130 s_j130 d_j130 e_j130 x2j130 x3j130 x4j130 x5j130 x6j130 H locs h hP hD hS ls hl
                unfold wja_Fi_settle_130 at h
                obtain ⟨hd, h⟩ := h
                refine lv_iload G.1 G.2.1 d_Fi_settle_130 (lv_at hl 6 rfl) ?_
                have J_148 : ∀ (y_j148 : Ly) (s_j148 : St) (d_j148 e_j148 : Nat) (x2j148 : Int32) (x3j148 : Int32) (x4j148 : Int32) (x5j148 : Int32) (z0j148 : Int32) (H : Heap) (locs : List Loc), wja_Fi_settle_148 mc ms Post K_19 a0 a1 y_j148 s_j148 d_j148 e_j148 x2j148 x3j148 x4j148 x5j148 z0j148 → va_P D CL (ws g ad y_j148 s_j148) H → va_D A (ws g ad y_j148 s_j148) → va_S A s.heap H locs → ∀ ls, lv_has ls 9 [(0, .ref (ad a0)), (1, .ref (ad a1)), (2, .int x2j148), (3, .int x3j148), (4, .int x4j148), (5, .int x5j148)] → W p l e (ra_Fi_settle mc ms) s m args below meth c H locs d_j148 e_j148 Q (F0 m 148 ls [.int z0j148]) := by
                  intro y_j148 s_j148 d_j148 e_j148 x2j148 x3j148 x4j148 x5j148 z0j148 H locs h hP hD hS ls hl
                  unfold wja_Fi_settle_148 at h
                  obtain ⟨hd, h⟩ := h
                  refine lv_istore (lv' := [(6, .int z0j148), (0, .ref (ad a0)), (1, .ref (ad a1)), (2, .int x2j148), (3, .int x3j148), (4, .int x4j148), (5, .int x5j148)]) G.1 G.2.1 d_Fi_settle_148 hl (by decide) rfl (fun ls hl => ?_)
                  refine lv_iload G.1 G.2.1 d_Fi_settle_150 (lv_at hl 0 rfl) ?_
                  have J_181 : ∀ (y_j181 : Ly) (s_j181 : St) (d_j181 e_j181 : Nat) (x2j181 : Int32) (x3j181 : Int32) (x4j181 : Int32) (x5j181 : Int32) (z0j181 : Int32) (H : Heap) (locs : List Loc), wja_Fi_settle_181 mc ms Post K_19 a0 a1 y_j181 s_j181 d_j181 e_j181 x2j181 x3j181 x4j181 x5j181 z0j181 → va_P D CL (ws g ad y_j181 s_j181) H → va_D A (ws g ad y_j181 s_j181) → va_S A s.heap H locs → ∀ ls, lv_has ls 9 [(0, .ref (ad a0)), (1, .ref (ad a1)), (2, .int x2j181), (3, .int x3j181), (4, .int x4j181), (5, .int x5j181)] → W p l e (ra_Fi_settle mc ms) s m args below meth c H locs d_j181 e_j181 Q (F0 m 181 ls [.int z0j181]) := by
                    intro y_j181 s_j181 d_j181 e_j181 x2j181 x3j181 x4j181 x5j181 z0j181 H locs h hP hD hS ls hl
                    unfold wja_Fi_settle_181 at h
                    obtain ⟨hd, h⟩ := h
                    refine lv_istore (lv' := [(6, .int z0j181), (0, .ref (ad a0)), (1, .ref (ad a1)), (2, .int x2j181), (3, .int x3j181), (4, .int x4j181), (5, .int x5j181)]) G.1 G.2.1 d_Fi_settle_181 hl (by decide) rfl (fun ls hl => ?_)
                    refine lv_iload G.1 G.2.1 d_Fi_settle_183 (lv_at hl 0 rfl) ?_
                    have J_212 : ∀ (y_j212 : Ly) (s_j212 : St) (d_j212 e_j212 : Nat) (x2j212 : Int32) (x3j212 : Int32) (x4j212 : Int32) (x5j212 : Int32) (x6j212 : Int32) (z0j212 : Int32) (H : Heap) (locs : List Loc), wja_Fi_settle_212 mc ms Post K_19 a0 a1 y_j212 s_j212 d_j212 e_j212 x2j212 x3j212 x4j212 x5j212 x6j212 z0j212 → va_P D CL (ws g ad y_j212 s_j212) H → va_D A (ws g ad y_j212 s_j212) → va_S A s.heap H locs → ∀ ls, lv_has ls 9 [(0, .ref (ad a0)), (1, .ref (ad a1)), (2, .int x2j212), (3, .int x3j212), (4, .int x4j212), (5, .int x5j212), (6, .int x6j212)] → W p l e (ra_Fi_settle mc ms) s m args below meth c H locs d_j212 e_j212 Q (F0 m 212 ls [.int z0j212]) := by
                      intro y_j212 s_j212 d_j212 e_j212 x2j212 x3j212 x4j212 x5j212 x6j212 z0j212 H locs h hP hD hS ls hl
                      unfold wja_Fi_settle_212 at h
                      obtain ⟨hd, h⟩ := h
                      refine lv_istore (lv' := [(8, .int z0j212), (0, .ref (ad a0)), (1, .ref (ad a1)), (2, .int x2j212), (3, .int x3j212), (4, .int x4j212), (5, .int x5j212), (6, .int x6j212)]) G.1 G.2.1 d_Fi_settle_212 hl (by decide) rfl (fun ls hl => ?_)
                      refine lv_iload G.1 G.2.1 d_Fi_settle_214 (lv_at hl 7 rfl) ?_
                      have J_230 : ∀ (y_j230 : Ly) (s_j230 : St) (d_j230 e_j230 : Nat) (x2j230 : Int32) (x3j230 : Int32) (x4j230 : Int32) (x5j230 : Int32) (x6j230 : Int32) (H : Heap) (locs : List Loc), wja_Fi_settle_230 mc ms Post K_19 a0 a1 y_j230 s_j230 d_j230 e_j230 x2j230 x3j230 x4j230 x5j230 x6j230 → va_P D CL (ws g ad y_j230 s_j230) H → va_D A (ws g ad y_j230 s_j230) → va_S A s.heap H locs → ∀ ls, lv_has ls 9 [(0, .ref (ad a0)), (1, .ref (ad a1)), (2, .int x2j230), (3, .int x3j230), (4, .int x4j230), (5, .int x5j230), (6, .int x6j230)] → W p l e (ra_Fi_settle mc ms) s m args below meth c H locs d_j230 e_j230 Q (F0 m 230 ls []) := by
                        intro y_j230 s_j230 d_j230 e_j230 x2j230 x3j230 x4j230 x5j230 x6j230 H locs h hP hD hS ls hl
                        unfold wja_Fi_settle_230 at h
                        obtain ⟨hd, h⟩ := h
                        refine lv_aload_n G.1 G.2.1 d_Fi_settle_230 rfl (lv_at hl 1 rfl) ?_
                        refine lv_iload G.1 G.2.1 d_Fi_settle_231 (lv_at hl 5 rfl) ?_
                        refine lv_bipush (v := 12) G.1 G.2.1 d_Fi_settle_233 (by decide) ?_
                        refine lv_iload G.1 G.2.1 d_Fi_settle_235 (lv_at hl 6 rfl) ?_
                        refine ucVv (As := [.int x5j230, .int 12, .int x6j230]) (rest := []) G hP hD hS (cu_Wd_set l D g ad y_j230 _ s_j230 a1 x5j230 12 x6j230 H.size h_a1 h) w9_Wd_set q1563 ⟨Nat.le_of_ble_eq_true rfl, Nat.le_of_ble_eq_true rfl⟩ rfl rfl h_a1 (q := (RWd, TWd, 17)) rfl rfl hl.1 rfl (Nat.le_of_ble_eq_true rfl) rfl hd d_Fi_settle_237 (fun s_9 H locs h hP hD hS => ?_)
                        refine lv_iinc (v := x3j230 + (-1)) (lv' := [(3, .int (x3j230 + (-1))), (0, .ref (ad a0)), (1, .ref (ad a1)), (2, .int x2j230), (4, .int x4j230), (5, .int x5j230), (6, .int x6j230)]) G.1 G.2.1 d_Fi_settle_240 hl (k := 3) rfl rfl (by decide) rfl (fun ls hl => ?_)
                        exact J_243 y_j230 s_9 d_j230 e_j230 x2j230 (x3j230 + (-1)) x4j230 H locs h hP hD hS ls (lv_sub hl [1, 2, 3, 0, 4] rfl)
                      refine lv_if_ne (tgt := 230) G.1 G.2.1 d_Fi_settle_216 (by decide) (fun c216 => ?_) (fun c216 => ?_)
                      · skip
                        have h := h.1 c216
                        exact J_230 y_j212 s_j212 d_j212 e_j212 x2j212 x3j212 x4j212 x5j212 x6j212 H locs h hP hD hS ls (lv_sub hl [1, 2, 3, 4, 5, 6, 7] rfl)
                      · skip
                        have h := h.2 c216
                        refine lv_aload_n G.1 G.2.1 d_Fi_settle_219 rfl (lv_at hl 1 rfl) ?_
                        refine lv_aload_n G.1 G.2.1 d_Fi_settle_220 rfl (lv_at hl 2 rfl) ?_
                        refine lv_iload G.1 G.2.1 d_Fi_settle_221 (lv_at hl 6 rfl) ?_
                        refine lv_iload G.1 G.2.1 d_Fi_settle_223 (lv_at hl 0 rfl) ?_
                        obtain ⟨mc_15, ms_16, hr_17, h⟩ := h
                        refine uaVi (As := [.ref (ad a1), .int x5j212, .int z0j212]) (rest := []) G hP hD hS (ca_Fi_endCheck l D g ad mc_15 ms_16 y_j212 _ s_j212 a0 a1 x5j212 z0j212 H.size (us H) h_a0 h_a1 h) w9_Fi_endCheck q1700 ⟨Nat.le_of_ble_eq_true rfl, Nat.le_of_ble_eq_true rfl⟩ rfl rfl h_a0 (q := (RFi, TFi, 10)) rfl rfl hl.1 rfl (Nat.le_of_ble_eq_true rfl) rfl hr_17 d_Fi_settle_225 (fun r_10 y_12 s_11 d_13 e_14 H locs h hP hD hS => ?_)
                        have hl := lv_sub (l' := [(0, .ref (ad a0)), (1, .ref (ad a1)), (2, .int x2j212), (3, .int x3j212), (4, .int x4j212), (5, .int x5j212)]) hl [1, 2, 3, 4, 5, 6] rfl
                        obtain ⟨hd, h⟩ := h
                        refine lv_istore (lv' := [(6, .int r_10), (0, .ref (ad a0)), (1, .ref (ad a1)), (2, .int x2j212), (3, .int x3j212), (4, .int x4j212), (5, .int x5j212)]) G.1 G.2.1 d_Fi_settle_228 hl (by decide) rfl (fun ls hl => ?_)
                        exact J_230 y_12 s_11 (d_j212 + d_13) (e_j212 + e_14) x2j212 x3j212 x4j212 x5j212 r_10 H locs h hP hD hS ls (lv_sub hl [1, 2, 3, 4, 5, 6, 0] rfl)
                    refine lv_if_ne (tgt := 211) G.1 G.2.1 d_Fi_settle_185 (by decide) (fun c185 => ?_) (fun c185 => ?_)
                    · skip
                      have h := h.1 c185
                      refine lv_iconst (v := 0) G.1 G.2.1 d_Fi_settle_211 (by decide) ?_
                      exact J_212 y_j181 s_j181 d_j181 e_j181 x2j181 x3j181 x4j181 x5j181 z0j181 0 H locs h hP hD hS ls (lv_sub hl [1, 2, 3, 4, 5, 6, 0] rfl)
                    · skip
                      have h := h.2 c185
                      refine lv_aload_n G.1 G.2.1 d_Fi_settle_188 rfl (lv_at hl 1 rfl) ?_
                      refine ugf (v := .ref (ad (lk a0 5))) G hP h_a0 iFi rfl 5 (by decide) rfl q737 rfl rfl d_Fi_settle_189 ?_
                      refine lv_aload_n G.1 G.2.1 d_Fi_settle_192 rfl (lv_at hl 2 rfl) ?_
                      refine lv_iload G.1 G.2.1 d_Fi_settle_193 (lv_at hl 6 rfl) ?_
                      refine lv_iconst (v := 0) G.1 G.2.1 d_Fi_settle_195 (by decide) ?_
                      refine lv_aload_n G.1 G.2.1 d_Fi_settle_196 rfl (lv_at hl 2 rfl) ?_
                      refine lv_iload G.1 G.2.1 d_Fi_settle_197 (lv_at hl 6 rfl) ?_
                      refine lv_bipush (v := 11) G.1 G.2.1 d_Fi_settle_199 (by decide) ?_
                      refine W.eq (g2 := F0 m 201 ls [.int 11, .int x5j181, .ref (ad a1), .int 0, .int x5j181, .ref (ad a1), .ref (ad (lk a0 5))]) rfl ?_
                      refine ucVi (As := [.int x5j181, .int 11]) (rest := [.int 0, .int x5j181, .ref (ad a1), .ref (ad (lk a0 5))]) G hP hD hS (cu_Wd_of l D g ad y_j181 _ s_j181 a1 x5j181 11 H.size h_a1 h) w9_Wd_of q1532 ⟨Nat.le_of_ble_eq_true rfl, Nat.le_of_ble_eq_true rfl⟩ rfl rfl h_a1 (q := (RWd, TWd, 17)) rfl rfl hl.1 rfl (Nat.le_of_ble_eq_true rfl) rfl hd d_Fi_settle_201 (fun r_18 s_19 H locs h hP hD hS => ?_)
                      refine lv_iconst (v := 0) G.1 G.2.1 d_Fi_settle_204 (by decide) ?_
                      refine usVi (As := [.ref (ad a1), .int x5j181, .int 0, .int r_18, .int 0]) (rest := []) G hP hD hS (cu_Ck_check l D g F sl hF ad y_j181 _ s_19 (lk a0 5) a1 x5j181 0 r_18 0 H.size (lk_1_5 h_a0) h_a1 h) w9_Ck_check q1572 ⟨Nat.le_of_ble_eq_true rfl, Nat.le_of_ble_eq_true rfl⟩ rfl rfl (lk_1_5 h_a0) (q := (RCk, TCk, 22)) rfl rfl hl.1 rfl (Nat.le_of_ble_eq_true rfl) rfl hd d_Fi_settle_205 (fun r_20 s_21 H locs h hP hD hS => ?_)
                      refine lv_goto (tgt := 212) G.1 G.2.1 d_Fi_settle_208 (by decide) ?_
                      exact J_212 y_j181 s_21 d_j181 e_j181 x2j181 x3j181 x4j181 x5j181 z0j181 r_20 H locs h hP hD hS ls (lv_sub hl [1, 2, 3, 4, 5, 6, 0] rfl)
                  have J_179 : ∀ (y_j179 : Ly) (s_j179 : St) (d_j179 e_j179 : Nat) (x2j179 : Int32) (x3j179 : Int32) (x4j179 : Int32) (x5j179 : Int32) (x6j179 : Int32) (H : Heap) (locs : List Loc), wja_Fi_settle_179 mc ms Post K_19 a0 a1 y_j179 s_j179 d_j179 e_j179 x2j179 x3j179 x4j179 x5j179 x6j179 → va_P D CL (ws g ad y_j179 s_j179) H → va_D A (ws g ad y_j179 s_j179) → va_S A s.heap H locs → ∀ ls, lv_has ls 9 [(0, .ref (ad a0)), (1, .ref (ad a1)), (2, .int x2j179), (3, .int x3j179), (4, .int x4j179), (5, .int x5j179), (6, .int x6j179)] → W p l e (ra_Fi_settle mc ms) s m args below meth c H locs d_j179 e_j179 Q (F0 m 179 ls []) := by
                    intro y_j179 s_j179 d_j179 e_j179 x2j179 x3j179 x4j179 x5j179 x6j179 H locs h hP hD hS ls hl
                    unfold wja_Fi_settle_179 at h
                    obtain ⟨hd, h⟩ := h
                    refine lv_iload G.1 G.2.1 d_Fi_settle_179 (lv_at hl 6 rfl) ?_
                    exact J_181 y_j179 s_j179 d_j179 e_j179 x2j179 x3j179 x4j179 x5j179 x6j179 H locs h hP hD hS ls (lv_sub hl [0, 1, 2, 3, 4, 5] rfl)
                  refine lv_if_ne (tgt := 179) G.1 G.2.1 d_Fi_settle_152 (by decide) (fun c152 => ?_) (fun c152 => ?_)
                  · skip
                    have h := h.1 c152
                    exact J_179 y_j148 s_j148 d_j148 e_j148 x2j148 x3j148 x4j148 x5j148 z0j148 H locs h hP hD hS ls (lv_sub hl [1, 2, 3, 4, 5, 6, 0] rfl)
                  · skip
                    have h := h.2 c152
                    refine lv_aload_n G.1 G.2.1 d_Fi_settle_155 rfl (lv_at hl 2 rfl) ?_
                    refine lv_iconst (v := 4) G.1 G.2.1 d_Fi_settle_156 (by decide) ?_
                    refine ucVi (As := [.int 4]) (rest := []) G hP hD hS (cu_Wd_asks l D g ad y_j148 _ s_j148 a1 4 H.size h_a1 h) w9_Wd_asks q1556 ⟨Nat.le_of_ble_eq_true rfl, Nat.le_of_ble_eq_true rfl⟩ rfl rfl h_a1 (q := (RWd, TWd, 17)) rfl rfl hl.1 rfl (Nat.le_of_ble_eq_true rfl) rfl hd d_Fi_settle_157 (fun r_22 s_23 H locs h hP hD hS => ?_)
                    refine lv_if_eq (tgt := 179) G.1 G.2.1 d_Fi_settle_160 (by decide) (fun c160 => ?_) (fun c160 => ?_)
                    · skip
                      have h := h.1 c160
                      exact J_179 y_j148 s_23 d_j148 e_j148 x2j148 x3j148 x4j148 x5j148 z0j148 H locs h hP hD hS ls (lv_sub hl [1, 2, 3, 4, 5, 6, 0] rfl)
                    · skip
                      have h := h.2 c160
                      refine lv_aload_n G.1 G.2.1 d_Fi_settle_163 rfl (lv_at hl 1 rfl) ?_
                      refine lv_aload_n G.1 G.2.1 d_Fi_settle_164 rfl (lv_at hl 2 rfl) ?_
                      refine lv_iload G.1 G.2.1 d_Fi_settle_165 (lv_at hl 6 rfl) ?_
                      refine ucVi (As := [.ref (ad a1), .int x5j148]) (rest := []) G hP hD hS (cu_Fi_hasFinalAbove l D g ad y_j148 _ s_23 a0 a1 x5j148 H.size h_a0 h_a1 h) w9_Fi_hasFinalAbove q1564 ⟨Nat.le_of_ble_eq_true rfl, Nat.le_of_ble_eq_true rfl⟩ rfl rfl h_a0 (q := (RFi, TFi, 10)) rfl rfl hl.1 rfl (Nat.le_of_ble_eq_true rfl) rfl hd d_Fi_settle_167 (fun r_24 s_25 H locs h hP hD hS => ?_)
                      refine W.eq (g2 := F0 m 170 ls [.int r_24]) rfl ?_
                      refine lv_if_eq (tgt := 179) G.1 G.2.1 d_Fi_settle_170 (by decide) (fun c170 => ?_) (fun c170 => ?_)
                      · skip
                        have h := h.1 c170
                        exact J_179 y_j148 s_25 d_j148 e_j148 x2j148 x3j148 x4j148 x5j148 z0j148 H locs h hP hD hS ls (lv_sub hl [1, 2, 3, 4, 5, 6, 0] rfl)
                      · skip
                        have h := h.2 c170
                        refine lv_sipush (v := 2515) G.1 G.2.1 d_Fi_settle_173 (by decide) ?_
                        refine lv_goto (tgt := 181) G.1 G.2.1 d_Fi_settle_176 (by decide) ?_
                        exact J_181 y_j148 s_25 d_j148 e_j148 x2j148 x3j148 x4j148 x5j148 2515 H locs h hP hD hS ls (lv_sub hl [1, 2, 3, 4, 5, 6] rfl)
                refine lv_if_ne (tgt := 146) G.1 G.2.1 d_Fi_settle_132 (by decide) (fun c132 => ?_) (fun c132 => ?_)
                · skip
                  have h := h.1 c132
                  refine lv_iload G.1 G.2.1 d_Fi_settle_146 (lv_at hl 6 rfl) ?_
                  exact J_148 y_j130 s_j130 d_j130 e_j130 x2j130 x3j130 x4j130 x5j130 x6j130 H locs h hP hD hS ls (lv_sub hl [0, 1, 2, 3, 4, 5] rfl)
                · skip
                  have h := h.2 c132
                  refine lv_aload_n G.1 G.2.1 d_Fi_settle_135 rfl (lv_at hl 1 rfl) ?_
                  refine lv_iload G.1 G.2.1 d_Fi_settle_136 (lv_at hl 5 rfl) ?_
                  refine lv_bipush (v := 12) G.1 G.2.1 d_Fi_settle_138 (by decide) ?_
                  refine ucVi (As := [.int x5j130, .int 12]) (rest := []) G hP hD hS (cu_Wd_of l D g ad y_j130 _ s_j130 a1 x5j130 12 H.size h_a1 h) w9_Wd_of q1532 ⟨Nat.le_of_ble_eq_true rfl, Nat.le_of_ble_eq_true rfl⟩ rfl rfl h_a1 (q := (RWd, TWd, 17)) rfl rfl hl.1 rfl (Nat.le_of_ble_eq_true rfl) rfl hd d_Fi_settle_140 (fun r_26 s_27 H locs h hP hD hS => ?_)
                  refine lv_goto (tgt := 148) G.1 G.2.1 d_Fi_settle_143 (by decide) ?_
                  exact J_148 y_j130 s_27 d_j130 e_j130 x2j130 x3j130 x4j130 x5j130 r_26 H locs h hP hD hS ls (lv_sub hl [0, 1, 2, 3, 4, 5] rfl)
              refine lv_if_lt (tgt := 130) G.1 G.2.1 d_Fi_settle_100 (by decide) (fun c100 => ?_) (fun c100 => ?_)
              · skip
                have h := h.1 c100
                exact J_130 y_j96 s_j96 d_j96 e_j96 x2j96 x3j96 x4j96 x5j96 x6j96 H locs h hP hD hS ls (lv_sub hl [1, 2, 3, 4, 5, 6, 7] rfl)
              · skip
                have h := h.2 c100
                refine lv_iload_n G.1 G.2.1 d_Fi_settle_103 rfl (lv_at hl 4 rfl) ?_
                refine lv_bipush (v := 51) G.1 G.2.1 d_Fi_settle_104 (by decide) ?_
                refine lv_icmp_ge (tgt := 130) G.1 G.2.1 d_Fi_settle_106 (by decide) (fun c106 => ?_) (fun c106 => ?_)
                · skip
                  have h := h.1 c106
                  exact J_130 y_j96 s_j96 d_j96 e_j96 x2j96 x3j96 x4j96 x5j96 x6j96 H locs h hP hD hS ls (lv_sub hl [1, 2, 3, 4, 5, 6, 7] rfl)
                · skip
                  have h := h.2 c106
                  refine lv_iinc (v := x3j96 + 1) (lv' := [(3, .int (x3j96 + 1)), (7, .int z0j96), (0, .ref (ad a0)), (1, .ref (ad a1)), (2, .int x2j96), (4, .int x4j96), (5, .int x5j96), (6, .int x6j96)]) G.1 G.2.1 d_Fi_settle_109 hl (k := 4) rfl rfl (by decide) rfl (fun ls hl => ?_)
                  refine lv_aload_n G.1 G.2.1 d_Fi_settle_112 rfl (lv_at hl 2 rfl) ?_
                  refine ugf (v := .ref (yP y_j96 a0 6)) G hP h_a0 iFi rfl 6 (by decide) rfl q738 rfl rfl d_Fi_settle_113 ?_
                  refine lv_iload_n G.1 G.2.1 d_Fi_settle_116 rfl (lv_at hl 0 rfl) ?_
                  refine lv_iload G.1 G.2.1 d_Fi_settle_117 (lv_at hl 1 rfl) ?_
                  refine W.eq (g2 := F0 m 119 ls [.int z0j96, .int (x3j96 + 1), .ref (yP y_j96 a0 6)]) rfl ?_
                  refine uiast G hP hD hS (kdp h_a0 rfl) (typ h_a0 rfl) h d_Fi_settle_119 (fun s_28 H locs h hP hD hS => ?_)
                  refine lv_aload_n G.1 G.2.1 d_Fi_settle_120 rfl (lv_at hl 2 rfl) ?_
                  refine ugf (v := .ref (yP y_j96 a0 7)) G hP h_a0 iFi rfl 7 (by decide) rfl q739 rfl rfl d_Fi_settle_121 ?_
                  refine lv_iload_n G.1 G.2.1 d_Fi_settle_124 rfl (lv_at hl 0 rfl) ?_
                  refine lv_iconst (v := (-1)) G.1 G.2.1 d_Fi_settle_125 (by decide) ?_
                  refine uiast G hP hD hS (kdp h_a0 rfl) (typ h_a0 rfl) h d_Fi_settle_126 (fun s_29 H locs h hP hD hS => ?_)
                  refine lv_goto (tgt := 243) G.1 G.2.1 d_Fi_settle_127 (by decide) ?_
                  exact J_243 y_j96 s_29 d_j96 e_j96 x2j96 (x3j96 + 1) x4j96 H locs h hP hD hS ls (lv_sub hl [2, 3, 4, 0, 5] rfl)
            refine lv_if_ne (tgt := 95) G.1 G.2.1 d_Fi_settle_81 (by decide) (fun c81 => ?_) (fun c81 => ?_)
            · skip
              have h := h.1 c81
              refine lv_iconst (v := (-1)) G.1 G.2.1 d_Fi_settle_95 (by decide) ?_
              exact J_96 y_j79 s_j79 d_j79 e_j79 x2j79 x3j79 x4j79 x5j79 x6j79 (-1) H locs h hP hD hS ls (lv_sub hl [0, 1, 2, 3, 4, 5, 6] rfl)
            · skip
              have h := h.2 c81
              refine lv_aload_n G.1 G.2.1 d_Fi_settle_84 rfl (lv_at hl 0 rfl) ?_
              refine lv_aload_n G.1 G.2.1 d_Fi_settle_85 rfl (lv_at hl 1 rfl) ?_
              refine lv_iload G.1 G.2.1 d_Fi_settle_86 (lv_at hl 5 rfl) ?_
              refine lv_iload_n G.1 G.2.1 d_Fi_settle_88 rfl (lv_at hl 3 rfl) ?_
              refine ucVi (As := [.ref (ad a1), .int x5j79, .int x3j79]) (rest := []) G hP hD hS (cu_Fi_nextAbove l D g ad y_j79 _ s_j79 a0 a1 x5j79 x3j79 H.size h_a0 h_a1 h) w9_Fi_nextAbove q1559 ⟨Nat.le_of_ble_eq_true rfl, Nat.le_of_ble_eq_true rfl⟩ rfl rfl h_a0 (q := (RFi, TFi, 10)) rfl rfl hl.1 rfl (Nat.le_of_ble_eq_true rfl) rfl hd d_Fi_settle_89 (fun r_30 s_31 H locs h hP hD hS => ?_)
              refine lv_goto (tgt := 96) G.1 G.2.1 d_Fi_settle_92 (by decide) ?_
              exact J_96 y_j79 s_31 d_j79 e_j79 x2j79 x3j79 x4j79 x5j79 x6j79 r_30 H locs h hP hD hS ls (lv_sub hl [0, 1, 2, 3, 4, 5, 6] rfl)
          refine lv_if_ne (tgt := 79) G.1 G.2.1 d_Fi_settle_51 (by decide) (fun c51 => ?_) (fun c51 => ?_)
          · skip
            have h := h.1 c51
            exact J_79 y_h19 s_7 d_h19 e_h19 x2h19 x3h19 x4h19 x_5 r_6 H locs h hP hD hS ls (lv_sub hl [2, 3, 4, 5, 6, 1, 0] rfl)
          · skip
            have h := h.2 c51
            refine lv_aload_n G.1 G.2.1 d_Fi_settle_54 rfl (lv_at hl 2 rfl) ?_
            refine ugf (v := .ref (yP y_h19 a0 7)) G hP h_a0 iFi rfl 7 (by decide) rfl q739 rfl rfl d_Fi_settle_55 ?_
            refine lv_iload_n G.1 G.2.1 d_Fi_settle_58 rfl (lv_at hl 5 rfl) ?_
            refine uiald G hP (kdp h_a0 rfl) (typ h_a0 rfl) h d_Fi_settle_59 (fun x_32 h => ?_)
            refine lv_if_ge (tgt := 79) G.1 G.2.1 d_Fi_settle_60 (by decide) (fun c60 => ?_) (fun c60 => ?_)
            · skip
              have h := h.1 c60
              exact J_79 y_h19 s_7 d_h19 e_h19 x2h19 x3h19 x4h19 x_5 r_6 H locs h hP hD hS ls (lv_sub hl [2, 3, 4, 5, 6, 1, 0] rfl)
            · skip
              have h := h.2 c60
              refine lv_aload_n G.1 G.2.1 d_Fi_settle_63 rfl (lv_at hl 2 rfl) ?_
              refine W.eq (g2 := F0 m 64 ls [.ref (ad a0)]) rfl ?_
              refine lv_aload_n G.1 G.2.1 d_Fi_settle_64 rfl (lv_at hl 3 rfl) ?_
              refine lv_iload G.1 G.2.1 d_Fi_settle_65 (lv_at hl 1 rfl) ?_
              refine ucVi (As := [.ref (ad a1), .int x_5]) (rest := []) G hP hD hS (cu_Fi_headFault l D g ad y_h19 _ s_7 a0 a1 x_5 H.size h_a0 h_a1 h) w9_Fi_headFault q1533 ⟨Nat.le_of_ble_eq_true rfl, Nat.le_of_ble_eq_true rfl⟩ rfl rfl h_a0 (q := (RFi, TFi, 10)) rfl rfl hl.1 rfl (Nat.le_of_ble_eq_true rfl) rfl hd d_Fi_settle_67 (fun r_33 s_34 H locs h hP hD hS => ?_)
              refine lv_istore (lv' := [(6, .int r_33), (5, .int x_5), (0, .ref (ad a0)), (1, .ref (ad a1)), (2, .int x2h19), (3, .int x3h19), (4, .int x4h19)]) G.1 G.2.1 d_Fi_settle_70 hl (by decide) rfl (fun ls hl => ?_)
              refine lv_aload_n G.1 G.2.1 d_Fi_settle_72 rfl (lv_at hl 2 rfl) ?_
              refine ugf (v := .ref (yP y_h19 a0 7)) G hP h_a0 iFi rfl 7 (by decide) rfl q739 rfl rfl d_Fi_settle_73 ?_
              refine lv_iload_n G.1 G.2.1 d_Fi_settle_76 rfl (lv_at hl 5 rfl) ?_
              refine lv_iconst (v := 0) G.1 G.2.1 d_Fi_settle_77 (by decide) ?_
              refine uiast G hP hD hS (kdp h_a0 rfl) (typ h_a0 rfl) h d_Fi_settle_78 (fun s_35 H locs h hP hD hS => ?_)
              exact J_79 y_h19 s_35 d_h19 e_h19 x2h19 x3h19 x4h19 x_5 r_33 H locs h hP hD hS ls (lv_sub hl [2, 3, 4, 5, 6, 1, 0] rfl)
  exact L_19 _ y s_2 0 0 v2 0 0 (Nat.lt_succ_self _) hI_19 H locs hP hD hS ls (lv_sub hl [2, 3, 4, 1, 0] rfl)
theorem q1528 : Cond.methodLink "ClassWorks" 190 y_Fi_settle ∈ lw_ok := lw_okmem (List.mem_of_getElem? (i := 1528) (by decide +kernel)) rfl
theorem q1531 : Cond.code y_Fi_settle b_Fi_settle 9 (some .int) ∈ lw_ok := lw_okmem (List.mem_of_getElem? (i := 1531) (by decide +kernel)) rfl
theorem q1529 : Cond.instanceMethod y_Fi_settle ∈ lw_ok := lw_okmem (List.mem_of_getElem? (i := 1529) (by decide +kernel)) rfl
theorem q1530 : Cond.selects y_Fi_settle.cls y_Fi_settle y_Fi_settle ∈ lw_ok := lw_okmem (List.mem_of_getElem? (i := 1530) (by decide +kernel)) rfl
theorem w9_Fi_settle : CWv y_Fi_settle b_Fi_settle 9 (some .int) 2 ∧ Cond.instanceMethod y_Fi_settle ∈ lw_ok ∧ Cond.selects y_Fi_settle.cls y_Fi_settle y_Fi_settle ∈ lw_ok := ⟨⟨q1531, q342, by decide +kernel, by decide +kernel, by decide +kernel⟩, q1529, q1530⟩
def y_Cw_link : MethodName := ⟨"ClassWorks", "link", "(II)I"⟩
abbrev b_Cw_link : ByteArray := prog_1_method_17_code
theorem d_Cw_link_0 : decode b_Cw_link 0 = .ok (.aload_n 0, 1) := by decide +kernel
theorem d_Cw_link_1 : decode b_Cw_link 1 = .ok (.iload_n 1, 1) := by decide +kernel
theorem d_Cw_link_2 : decode b_Cw_link 2 = .ok (.iload_n 2, 1) := by decide +kernel
theorem d_Cw_link_3 : decode b_Cw_link 3 = .ok (.invokevirtual 150, 3) := by decide +kernel
theorem d_Cw_link_6 : decode b_Cw_link 6 = .ok (.astore_n 3, 1) := by decide +kernel
theorem d_Cw_link_7 : decode b_Cw_link 7 = .ok (.aload_n 3, 1) := by decide +kernel
theorem d_Cw_link_8 : decode b_Cw_link 8 = .ok (.ifnonnull 7, 3) := by decide +kernel
theorem d_Cw_link_11 : decode b_Cw_link 11 = .ok (.iconst (-1), 1) := by decide +kernel
theorem d_Cw_link_12 : decode b_Cw_link 12 = .ok (.goto 12, 3) := by decide +kernel
theorem d_Cw_link_15 : decode b_Cw_link 15 = .ok (.aload_n 0, 1) := by decide +kernel
theorem d_Cw_link_16 : decode b_Cw_link 16 = .ok (.getfield 97, 3) := by decide +kernel
theorem d_Cw_link_19 : decode b_Cw_link 19 = .ok (.aload_n 3, 1) := by decide +kernel
theorem d_Cw_link_20 : decode b_Cw_link 20 = .ok (.iload_n 2, 1) := by decide +kernel
theorem d_Cw_link_21 : decode b_Cw_link 21 = .ok (.invokevirtual 190, 3) := by decide +kernel
theorem d_Cw_link_24 : decode b_Cw_link 24 = .ok (.ireturn, 1) := by decide +kernel
abbrev ra_Cw_link (mc ms : Nat) : Room := { frames := 8, cells := mc, slots := ms, locals := 500 }
def wja_Cw_link_24 (mc ms : Nat) (Post : Ly → St → Int32 → Nat → Nat → Prop) (a0 : Nat) (y_j24 : Ly) (s_j24 : St) (d_j24 e_j24 : Nat) (z0j24 : Int32) : Prop := (d_j24 ≤ mc ∧ e_j24 ≤ ms) ∧ Post y_j24 s_j24 z0j24 d_j24 e_j24
def wa_Cw_link (mc ms : Nat) (y : Ly) (Post : Ly → St → Int32 → Nat → Nat → Prop) (σ : St) (a0 : Nat) (v1 : Int32) (v2 : Int32) : Prop := wu_Cw_worldWith y (fun (s_2 : St) (r_1 : Option Nat) => ((r_1 = none → wja_Cw_link_24 mc ms Post a0 y s_2 0 0 (-1)) ∧ (∀ r_1b : Nat, r_1 = some r_1b → (cl r_1b = 9 ∧ ∃ mc_8 ms_9 : Nat, (0 + mc_8 ≤ mc ∧ 0 + ms_9 ≤ ms) ∧ wa_Fi_settle mc_8 ms_9 y (fun (y_5 : Ly) (s_4 : St) (r_3 : Int32) (d_6 e_7 : Nat) => (0 + d_6 ≤ mc ∧ 0 + e_7 ≤ ms) ∧ wja_Cw_link_24 mc ms Post a0 y_5 s_4 (0 + d_6) (0 + e_7) r_3) s_2 (lk a0 3) r_1b v2)))) σ a0 v1 v2
set_option maxHeartbeats 4000000 in
set_option maxRecDepth 100000 in
theorem ca_Cw_link (l : Launch) (D : va_G) (g : Nat → ClassId) (F : Nat → SL) (sl : List SL) (hF : SOK F sl) (ad : Nat → Nat) (mc ms : Nat) (y : Ly) (Post : Ly → St → Int32 → Nat → Nat → Prop) (σ : St) (a0 : Nat) (v1 : Int32) (v2 : Int32) (sz uz : Nat) (h_a0 : cl a0 = 11) (h : wa_Cw_link mc ms y Post σ a0 v1 v2) : Met l y_Cw_link (mw y_Cw_link b_Cw_link 4 (some .int)) (ra_Cw_link mc ms) (PCu g D sl [.ref (ad a0), .int v1, .int v2] sz uz (ws g ad y σ)) (va_Qi (fun (r : Int32) (u : Ly × St × Nat × Nat) => Post u.1 u.2.1 r u.2.2.1 u.2.2.2) (QU D (va_A (ws g ad y σ) sz) (fun u => ws g ad u.1 u.2.1) sz uz (fun u => u.2.2.1) (fun u => u.2.2.2)) (va_A (ws g ad y σ) sz)) mc ms (va_A (ws g ad y σ) sz) := by
  refine ofIu (by decide +kernel) (Nat.le_of_ble_eq_true rfl) ?_
  intro p e s m args below meth c A Q ls H locs G hsz hP hD hS hl hret
  subst hsz
  have hl : lv_has ls 4 [(0, .ref (ad a0)), (1, .int v1), (2, .int v2)] := hl
  have hd : 0 ≤ mc ∧ 0 ≤ ms := ⟨Nat.zero_le _, Nat.zero_le _⟩
  unfold wa_Cw_link at h
  refine lv_aload_n G.1 G.2.1 d_Cw_link_0 rfl (lv_at hl 0 rfl) ?_
  refine lv_iload_n G.1 G.2.1 d_Cw_link_1 rfl (lv_at hl 1 rfl) ?_
  refine lv_iload_n G.1 G.2.1 d_Cw_link_2 rfl (lv_at hl 2 rfl) ?_
  refine ucVq (As := [.int v1, .int v2]) (rest := []) G hP hD hS (cu_Cw_worldWith l D g ad y _ σ a0 v1 v2 H.size h_a0 h) w9_Cw_worldWith q1481 ⟨Nat.le_of_ble_eq_true rfl, Nat.le_of_ble_eq_true rfl⟩ rfl rfl h_a0 (q := (RCw, TCw, 20)) rfl rfl hl.1 rfl (Nat.le_of_ble_eq_true rfl) rfl hd d_Cw_link_3 (fun r_1 s_2 H locs h hP hD hS => ?_)
  rcases r_1 with _ | r_1b
  · skip
    have h := h.1 rfl
    show W p l e (ra_Cw_link mc ms) s m args below meth c H locs 0 0 Q (F0 m 6 ls [.null])
    refine lv_astore_nN (lv' := [(3, .null), (0, .ref (ad a0)), (1, .int v1), (2, .int v2)]) G.1 G.2.1 d_Cw_link_6 rfl hl (by decide) rfl (fun ls hl => ?_)
    refine lv_aload_nN G.1 G.2.1 d_Cw_link_7 rfl (lv_at hl 0 rfl) ?_
    have J_24 : ∀ (y_j24 : Ly) (s_j24 : St) (d_j24 e_j24 : Nat) (z0j24 : Int32) (H : Heap) (locs : List Loc), wja_Cw_link_24 mc ms Post a0 y_j24 s_j24 d_j24 e_j24 z0j24 → va_P D CL (ws g ad y_j24 s_j24) H → va_D A (ws g ad y_j24 s_j24) → va_S A s.heap H locs → ∀ ls, lv_has ls 4 [] → W p l e (ra_Cw_link mc ms) s m args below meth c H locs d_j24 e_j24 Q (F0 m 24 ls [.int z0j24]) := by
      intro y_j24 s_j24 d_j24 e_j24 z0j24 H locs h hP hD hS ls hl
      unfold wja_Cw_link_24 at h
      obtain ⟨hd, h⟩ := h
      exact hret _ (y_j24, s_j24, d_j24, e_j24) _ _ _ _ _ ls h hP hD hS (Nat.le_refl _) (Nat.le_refl _) hd.1 hd.2 d_Cw_link_24
    refine lv_ifnonnullN G.1 G.2.1 d_Cw_link_8 ?_
    refine lv_iconst (v := (-1)) G.1 G.2.1 d_Cw_link_11 (by decide) ?_
    refine lv_goto (tgt := 24) G.1 G.2.1 d_Cw_link_12 (by decide) ?_
    exact J_24 y s_2 0 0 (-1) H locs h hP hD hS ls (lv_sub hl [] rfl)
  · skip
    obtain ⟨c_r_1b, h⟩ := h.2 _ rfl
    show W p l e (ra_Cw_link mc ms) s m args below meth c H locs 0 0 Q (F0 m 6 ls [.ref (ad r_1b)])
    refine lv_astore_n (lv' := [(3, .ref (ad r_1b)), (0, .ref (ad a0)), (1, .int v1), (2, .int v2)]) G.1 G.2.1 d_Cw_link_6 rfl hl (by decide) rfl (fun ls hl => ?_)
    refine lv_aload_n G.1 G.2.1 d_Cw_link_7 rfl (lv_at hl 0 rfl) ?_
    have J_24 : ∀ (y_j24 : Ly) (s_j24 : St) (d_j24 e_j24 : Nat) (z0j24 : Int32) (H : Heap) (locs : List Loc), wja_Cw_link_24 mc ms Post a0 y_j24 s_j24 d_j24 e_j24 z0j24 → va_P D CL (ws g ad y_j24 s_j24) H → va_D A (ws g ad y_j24 s_j24) → va_S A s.heap H locs → ∀ ls, lv_has ls 4 [] → W p l e (ra_Cw_link mc ms) s m args below meth c H locs d_j24 e_j24 Q (F0 m 24 ls [.int z0j24]) := by
      intro y_j24 s_j24 d_j24 e_j24 z0j24 H locs h hP hD hS ls hl
      unfold wja_Cw_link_24 at h
      obtain ⟨hd, h⟩ := h
      exact hret _ (y_j24, s_j24, d_j24, e_j24) _ _ _ _ _ ls h hP hD hS (Nat.le_refl _) (Nat.le_refl _) hd.1 hd.2 d_Cw_link_24
    refine lv_ifnonnull (tgt := 15) G.1 G.2.1 d_Cw_link_8 (by decide) ?_
    refine lv_aload_n G.1 G.2.1 d_Cw_link_15 rfl (lv_at hl 1 rfl) ?_
    refine ugf (v := .ref (ad (lk a0 3))) G hP h_a0 iCw rfl 3 (by decide) rfl q1137 rfl rfl d_Cw_link_16 ?_
    refine lv_aload_n G.1 G.2.1 d_Cw_link_19 rfl (lv_at hl 0 rfl) ?_
    refine lv_iload_n G.1 G.2.1 d_Cw_link_20 rfl (lv_at hl 3 rfl) ?_
    refine W.eq (g2 := F0 m 21 ls [.int v2, .ref (ad r_1b), .ref (ad (lk a0 3))]) rfl ?_
    obtain ⟨mc_8, ms_9, hr_10, h⟩ := h
    refine utVi (As := [.ref (ad r_1b), .int v2]) (rest := []) G hP hD hS (ca_Fi_settle l D g F sl hF ad mc_8 ms_9 y _ s_2 (lk a0 3) r_1b v2 H.size (us H) (lk_11_3 h_a0) c_r_1b h) w9_Fi_settle q1528 ⟨Nat.le_of_ble_eq_true rfl, Nat.le_of_ble_eq_true rfl⟩ rfl rfl (lk_11_3 h_a0) (q := (RFi, TFi, 10)) rfl rfl hl.1 rfl (Nat.le_of_ble_eq_true rfl) rfl hr_10 d_Cw_link_21 (fun r_3 y_5 s_4 d_6 e_7 H locs h hP hD hS => ?_)
    have hl := lv_sub (l' := []) hl [] rfl
    obtain ⟨hd, h⟩ := h
    exact J_24 y_5 s_4 (0 + d_6) (0 + e_7) r_3 H locs h hP hD hS ls (lv_sub hl [] rfl)
def y_Re_takeCalled : MethodName := ⟨"ClassWorks$Reader", "takeCalled", "(LClassWorks$Runner;C)V"⟩
abbrev b_Re_takeCalled : ByteArray := prog_8_method_34_code
theorem q976 : Cond.fieldLink "ClassWorks$Reader" 294 "ClassWorks$Runner" "callClass" "I" ∈ lw_ok := lw_okmem (List.mem_of_getElem? (i := 976) (by decide +kernel)) rfl
theorem q980 : Cond.fieldLink "ClassWorks$Reader" 299 "ClassWorks$Runner" "callSign" "I" ∈ lw_ok := lw_okmem (List.mem_of_getElem? (i := 980) (by decide +kernel)) rfl
theorem d_Re_takeCalled_0 : decode b_Re_takeCalled 0 = .ok (.aload_n 1, 1) := by decide +kernel
theorem d_Re_takeCalled_1 : decode b_Re_takeCalled 1 = .ok (.aload_n 0, 1) := by decide +kernel
theorem d_Re_takeCalled_2 : decode b_Re_takeCalled 2 = .ok (.bipush 99, 2) := by decide +kernel
theorem d_Re_takeCalled_4 : decode b_Re_takeCalled 4 = .ok (.invokevirtual 147, 3) := by decide +kernel
theorem d_Re_takeCalled_7 : decode b_Re_takeCalled 7 = .ok (.putfield 294, 3) := by decide +kernel
theorem d_Re_takeCalled_10 : decode b_Re_takeCalled 10 = .ok (.aload_n 0, 1) := by decide +kernel
theorem d_Re_takeCalled_11 : decode b_Re_takeCalled 11 = .ok (.bipush 46, 2) := by decide +kernel
theorem d_Re_takeCalled_13 : decode b_Re_takeCalled 13 = .ok (.invokevirtual 147, 3) := by decide +kernel
theorem d_Re_takeCalled_16 : decode b_Re_takeCalled 16 = .ok (.pop, 1) := by decide +kernel
theorem d_Re_takeCalled_17 : decode b_Re_takeCalled 17 = .ok (.aload_n 0, 1) := by decide +kernel
theorem d_Re_takeCalled_18 : decode b_Re_takeCalled 18 = .ok (.bipush 110, 2) := by decide +kernel
theorem d_Re_takeCalled_20 : decode b_Re_takeCalled 20 = .ok (.invokevirtual 147, 3) := by decide +kernel
theorem d_Re_takeCalled_23 : decode b_Re_takeCalled 23 = .ok (.istore_n 3, 1) := by decide +kernel
theorem d_Re_takeCalled_24 : decode b_Re_takeCalled 24 = .ok (.aload_n 0, 1) := by decide +kernel
theorem d_Re_takeCalled_25 : decode b_Re_takeCalled 25 = .ok (.iload_n 2, 1) := by decide +kernel
theorem d_Re_takeCalled_26 : decode b_Re_takeCalled 26 = .ok (.iconst 0, 1) := by decide +kernel
theorem d_Re_takeCalled_27 : decode b_Re_takeCalled 27 = .ok (.invokevirtual 205, 3) := by decide +kernel
theorem d_Re_takeCalled_30 : decode b_Re_takeCalled 30 = .ok (.aload_n 0, 1) := by decide +kernel
theorem d_Re_takeCalled_31 : decode b_Re_takeCalled 31 = .ok (.bipush 82, 2) := by decide +kernel
theorem d_Re_takeCalled_33 : decode b_Re_takeCalled 33 = .ok (.invokevirtual 147, 3) := by decide +kernel
theorem d_Re_takeCalled_36 : decode b_Re_takeCalled 36 = .ok (.istore 4, 2) := by decide +kernel
theorem d_Re_takeCalled_38 : decode b_Re_takeCalled 38 = .ok (.aload_n 1, 1) := by decide +kernel
theorem d_Re_takeCalled_39 : decode b_Re_takeCalled 39 = .ok (.aload_n 0, 1) := by decide +kernel
theorem d_Re_takeCalled_40 : decode b_Re_takeCalled 40 = .ok (.getfield 64, 3) := by decide +kernel
theorem d_Re_takeCalled_43 : decode b_Re_takeCalled 43 = .ok (.iload_n 3, 1) := by decide +kernel
theorem d_Re_takeCalled_44 : decode b_Re_takeCalled 44 = .ok (.aload_n 0, 1) := by decide +kernel
theorem d_Re_takeCalled_45 : decode b_Re_takeCalled 45 = .ok (.getfield 40, 3) := by decide +kernel
theorem d_Re_takeCalled_48 : decode b_Re_takeCalled 48 = .ok (.bipush 6, 2) := by decide +kernel
theorem d_Re_takeCalled_50 : decode b_Re_takeCalled 50 = .ok (.invokestatic 103, 3) := by decide +kernel
theorem d_Re_takeCalled_53 : decode b_Re_takeCalled 53 = .ok (.aload_n 0, 1) := by decide +kernel
theorem d_Re_takeCalled_54 : decode b_Re_takeCalled 54 = .ok (.getfield 36, 3) := by decide +kernel
theorem d_Re_takeCalled_57 : decode b_Re_takeCalled 57 = .ok (.iload 4, 2) := by decide +kernel
theorem d_Re_takeCalled_59 : decode b_Re_takeCalled 59 = .ok (.invokevirtual 212, 3) := by decide +kernel
theorem d_Re_takeCalled_62 : decode b_Re_takeCalled 62 = .ok (.putfield 299, 3) := by decide +kernel
theorem d_Re_takeCalled_65 : decode b_Re_takeCalled 65 = .ok (.return_, 1) := by decide +kernel
abbrev ra_Re_takeCalled (mc ms : Nat) : Room := { frames := 6, cells := mc, slots := ms, locals := 448 }
def wa_Re_takeCalled (mc ms : Nat) (y : Ly) (Post : Ly → St → Nat → Nat → Prop) (σ : St) (a0 : Nat) (a1 : Nat) (v2 : Int32) : Prop := wu_Re_take y (fun (s_2 : St) (r_1 : Int32) => xP (uV s_2 a1 0 r_1) (fun s_3 : St => wu_Re_take y (fun (s_5 : St) (r_4 : Int32) => wu_Re_take y (fun (s_7 : St) (r_6 : Int32) => wu_Re_takeTypes y (fun (s_9 : St) => wu_Re_take y (fun (s_11 : St) (r_10 : Int32) => ∃ mc_17 ms_18 : Nat, (0 + mc_17 ≤ mc ∧ 0 + ms_18 ≤ ms) ∧ wa_Na_sign mc_17 ms_18 y (fun (y_14 : Ly) (s_13 : St) (r_12 : Int32) (d_15 e_16 : Nat) => (0 + d_15 ≤ mc ∧ 0 + e_16 ≤ ms) ∧ xP (uV s_13 a1 1 r_12) (fun s_20 : St => Post y_14 s_20 (0 + d_15) (0 + e_16))) s_11 (lk a0 2) r_6 (if 6 < (sV s_11 a0 12) then 6 else (sV s_11 a0 12)) a0 11 r_10) s_9 a0 82) s_7 a0 v2 0) s_5 a0 110) s_3 a0 46)) σ a0 99
set_option maxHeartbeats 4000000 in
set_option maxRecDepth 100000 in
theorem ca_Re_takeCalled (l : Launch) (D : va_G) (g : Nat → ClassId) (ad : Nat → Nat) (mc ms : Nat) (y : Ly) (Post : Ly → St → Nat → Nat → Prop) (σ : St) (a0 : Nat) (a1 : Nat) (v2 : Int32) (sz uz : Nat) (h_a0 : cl a0 = 6) (h_a1 : cl a1 = 7) (h : wa_Re_takeCalled mc ms y Post σ a0 a1 v2) : Met l y_Re_takeCalled (mw y_Re_takeCalled b_Re_takeCalled 5 (none)) (ra_Re_takeCalled mc ms) (PCu g D [] [.ref (ad a0), .ref (ad a1), .int v2] sz uz (ws g ad y σ)) (va_Qv (fun (u : Ly × St × Nat × Nat) => Post u.1 u.2.1 u.2.2.1 u.2.2.2) (QU D (va_A (ws g ad y σ) sz) (fun u => ws g ad u.1 u.2.1) sz uz (fun u => u.2.2.1) (fun u => u.2.2.2)) (va_A (ws g ad y σ) sz)) mc ms (va_A (ws g ad y σ) sz) := by
  refine ofVu (by decide +kernel) (Nat.le_of_ble_eq_true rfl) ?_
  intro p e s m args below meth c A Q ls H locs G hsz hP hD hS hl hret
  subst hsz
  have hl : lv_has ls 5 [(0, .ref (ad a0)), (1, .ref (ad a1)), (2, .int v2)] := hl
  have hd : 0 ≤ mc ∧ 0 ≤ ms := ⟨Nat.zero_le _, Nat.zero_le _⟩
  unfold wa_Re_takeCalled at h
  refine lv_aload_n G.1 G.2.1 d_Re_takeCalled_0 rfl (lv_at hl 1 rfl) ?_
  refine lv_aload_n G.1 G.2.1 d_Re_takeCalled_1 rfl (lv_at hl 0 rfl) ?_
  refine lv_bipush (v := 99) G.1 G.2.1 d_Re_takeCalled_2 (by decide) ?_
  refine ucVi (As := [.int 99]) (rest := [.ref (ad a1)]) G hP hD hS (cu_Re_take l D g ad y _ σ a0 99 H.size h_a0 h) w9_Re_take q1321 ⟨Nat.le_of_ble_eq_true rfl, Nat.le_of_ble_eq_true rfl⟩ rfl rfl h_a0 (q := (RRe, TRe, 18)) rfl rfl hl.1 rfl (Nat.le_of_ble_eq_true rfl) rfl hd d_Re_takeCalled_4 (fun r_1 s_2 H locs h hP hD hS => ?_)
  refine upf G hP hD hS h 0 putV h_a1 iRu tRu tRu_ok nRu rfl (by decide) rfl q976 rfl rfl fV rfl rfl d_Re_takeCalled_7 (fun s_3 H locs h hP hD hS => ?_)
  refine lv_aload_n G.1 G.2.1 d_Re_takeCalled_10 rfl (lv_at hl 0 rfl) ?_
  refine lv_bipush (v := 46) G.1 G.2.1 d_Re_takeCalled_11 (by decide) ?_
  refine ucVi (As := [.int 46]) (rest := []) G hP hD hS (cu_Re_take l D g ad y _ s_3 a0 46 H.size h_a0 h) w9_Re_take q1321 ⟨Nat.le_of_ble_eq_true rfl, Nat.le_of_ble_eq_true rfl⟩ rfl rfl h_a0 (q := (RRe, TRe, 18)) rfl rfl hl.1 rfl (Nat.le_of_ble_eq_true rfl) rfl hd d_Re_takeCalled_13 (fun r_4 s_5 H locs h hP hD hS => ?_)
  refine lv_pop G.1 G.2.1 d_Re_takeCalled_16 rfl ?_
  refine lv_aload_n G.1 G.2.1 d_Re_takeCalled_17 rfl (lv_at hl 0 rfl) ?_
  refine lv_bipush (v := 110) G.1 G.2.1 d_Re_takeCalled_18 (by decide) ?_
  refine W.eq (g2 := F0 m 20 ls [.int 110, .ref (ad a0)]) rfl ?_
  refine ucVi (As := [.int 110]) (rest := []) G hP hD hS (cu_Re_take l D g ad y _ s_5 a0 110 H.size h_a0 h) w9_Re_take q1321 ⟨Nat.le_of_ble_eq_true rfl, Nat.le_of_ble_eq_true rfl⟩ rfl rfl h_a0 (q := (RRe, TRe, 18)) rfl rfl hl.1 rfl (Nat.le_of_ble_eq_true rfl) rfl hd d_Re_takeCalled_20 (fun r_6 s_7 H locs h hP hD hS => ?_)
  refine lv_istore_n (lv' := [(3, .int r_6), (0, .ref (ad a0)), (1, .ref (ad a1)), (2, .int v2)]) G.1 G.2.1 d_Re_takeCalled_23 rfl hl (by decide) rfl (fun ls hl => ?_)
  refine lv_aload_n G.1 G.2.1 d_Re_takeCalled_24 rfl (lv_at hl 1 rfl) ?_
  refine lv_iload_n G.1 G.2.1 d_Re_takeCalled_25 rfl (lv_at hl 3 rfl) ?_
  refine lv_iconst (v := 0) G.1 G.2.1 d_Re_takeCalled_26 (by decide) ?_
  refine ucVv (As := [.int v2, .int 0]) (rest := []) G hP hD hS (cu_Re_takeTypes l D g ad y _ s_7 a0 v2 0 H.size h_a0 h) w9_Re_takeTypes q1415 ⟨Nat.le_of_ble_eq_true rfl, Nat.le_of_ble_eq_true rfl⟩ rfl rfl h_a0 (q := (RRe, TRe, 18)) rfl rfl hl.1 rfl (Nat.le_of_ble_eq_true rfl) rfl hd d_Re_takeCalled_27 (fun s_9 H locs h hP hD hS => ?_)
  refine lv_aload_n G.1 G.2.1 d_Re_takeCalled_30 rfl (lv_at hl 1 rfl) ?_
  refine lv_bipush (v := 82) G.1 G.2.1 d_Re_takeCalled_31 (by decide) ?_
  refine ucVi (As := [.int 82]) (rest := []) G hP hD hS (cu_Re_take l D g ad y _ s_9 a0 82 H.size h_a0 h) w9_Re_take q1321 ⟨Nat.le_of_ble_eq_true rfl, Nat.le_of_ble_eq_true rfl⟩ rfl rfl h_a0 (q := (RRe, TRe, 18)) rfl rfl hl.1 rfl (Nat.le_of_ble_eq_true rfl) rfl hd d_Re_takeCalled_33 (fun r_10 s_11 H locs h hP hD hS => ?_)
  refine lv_istore (lv' := [(4, .int r_10), (3, .int r_6), (0, .ref (ad a0)), (1, .ref (ad a1)), (2, .int v2)]) G.1 G.2.1 d_Re_takeCalled_36 hl (by decide) rfl (fun ls hl => ?_)
  refine lv_aload_n G.1 G.2.1 d_Re_takeCalled_38 rfl (lv_at hl 3 rfl) ?_
  refine lv_aload_n G.1 G.2.1 d_Re_takeCalled_39 rfl (lv_at hl 2 rfl) ?_
  refine W.eq (g2 := F0 m 40 ls [.ref (ad a0), .ref (ad a1)]) rfl ?_
  refine ugf (v := .ref (ad (lk a0 2))) G hP h_a0 iRe rfl 2 (by decide) rfl q589 rfl rfl d_Re_takeCalled_40 ?_
  refine lv_iload_n G.1 G.2.1 d_Re_takeCalled_43 rfl (lv_at hl 1 rfl) ?_
  refine lv_aload_n G.1 G.2.1 d_Re_takeCalled_44 rfl (lv_at hl 2 rfl) ?_
  refine ugf (v := .int (sV s_11 a0 12)) G hP h_a0 iRe rfl 12 (by decide) rfl q599 rfl rfl d_Re_takeCalled_45 ?_
  refine lv_bipush (v := 6) G.1 G.2.1 d_Re_takeCalled_48 (by decide) ?_
  refine va_mmin G.1 G.2.1 (G.2.2.1.trans hl.1.symm) G.2.2.2.2.2.2.1 (G.2.2.2.2.2.1 _ q1341) (G.2.2.2.2.2.1 _ q484) (G.2.2.2.2.2.1 _ q337) (G.2.2.2.2.2.1 _ q485) (Nat.le_of_ble_eq_true rfl) (Nat.le_of_ble_eq_true rfl) hd.1 hd.2 d_Re_takeCalled_50 ?_
  refine lv_aload_n G.1 G.2.1 d_Re_takeCalled_53 rfl (lv_at hl 2 rfl) ?_
  refine ugf (v := .ref (yP y a0 11)) G hP h_a0 iRe rfl 11 (by decide) rfl q598 rfl rfl d_Re_takeCalled_54 ?_
  refine lv_iload G.1 G.2.1 d_Re_takeCalled_57 (lv_at hl 0 rfl) ?_
  obtain ⟨mc_17, ms_18, hr_19, h⟩ := h
  refine uaVi (As := [.int r_6, .int (if 6 < (sV s_11 a0 12) then 6 else (sV s_11 a0 12)), .ref (yP y a0 11), .int r_10]) (rest := [.ref (ad a1)]) G hP hD hS (ca_Na_sign l D g ad mc_17 ms_18 y _ s_11 (lk a0 2) r_6 (if 6 < (sV s_11 a0 12) then 6 else (sV s_11 a0 12)) a0 11 r_10 H.size (us H) (lk_6_2 h_a0) ⟨(kdp h_a0 rfl), (typ h_a0 rfl)⟩ h) w9_Na_sign q1419 ⟨Nat.le_of_ble_eq_true rfl, Nat.le_of_ble_eq_true rfl⟩ rfl rfl (lk_6_2 h_a0) (q := (RNa, TNa, 11)) rfl rfl hl.1 rfl (Nat.le_of_ble_eq_true rfl) rfl hr_19 d_Re_takeCalled_59 (fun r_12 y_14 s_13 d_15 e_16 H locs h hP hD hS => ?_)
  have hl := lv_sub (l' := []) hl [] rfl
  obtain ⟨hd, h⟩ := h
  refine upf G hP hD hS h 1 putV h_a1 iRu tRu tRu_ok nRu rfl (by decide) rfl q980 rfl rfl fV rfl rfl d_Re_takeCalled_62 (fun s_20 H locs h hP hD hS => ?_)
  exact hret (y_14, s_20, 0 + d_15, 0 + e_16) _ _ _ _ _ ls h hP hD hS (Nat.le_refl _) (Nat.le_refl _) hd.1 hd.2 d_Re_takeCalled_65
theorem q1743 : Cond.methodLink "ClassWorks$Reader" 290 y_Re_takeCalled ∈ lw_ok := lw_okmem (List.mem_of_getElem? (i := 1743) (by decide +kernel)) rfl
theorem q1746 : Cond.code y_Re_takeCalled b_Re_takeCalled 5 (none) ∈ lw_ok := lw_okmem (List.mem_of_getElem? (i := 1746) (by decide +kernel)) rfl
theorem q1745 : Cond.instanceMethod y_Re_takeCalled ∈ lw_ok := lw_okmem (List.mem_of_getElem? (i := 1745) (by decide +kernel)) rfl
theorem q78 : Cond.selects y_Re_takeCalled.cls y_Re_takeCalled y_Re_takeCalled ∈ lw_ok := lw_okmem (List.mem_of_getElem? (i := 78) (by decide +kernel)) rfl
theorem w9_Re_takeCalled : CWv y_Re_takeCalled b_Re_takeCalled 5 (none) 2 ∧ Cond.instanceMethod y_Re_takeCalled ∈ lw_ok ∧ Cond.selects y_Re_takeCalled.cls y_Re_takeCalled y_Re_takeCalled ∈ lw_ok := ⟨⟨q1746, q340, by decide +kernel, by decide +kernel, by decide +kernel⟩, q1745, q78⟩
def y_Re_callLine : MethodName := ⟨"ClassWorks$Reader", "callLine", "(LClassWorks$Runner;Z)Z"⟩
abbrev b_Re_callLine : ByteArray := prog_8_method_35_code
theorem q984 : Cond.fieldLink "ClassWorks$Reader" 302 "ClassWorks$Runner" "callNumbers" "[I" ∈ lw_ok := lw_okmem (List.mem_of_getElem? (i := 984) (by decide +kernel)) rfl
theorem d_Re_callLine_0 : decode b_Re_callLine 0 = .ok (.aload_n 0, 1) := by decide +kernel
theorem d_Re_callLine_1 : decode b_Re_callLine 1 = .ok (.iconst 0, 1) := by decide +kernel
theorem d_Re_callLine_2 : decode b_Re_callLine 2 = .ok (.putfield 18, 3) := by decide +kernel
theorem d_Re_callLine_5 : decode b_Re_callLine 5 = .ok (.aload_n 0, 1) := by decide +kernel
theorem d_Re_callLine_6 : decode b_Re_callLine 6 = .ok (.iconst 0, 1) := by decide +kernel
theorem d_Re_callLine_7 : decode b_Re_callLine 7 = .ok (.putfield 27, 3) := by decide +kernel
theorem d_Re_callLine_10 : decode b_Re_callLine 10 = .ok (.iload_n 2, 1) := by decide +kernel
theorem d_Re_callLine_11 : decode b_Re_callLine 11 = .ok (.ifCond .eq 9, 3) := by decide +kernel
theorem d_Re_callLine_14 : decode b_Re_callLine 14 = .ok (.aload_n 0, 1) := by decide +kernel
theorem d_Re_callLine_15 : decode b_Re_callLine 15 = .ok (.bipush 42, 2) := by decide +kernel
theorem d_Re_callLine_17 : decode b_Re_callLine 17 = .ok (.invokevirtual 144, 3) := by decide +kernel
theorem d_Re_callLine_20 : decode b_Re_callLine 20 = .ok (.aload_n 0, 1) := by decide +kernel
theorem d_Re_callLine_21 : decode b_Re_callLine 21 = .ok (.aload_n 1, 1) := by decide +kernel
theorem d_Re_callLine_22 : decode b_Re_callLine 22 = .ok (.bipush 78, 2) := by decide +kernel
theorem d_Re_callLine_24 : decode b_Re_callLine 24 = .ok (.invokevirtual 290, 3) := by decide +kernel
theorem d_Re_callLine_27 : decode b_Re_callLine 27 = .ok (.iconst 0, 1) := by decide +kernel
theorem d_Re_callLine_28 : decode b_Re_callLine 28 = .ok (.istore_n 3, 1) := by decide +kernel
theorem d_Re_callLine_29 : decode b_Re_callLine 29 = .ok (.iload_n 3, 1) := by decide +kernel
theorem d_Re_callLine_30 : decode b_Re_callLine 30 = .ok (.aload_n 0, 1) := by decide +kernel
theorem d_Re_callLine_31 : decode b_Re_callLine 31 = .ok (.getfield 40, 3) := by decide +kernel
theorem d_Re_callLine_34 : decode b_Re_callLine 34 = .ok (.if_icmp .ge 44, 3) := by decide +kernel
theorem d_Re_callLine_37 : decode b_Re_callLine 37 = .ok (.aload_n 0, 1) := by decide +kernel
theorem d_Re_callLine_38 : decode b_Re_callLine 38 = .ok (.getfield 18, 3) := by decide +kernel
theorem d_Re_callLine_41 : decode b_Re_callLine 41 = .ok (.ifCond .ne 37, 3) := by decide +kernel
theorem d_Re_callLine_44 : decode b_Re_callLine 44 = .ok (.aload_n 0, 1) := by decide +kernel
theorem d_Re_callLine_45 : decode b_Re_callLine 45 = .ok (.iload_n 3, 1) := by decide +kernel
theorem d_Re_callLine_46 : decode b_Re_callLine 46 = .ok (.ifCond .ne 8, 3) := by decide +kernel
theorem d_Re_callLine_49 : decode b_Re_callLine 49 = .ok (.bipush 58, 2) := by decide +kernel
theorem d_Re_callLine_51 : decode b_Re_callLine 51 = .ok (.goto 5, 3) := by decide +kernel
theorem d_Re_callLine_54 : decode b_Re_callLine 54 = .ok (.bipush 44, 2) := by decide +kernel
theorem d_Re_callLine_56 : decode b_Re_callLine 56 = .ok (.invokevirtual 147, 3) := by decide +kernel
theorem d_Re_callLine_59 : decode b_Re_callLine 59 = .ok (.pop, 1) := by decide +kernel
theorem d_Re_callLine_60 : decode b_Re_callLine 60 = .ok (.aload_n 1, 1) := by decide +kernel
theorem d_Re_callLine_61 : decode b_Re_callLine 61 = .ok (.getfield 302, 3) := by decide +kernel
theorem d_Re_callLine_64 : decode b_Re_callLine 64 = .ok (.iload_n 3, 1) := by decide +kernel
theorem d_Re_callLine_65 : decode b_Re_callLine 65 = .ok (.aload_n 0, 1) := by decide +kernel
theorem d_Re_callLine_66 : decode b_Re_callLine 66 = .ok (.bipush 107, 2) := by decide +kernel
theorem d_Re_callLine_68 : decode b_Re_callLine 68 = .ok (.invokevirtual 147, 3) := by decide +kernel
theorem d_Re_callLine_71 : decode b_Re_callLine 71 = .ok (.iastore, 1) := by decide +kernel
theorem d_Re_callLine_72 : decode b_Re_callLine 72 = .ok (.iinc 3 1, 3) := by decide +kernel
theorem d_Re_callLine_75 : decode b_Re_callLine 75 = .ok (.goto (-46), 3) := by decide +kernel
theorem d_Re_callLine_78 : decode b_Re_callLine 78 = .ok (.aload_n 0, 1) := by decide +kernel
theorem d_Re_callLine_79 : decode b_Re_callLine 79 = .ok (.bipush 36, 2) := by decide +kernel
theorem d_Re_callLine_81 : decode b_Re_callLine 81 = .ok (.invokevirtual 147, 3) := by decide +kernel
theorem d_Re_callLine_84 : decode b_Re_callLine 84 = .ok (.pop, 1) := by decide +kernel
theorem d_Re_callLine_85 : decode b_Re_callLine 85 = .ok (.aload_n 0, 1) := by decide +kernel
theorem d_Re_callLine_86 : decode b_Re_callLine 86 = .ok (.getfield 18, 3) := by decide +kernel
theorem d_Re_callLine_89 : decode b_Re_callLine 89 = .ok (.ifCond .ne 7, 3) := by decide +kernel
theorem d_Re_callLine_92 : decode b_Re_callLine 92 = .ok (.iconst 1, 1) := by decide +kernel
theorem d_Re_callLine_93 : decode b_Re_callLine 93 = .ok (.goto 4, 3) := by decide +kernel
theorem d_Re_callLine_96 : decode b_Re_callLine 96 = .ok (.iconst 0, 1) := by decide +kernel
theorem d_Re_callLine_97 : decode b_Re_callLine 97 = .ok (.ireturn, 1) := by decide +kernel
abbrev ra_Re_callLine (mc ms : Nat) : Room := { frames := 7, cells := mc, slots := ms, locals := 472 }
def wja_Re_callLine_97 (mc ms : Nat) (Post : Ly → St → Int32 → Nat → Nat → Prop) (a0 : Nat) (a1 : Nat) (y_j97 : Ly) (s_j97 : St) (d_j97 e_j97 : Nat) (z0j97 : Int32) : Prop := (d_j97 ≤ mc ∧ e_j97 ≤ ms) ∧ (nb z0j97 ∧ Post y_j97 s_j97 z0j97 d_j97 e_j97)
def wja_Re_callLine_78 (mc ms : Nat) (Post : Ly → St → Int32 → Nat → Nat → Prop) (a0 : Nat) (a1 : Nat) (y_j78 : Ly) (s_j78 : St) (d_j78 e_j78 : Nat) : Prop := (d_j78 ≤ mc ∧ e_j78 ≤ ms) ∧ wu_Re_take y_j78 (fun (s_12 : St) (r_11 : Int32) => ((¬ (sV s_12 a0 5) = 0 → wja_Re_callLine_97 mc ms Post a0 a1 y_j78 s_12 d_j78 e_j78 0) ∧ ((sV s_12 a0 5) = 0 → wja_Re_callLine_97 mc ms Post a0 a1 y_j78 s_12 d_j78 e_j78 1))) s_j78 a0 36
def wja_Re_callLine_56 (mc ms : Nat) (Post : Ly → St → Int32 → Nat → Nat → Prop) (K_29 : Ly → St → Nat → Nat → Int32 → Prop) (a0 : Nat) (a1 : Nat) (y_j56 : Ly) (s_j56 : St) (d_j56 e_j56 : Nat) (x3j56 : Int32) (z1j56 : Int32) : Prop := (d_j56 ≤ mc ∧ e_j56 ≤ ms) ∧ wu_Re_take y_j56 (fun (s_14 : St) (r_13 : Int32) => wu_Re_take y_j56 (fun (s_16 : St) (r_15 : Int32) => xS y_j56 s_16 a1 2 x3j56 r_15 (fun s_17 : St => K_29 y_j56 s_17 d_j56 e_j56 (x3j56 + 1))) s_14 a0 107) s_j56 a0 z1j56
def wba_Re_callLine_29 (mc ms : Nat) (Post : Ly → St → Int32 → Nat → Nat → Prop) (K_29 : Ly → St → Nat → Nat → Int32 → Prop) (a0 : Nat) (a1 : Nat) (y_h29 : Ly) (s_h29 : St) (d_h29 e_h29 : Nat) (x3h29 : Int32) : Prop := (d_h29 ≤ mc ∧ e_h29 ≤ ms) ∧ (((sV s_h29 a0 12) ≤ x3h29 → wja_Re_callLine_78 mc ms Post a0 a1 y_h29 s_h29 d_h29 e_h29) ∧ (¬ ((sV s_h29 a0 12) ≤ x3h29) → ((¬ (sV s_h29 a0 5) = 0 → wja_Re_callLine_78 mc ms Post a0 a1 y_h29 s_h29 d_h29 e_h29) ∧ ((sV s_h29 a0 5) = 0 → ((¬ x3h29 = 0 → wja_Re_callLine_56 mc ms Post K_29 a0 a1 y_h29 s_h29 d_h29 e_h29 x3h29 44) ∧ (x3h29 = 0 → wja_Re_callLine_56 mc ms Post K_29 a0 a1 y_h29 s_h29 d_h29 e_h29 x3h29 58))))))
def wla_Re_callLine_29 (mc ms : Nat) (Post : Ly → St → Int32 → Nat → Nat → Prop) (a0 : Nat) (a1 : Nat) (y_h29 : Ly) (s_h29 : St) (d_h29 e_h29 : Nat) (x3h29 : Int32) : Prop := ∃ (I : Ly → St → Nat → Nat → Int32 → Prop) (μ : Ly → St → Nat → Nat → Int32 → Nat), I y_h29 s_h29 d_h29 e_h29 x3h29 ∧ ∀ (u1 : Ly) (u2 : St) (u3 u4 : Nat) (t0 : Int32), I u1 u2 u3 u4 t0 → wba_Re_callLine_29 mc ms Post (fun z1 z2 z3 z4 t0q => I z1 z2 z3 z4 t0q ∧ μ z1 z2 z3 z4 t0q < μ u1 u2 u3 u4 t0) a0 a1 u1 u2 u3 u4 t0
def wja_Re_callLine_20 (mc ms : Nat) (Post : Ly → St → Int32 → Nat → Nat → Prop) (a0 : Nat) (a1 : Nat) (y_j20 : Ly) (s_j20 : St) (d_j20 e_j20 : Nat) : Prop := (d_j20 ≤ mc ∧ e_j20 ≤ ms) ∧ ∃ mc_8 ms_9 : Nat, (d_j20 + mc_8 ≤ mc ∧ e_j20 + ms_9 ≤ ms) ∧ wa_Re_takeCalled mc_8 ms_9 y_j20 (fun (y_5 : Ly) (s_4 : St) (d_6 e_7 : Nat) => (d_j20 + d_6 ≤ mc ∧ e_j20 + e_7 ≤ ms) ∧ wla_Re_callLine_29 mc ms Post a0 a1 y_5 s_4 (d_j20 + d_6) (e_j20 + e_7) 0) s_j20 a0 a1 78
def wa_Re_callLine (mc ms : Nat) (y : Ly) (Post : Ly → St → Int32 → Nat → Nat → Prop) (σ : St) (a0 : Nat) (a1 : Nat) (v2 : Int32) : Prop := xP (uV σ a0 5 0) (fun s_1 : St => xP (uV s_1 a0 8 0) (fun s_2 : St => ((v2 = 0 → wja_Re_callLine_20 mc ms Post a0 a1 y s_2 0 0) ∧ (¬ (v2 = 0) → wu_Re_takeKey y (fun (s_19 : St) => wja_Re_callLine_20 mc ms Post a0 a1 y s_19 0 0) s_2 a0 42))))
set_option maxHeartbeats 4000000 in
set_option maxRecDepth 100000 in
theorem ca_Re_callLine (l : Launch) (D : va_G) (g : Nat → ClassId) (ad : Nat → Nat) (mc ms : Nat) (y : Ly) (Post : Ly → St → Int32 → Nat → Nat → Prop) (σ : St) (a0 : Nat) (a1 : Nat) (v2 : Int32) (sz uz : Nat) (h_a0 : cl a0 = 6) (h_a1 : cl a1 = 7) (h : wa_Re_callLine mc ms y Post σ a0 a1 v2) : Met l y_Re_callLine (mw y_Re_callLine b_Re_callLine 4 (some (.boolean))) (ra_Re_callLine mc ms) (PCu g D [] [.ref (ad a0), .ref (ad a1), .int v2] sz uz (ws g ad y σ)) (va_Qi (fun (r : Int32) (u : Ly × St × Nat × Nat) => Post u.1 u.2.1 r u.2.2.1 u.2.2.2) (QU D (va_A (ws g ad y σ) sz) (fun u => ws g ad u.1 u.2.1) sz uz (fun u => u.2.2.1) (fun u => u.2.2.2)) (va_A (ws g ad y σ) sz)) mc ms (va_A (ws g ad y σ) sz) := by
  refine ofZu (by decide +kernel) (Nat.le_of_ble_eq_true rfl) ?_
  intro p e s m args below meth c A Q ls H locs G hsz hP hD hS hl hret
  subst hsz
  have hl : lv_has ls 4 [(0, .ref (ad a0)), (1, .ref (ad a1)), (2, .int v2)] := hl
  have hd : 0 ≤ mc ∧ 0 ≤ ms := ⟨Nat.zero_le _, Nat.zero_le _⟩
  unfold wa_Re_callLine at h
  refine lv_aload_n G.1 G.2.1 d_Re_callLine_0 rfl (lv_at hl 0 rfl) ?_
  refine lv_iconst (v := 0) G.1 G.2.1 d_Re_callLine_1 (by decide) ?_
  refine upf G hP hD hS h 5 putV h_a0 iRe tRe tRe_ok nRe rfl (by decide) rfl q592 rfl rfl fV rfl rfl d_Re_callLine_2 (fun s_1 H locs h hP hD hS => ?_)
  refine lv_aload_n G.1 G.2.1 d_Re_callLine_5 rfl (lv_at hl 0 rfl) ?_
  refine lv_iconst (v := 0) G.1 G.2.1 d_Re_callLine_6 (by decide) ?_
  refine upf G hP hD hS h 8 putV h_a0 iRe tRe tRe_ok nRe rfl (by decide) rfl q595 rfl rfl fV rfl rfl d_Re_callLine_7 (fun s_2 H locs h hP hD hS => ?_)
  refine lv_iload_n G.1 G.2.1 d_Re_callLine_10 rfl (lv_at hl 2 rfl) ?_
  have J_20 : ∀ (y_j20 : Ly) (s_j20 : St) (d_j20 e_j20 : Nat) (H : Heap) (locs : List Loc), wja_Re_callLine_20 mc ms Post a0 a1 y_j20 s_j20 d_j20 e_j20 → va_P D CL (ws g ad y_j20 s_j20) H → va_D A (ws g ad y_j20 s_j20) → va_S A s.heap H locs → ∀ ls, lv_has ls 4 [(0, .ref (ad a0)), (1, .ref (ad a1))] → W p l e (ra_Re_callLine mc ms) s m args below meth c H locs d_j20 e_j20 Q (F0 m 20 ls []) := by
    intro y_j20 s_j20 d_j20 e_j20 H locs h hP hD hS ls hl
    unfold wja_Re_callLine_20 at h
    obtain ⟨hd, h⟩ := h
    refine lv_aload_n G.1 G.2.1 d_Re_callLine_20 rfl (lv_at hl 0 rfl) ?_
    refine lv_aload_n G.1 G.2.1 d_Re_callLine_21 rfl (lv_at hl 1 rfl) ?_
    refine lv_bipush (v := 78) G.1 G.2.1 d_Re_callLine_22 (by decide) ?_
    obtain ⟨mc_8, ms_9, hr_10, h⟩ := h
    refine uaVv (As := [.ref (ad a1), .int 78]) (rest := []) G hP hD hS (ca_Re_takeCalled l D g ad mc_8 ms_9 y_j20 _ s_j20 a0 a1 78 H.size (us H) h_a0 h_a1 h) w9_Re_takeCalled q1743 ⟨Nat.le_of_ble_eq_true rfl, Nat.le_of_ble_eq_true rfl⟩ rfl rfl h_a0 (q := (RRe, TRe, 18)) rfl rfl hl.1 rfl (Nat.le_of_ble_eq_true rfl) rfl hr_10 d_Re_callLine_24 (fun y_5 s_4 d_6 e_7 H locs h hP hD hS => ?_)
    obtain ⟨hd, h⟩ := h
    refine lv_iconst (v := 0) G.1 G.2.1 d_Re_callLine_27 (by decide) ?_
    refine lv_istore_n (lv' := [(3, .int 0), (0, .ref (ad a0)), (1, .ref (ad a1))]) G.1 G.2.1 d_Re_callLine_28 rfl hl (by decide) rfl (fun ls hl => ?_)
    unfold wla_Re_callLine_29 at h
    obtain ⟨I_29, μ_29, hI_29, hB_29⟩ := h
    have L_29 : ∀ (n_29 : Nat) (y_h29 : Ly) (s_h29 : St) (d_h29 e_h29 : Nat) (x3h29 : Int32), μ_29 y_h29 s_h29 d_h29 e_h29 x3h29 < n_29 → I_29 y_h29 s_h29 d_h29 e_h29 x3h29 → ∀ (H : Heap) (locs : List Loc), va_P D CL (ws g ad y_h29 s_h29) H → va_D A (ws g ad y_h29 s_h29) → va_S A s.heap H locs → ∀ ls, lv_has ls 4 [(0, .ref (ad a0)), (1, .ref (ad a1)), (3, .int x3h29)] → W p l e (ra_Re_callLine mc ms) s m args below meth c H locs d_h29 e_h29 Q (F0 m 29 ls []) := by
      intro n_29
      induction n_29 with
      | zero => intro y_h29 s_h29 d_h29 e_h29 x3h29 hμ; exact absurd hμ (Nat.not_lt_zero _)
      | succ n_29 ih_29 =>
        intro y_h29 s_h29 d_h29 e_h29 x3h29 hμ_29 hJ H locs hP hD hS ls hl
        obtain ⟨K_29, hK_29, h⟩ : ∃ K : Ly → St → Nat → Nat → Int32 → Prop, (∀ z1 z2 z3 z4 (t0 : Int32), K z1 z2 z3 z4 t0 → I_29 z1 z2 z3 z4 t0 ∧ μ_29 z1 z2 z3 z4 t0 < μ_29 y_h29 s_h29 d_h29 e_h29 x3h29) ∧ wba_Re_callLine_29 mc ms Post K a0 a1 y_h29 s_h29 d_h29 e_h29 x3h29 := ⟨_, fun _ _ _ _ _ h => h, hB_29 y_h29 s_h29 d_h29 e_h29 x3h29 hJ⟩
        unfold wba_Re_callLine_29 at h
        obtain ⟨hd, h⟩ := h
        refine lv_iload_n G.1 G.2.1 d_Re_callLine_29 rfl (lv_at hl 2 rfl) ?_
        refine lv_aload_n G.1 G.2.1 d_Re_callLine_30 rfl (lv_at hl 0 rfl) ?_
        refine ugf (v := .int (sV s_h29 a0 12)) G hP h_a0 iRe rfl 12 (by decide) rfl q599 rfl rfl d_Re_callLine_31 ?_
        have J_78 : ∀ (y_j78 : Ly) (s_j78 : St) (d_j78 e_j78 : Nat) (H : Heap) (locs : List Loc), wja_Re_callLine_78 mc ms Post a0 a1 y_j78 s_j78 d_j78 e_j78 → va_P D CL (ws g ad y_j78 s_j78) H → va_D A (ws g ad y_j78 s_j78) → va_S A s.heap H locs → ∀ ls, lv_has ls 4 [(0, .ref (ad a0))] → W p l e (ra_Re_callLine mc ms) s m args below meth c H locs d_j78 e_j78 Q (F0 m 78 ls []) := by
          intro y_j78 s_j78 d_j78 e_j78 H locs h hP hD hS ls hl
          unfold wja_Re_callLine_78 at h
          obtain ⟨hd, h⟩ := h
          refine lv_aload_n G.1 G.2.1 d_Re_callLine_78 rfl (lv_at hl 0 rfl) ?_
          refine lv_bipush (v := 36) G.1 G.2.1 d_Re_callLine_79 (by decide) ?_
          refine ucVi (As := [.int 36]) (rest := []) G hP hD hS (cu_Re_take l D g ad y_j78 _ s_j78 a0 36 H.size h_a0 h) w9_Re_take q1321 ⟨Nat.le_of_ble_eq_true rfl, Nat.le_of_ble_eq_true rfl⟩ rfl rfl h_a0 (q := (RRe, TRe, 18)) rfl rfl hl.1 rfl (Nat.le_of_ble_eq_true rfl) rfl hd d_Re_callLine_81 (fun r_11 s_12 H locs h hP hD hS => ?_)
          refine lv_pop G.1 G.2.1 d_Re_callLine_84 rfl ?_
          refine lv_aload_n G.1 G.2.1 d_Re_callLine_85 rfl (lv_at hl 0 rfl) ?_
          refine ugf (v := .int (sV s_12 a0 5)) G hP h_a0 iRe rfl 5 (by decide) rfl q592 rfl rfl d_Re_callLine_86 ?_
          have J_97 : ∀ (y_j97 : Ly) (s_j97 : St) (d_j97 e_j97 : Nat) (z0j97 : Int32) (H : Heap) (locs : List Loc), wja_Re_callLine_97 mc ms Post a0 a1 y_j97 s_j97 d_j97 e_j97 z0j97 → va_P D CL (ws g ad y_j97 s_j97) H → va_D A (ws g ad y_j97 s_j97) → va_S A s.heap H locs → ∀ ls, lv_has ls 4 [] → W p l e (ra_Re_callLine mc ms) s m args below meth c H locs d_j97 e_j97 Q (F0 m 97 ls [.int z0j97]) := by
            intro y_j97 s_j97 d_j97 e_j97 z0j97 H locs h hP hD hS ls hl
            unfold wja_Re_callLine_97 at h
            obtain ⟨hd, h⟩ := h
            exact hret _ (y_j97, s_j97, d_j97, e_j97) _ _ _ _ _ ls (nb_n h.1) h.2 hP hD hS (Nat.le_refl _) (Nat.le_refl _) hd.1 hd.2 d_Re_callLine_97
          refine lv_if_ne (tgt := 96) G.1 G.2.1 d_Re_callLine_89 (by decide) (fun c89 => ?_) (fun c89 => ?_)
          · skip
            have h := h.1 c89
            refine lv_iconst (v := 0) G.1 G.2.1 d_Re_callLine_96 (by decide) ?_
            exact J_97 y_j78 s_12 d_j78 e_j78 0 H locs h hP hD hS ls (lv_sub hl [] rfl)
          · skip
            have h := h.2 c89
            refine lv_iconst (v := 1) G.1 G.2.1 d_Re_callLine_92 (by decide) ?_
            refine lv_goto (tgt := 97) G.1 G.2.1 d_Re_callLine_93 (by decide) ?_
            exact J_97 y_j78 s_12 d_j78 e_j78 1 H locs h hP hD hS ls (lv_sub hl [] rfl)
        refine lv_icmp_ge (tgt := 78) G.1 G.2.1 d_Re_callLine_34 (by decide) (fun c34 => ?_) (fun c34 => ?_)
        · skip
          have h := h.1 c34
          exact J_78 y_h29 s_h29 d_h29 e_h29 H locs h hP hD hS ls (lv_sub hl [0] rfl)
        · skip
          have h := h.2 c34
          refine lv_aload_n G.1 G.2.1 d_Re_callLine_37 rfl (lv_at hl 0 rfl) ?_
          refine ugf (v := .int (sV s_h29 a0 5)) G hP h_a0 iRe rfl 5 (by decide) rfl q592 rfl rfl d_Re_callLine_38 ?_
          refine lv_if_ne (tgt := 78) G.1 G.2.1 d_Re_callLine_41 (by decide) (fun c41 => ?_) (fun c41 => ?_)
          · skip
            have h := h.1 c41
            exact J_78 y_h29 s_h29 d_h29 e_h29 H locs h hP hD hS ls (lv_sub hl [0] rfl)
          · skip
            have h := h.2 c41
            refine lv_aload_n G.1 G.2.1 d_Re_callLine_44 rfl (lv_at hl 0 rfl) ?_
            refine lv_iload_n G.1 G.2.1 d_Re_callLine_45 rfl (lv_at hl 2 rfl) ?_
            have J_56 : ∀ (y_j56 : Ly) (s_j56 : St) (d_j56 e_j56 : Nat) (x3j56 : Int32) (z1j56 : Int32) (H : Heap) (locs : List Loc), wja_Re_callLine_56 mc ms Post K_29 a0 a1 y_j56 s_j56 d_j56 e_j56 x3j56 z1j56 → va_P D CL (ws g ad y_j56 s_j56) H → va_D A (ws g ad y_j56 s_j56) → va_S A s.heap H locs → ∀ ls, lv_has ls 4 [(0, .ref (ad a0)), (1, .ref (ad a1)), (3, .int x3j56)] → W p l e (ra_Re_callLine mc ms) s m args below meth c H locs d_j56 e_j56 Q (F0 m 56 ls [.int z1j56, .ref (ad a0)]) := by
              intro y_j56 s_j56 d_j56 e_j56 x3j56 z1j56 H locs h hP hD hS ls hl
              unfold wja_Re_callLine_56 at h
              obtain ⟨hd, h⟩ := h
              refine ucVi (As := [.int z1j56]) (rest := []) G hP hD hS (cu_Re_take l D g ad y_j56 _ s_j56 a0 z1j56 H.size h_a0 h) w9_Re_take q1321 ⟨Nat.le_of_ble_eq_true rfl, Nat.le_of_ble_eq_true rfl⟩ rfl rfl h_a0 (q := (RRe, TRe, 18)) rfl rfl hl.1 rfl (Nat.le_of_ble_eq_true rfl) rfl hd d_Re_callLine_56 (fun r_13 s_14 H locs h hP hD hS => ?_)
              refine lv_pop G.1 G.2.1 d_Re_callLine_59 rfl ?_
              refine lv_aload_n G.1 G.2.1 d_Re_callLine_60 rfl (lv_at hl 1 rfl) ?_
              refine ugf (v := .ref (yP y_j56 a1 2)) G hP h_a1 iRu rfl 2 (by decide) rfl q984 rfl rfl d_Re_callLine_61 ?_
              refine lv_iload_n G.1 G.2.1 d_Re_callLine_64 rfl (lv_at hl 2 rfl) ?_
              refine lv_aload_n G.1 G.2.1 d_Re_callLine_65 rfl (lv_at hl 0 rfl) ?_
              refine lv_bipush (v := 107) G.1 G.2.1 d_Re_callLine_66 (by decide) ?_
              refine ucVi (As := [.int 107]) (rest := [.int x3j56, .ref (yP y_j56 a1 2)]) G hP hD hS (cu_Re_take l D g ad y_j56 _ s_14 a0 107 H.size h_a0 h) w9_Re_take q1321 ⟨Nat.le_of_ble_eq_true rfl, Nat.le_of_ble_eq_true rfl⟩ rfl rfl h_a0 (q := (RRe, TRe, 18)) rfl rfl hl.1 rfl (Nat.le_of_ble_eq_true rfl) rfl hd d_Re_callLine_68 (fun r_15 s_16 H locs h hP hD hS => ?_)
              refine uiast G hP hD hS (kdp h_a1 rfl) (typ h_a1 rfl) h d_Re_callLine_71 (fun s_17 H locs h hP hD hS => ?_)
              refine lv_iinc (v := x3j56 + 1) (lv' := [(3, .int (x3j56 + 1)), (0, .ref (ad a0)), (1, .ref (ad a1))]) G.1 G.2.1 d_Re_callLine_72 hl (k := 2) rfl rfl (by decide) rfl (fun ls hl => ?_)
              refine lv_goto (tgt := 29) G.1 G.2.1 d_Re_callLine_75 (by decide) ?_
              have h := hK_29 y_j56 s_17 d_j56 e_j56 (x3j56 + 1) h
              exact ih_29 y_j56 s_17 d_j56 e_j56 (x3j56 + 1) (Nat.lt_of_lt_of_le h.2 (Nat.le_of_lt_succ hμ_29)) h.1 H locs hP hD hS ls (lv_sub hl [1, 2, 0] rfl)
            refine lv_if_ne (tgt := 54) G.1 G.2.1 d_Re_callLine_46 (by decide) (fun c46 => ?_) (fun c46 => ?_)
            · skip
              have h := h.1 c46
              refine lv_bipush (v := 44) G.1 G.2.1 d_Re_callLine_54 (by decide) ?_
              exact J_56 y_h29 s_h29 d_h29 e_h29 x3h29 44 H locs h hP hD hS ls (lv_sub hl [0, 1, 2] rfl)
            · skip
              have h := h.2 c46
              refine lv_bipush (v := 58) G.1 G.2.1 d_Re_callLine_49 (by decide) ?_
              refine W.eq (g2 := F0 m 51 ls [.int 58, .ref (ad a0)]) rfl ?_
              refine lv_goto (tgt := 56) G.1 G.2.1 d_Re_callLine_51 (by decide) ?_
              exact J_56 y_h29 s_h29 d_h29 e_h29 x3h29 58 H locs h hP hD hS ls (lv_sub hl [0, 1, 2] rfl)
    exact L_29 _ y_5 s_4 (d_j20 + d_6) (e_j20 + e_7) 0 (Nat.lt_succ_self _) hI_29 H locs hP hD hS ls (lv_sub hl [1, 2, 0] rfl)
  refine lv_if_eq (tgt := 20) G.1 G.2.1 d_Re_callLine_11 (by decide) (fun c11 => ?_) (fun c11 => ?_)
  · skip
    have h := h.1 c11
    exact J_20 y s_2 0 0 H locs h hP hD hS ls (lv_sub hl [0, 1] rfl)
  · skip
    have h := h.2 c11
    refine lv_aload_n G.1 G.2.1 d_Re_callLine_14 rfl (lv_at hl 0 rfl) ?_
    refine lv_bipush (v := 42) G.1 G.2.1 d_Re_callLine_15 (by decide) ?_
    refine ucVv (As := [.int 42]) (rest := []) G hP hD hS (cu_Re_takeKey l D g ad y _ s_2 a0 42 H.size h_a0 h) w9_Re_takeKey q1313 ⟨Nat.le_of_ble_eq_true rfl, Nat.le_of_ble_eq_true rfl⟩ rfl rfl h_a0 (q := (RRe, TRe, 18)) rfl rfl hl.1 rfl (Nat.le_of_ble_eq_true rfl) rfl hd d_Re_callLine_17 (fun s_19 H locs h hP hD hS => ?_)
    exact J_20 y s_19 0 0 H locs h hP hD hS ls (lv_sub hl [0, 1] rfl)
theorem q1739 : Cond.methodLink "ClassWorks$Reader" 286 y_Re_callLine ∈ lw_ok := lw_okmem (List.mem_of_getElem? (i := 1739) (by decide +kernel)) rfl
theorem q1742 : Cond.code y_Re_callLine b_Re_callLine 4 (some (.boolean)) ∈ lw_ok := lw_okmem (List.mem_of_getElem? (i := 1742) (by decide +kernel)) rfl
theorem q1740 : Cond.instanceMethod y_Re_callLine ∈ lw_ok := lw_okmem (List.mem_of_getElem? (i := 1740) (by decide +kernel)) rfl
theorem q1741 : Cond.selects y_Re_callLine.cls y_Re_callLine y_Re_callLine ∈ lw_ok := lw_okmem (List.mem_of_getElem? (i := 1741) (by decide +kernel)) rfl
theorem w9_Re_callLine : CWv y_Re_callLine b_Re_callLine 4 (some (.boolean)) 2 ∧ Cond.instanceMethod y_Re_callLine ∈ lw_ok ∧ Cond.selects y_Re_callLine.cls y_Re_callLine y_Re_callLine ∈ lw_ok := ⟨⟨q1742, q340, by decide +kernel, by decide +kernel, by decide +kernel⟩, q1740, q1741⟩
def y_Re_readLine : MethodName := ⟨"ClassWorks$Reader", "readLine", "([BILClassWorks$Runner;Z)Z"⟩
abbrev b_Re_readLine : ByteArray := prog_8_method_33_code
theorem d_Re_readLine_0 : decode b_Re_readLine 0 = .ok (.iconst 0, 1) := by decide +kernel
theorem d_Re_readLine_1 : decode b_Re_readLine 1 = .ok (.istore 5, 2) := by decide +kernel
theorem d_Re_readLine_3 : decode b_Re_readLine 3 = .ok (.aload_n 0, 1) := by decide +kernel
theorem d_Re_readLine_4 : decode b_Re_readLine 4 = .ok (.iconst 0, 1) := by decide +kernel
theorem d_Re_readLine_5 : decode b_Re_readLine 5 = .ok (.putfield 18, 3) := by decide +kernel
theorem d_Re_readLine_8 : decode b_Re_readLine 8 = .ok (.iconst 0, 1) := by decide +kernel
theorem d_Re_readLine_9 : decode b_Re_readLine 9 = .ok (.istore 6, 2) := by decide +kernel
theorem d_Re_readLine_11 : decode b_Re_readLine 11 = .ok (.iload 6, 2) := by decide +kernel
theorem d_Re_readLine_13 : decode b_Re_readLine 13 = .ok (.iload_n 2, 1) := by decide +kernel
theorem d_Re_readLine_14 : decode b_Re_readLine 14 = .ok (.if_icmp .ge 96, 3) := by decide +kernel
theorem d_Re_readLine_17 : decode b_Re_readLine 17 = .ok (.aload_n 0, 1) := by decide +kernel
theorem d_Re_readLine_18 : decode b_Re_readLine 18 = .ok (.getfield 18, 3) := by decide +kernel
theorem d_Re_readLine_21 : decode b_Re_readLine 21 = .ok (.ifCond .ne 89, 3) := by decide +kernel
theorem d_Re_readLine_24 : decode b_Re_readLine 24 = .ok (.aload_n 0, 1) := by decide +kernel
theorem d_Re_readLine_25 : decode b_Re_readLine 25 = .ok (.getfield 68, 3) := by decide +kernel
theorem d_Re_readLine_28 : decode b_Re_readLine 28 = .ok (.aload_n 1, 1) := by decide +kernel
theorem d_Re_readLine_29 : decode b_Re_readLine 29 = .ok (.iload 6, 2) := by decide +kernel
theorem d_Re_readLine_31 : decode b_Re_readLine 31 = .ok (.iload_n 2, 1) := by decide +kernel
theorem d_Re_readLine_32 : decode b_Re_readLine 32 = .ok (.invokevirtual 84, 3) := by decide +kernel
theorem d_Re_readLine_35 : decode b_Re_readLine 35 = .ok (.ifCond .eq 63, 3) := by decide +kernel
theorem d_Re_readLine_38 : decode b_Re_readLine 38 = .ok (.iinc 5 1, 3) := by decide +kernel
theorem d_Re_readLine_41 : decode b_Re_readLine 41 = .ok (.iload 5, 2) := by decide +kernel
theorem d_Re_readLine_43 : decode b_Re_readLine 43 = .ok (.iconst 1, 1) := by decide +kernel
theorem d_Re_readLine_44 : decode b_Re_readLine 44 = .ok (.if_icmp .le 20, 3) := by decide +kernel
theorem d_Re_readLine_47 : decode b_Re_readLine 47 = .ok (.aload_n 0, 1) := by decide +kernel
theorem d_Re_readLine_48 : decode b_Re_readLine 48 = .ok (.iconst 1, 1) := by decide +kernel
theorem d_Re_readLine_49 : decode b_Re_readLine 49 = .ok (.aload_n 0, 1) := by decide +kernel
theorem d_Re_readLine_50 : decode b_Re_readLine 50 = .ok (.getfield 68, 3) := by decide +kernel
theorem d_Re_readLine_53 : decode b_Re_readLine 53 = .ok (.getfield 131, 3) := by decide +kernel
theorem d_Re_readLine_56 : decode b_Re_readLine 56 = .ok (.iconst 0, 1) := by decide +kernel
theorem d_Re_readLine_57 : decode b_Re_readLine 57 = .ok (.iaload, 1) := by decide +kernel
theorem d_Re_readLine_58 : decode b_Re_readLine 58 = .ok (.invokevirtual 96, 3) := by decide +kernel
theorem d_Re_readLine_61 : decode b_Re_readLine 61 = .ok (.goto 37, 3) := by decide +kernel
theorem d_Re_readLine_64 : decode b_Re_readLine 64 = .ok (.iload 4, 2) := by decide +kernel
theorem d_Re_readLine_66 : decode b_Re_readLine 66 = .ok (.ifCond .eq 13, 3) := by decide +kernel
theorem d_Re_readLine_69 : decode b_Re_readLine 69 = .ok (.aload_n 0, 1) := by decide +kernel
theorem d_Re_readLine_70 : decode b_Re_readLine 70 = .ok (.aload_n 3, 1) := by decide +kernel
theorem d_Re_readLine_71 : decode b_Re_readLine 71 = .ok (.iconst 0, 1) := by decide +kernel
theorem d_Re_readLine_72 : decode b_Re_readLine 72 = .ok (.invokevirtual 286, 3) := by decide +kernel
theorem d_Re_readLine_75 : decode b_Re_readLine 75 = .ok (.pop, 1) := by decide +kernel
theorem d_Re_readLine_76 : decode b_Re_readLine 76 = .ok (.goto 22, 3) := by decide +kernel
theorem d_Re_readLine_79 : decode b_Re_readLine 79 = .ok (.aload_n 0, 1) := by decide +kernel
theorem d_Re_readLine_80 : decode b_Re_readLine 80 = .ok (.iconst 0, 1) := by decide +kernel
theorem d_Re_readLine_81 : decode b_Re_readLine 81 = .ok (.putfield 27, 3) := by decide +kernel
theorem d_Re_readLine_84 : decode b_Re_readLine 84 = .ok (.aload_n 0, 1) := by decide +kernel
theorem d_Re_readLine_85 : decode b_Re_readLine 85 = .ok (.aload_n 3, 1) := by decide +kernel
theorem d_Re_readLine_86 : decode b_Re_readLine 86 = .ok (.bipush 84, 2) := by decide +kernel
theorem d_Re_readLine_88 : decode b_Re_readLine 88 = .ok (.invokevirtual 290, 3) := by decide +kernel
theorem d_Re_readLine_91 : decode b_Re_readLine 91 = .ok (.aload_n 0, 1) := by decide +kernel
theorem d_Re_readLine_92 : decode b_Re_readLine 92 = .ok (.bipush 36, 2) := by decide +kernel
theorem d_Re_readLine_94 : decode b_Re_readLine 94 = .ok (.invokevirtual 147, 3) := by decide +kernel
theorem d_Re_readLine_97 : decode b_Re_readLine 97 = .ok (.pop, 1) := by decide +kernel
theorem d_Re_readLine_98 : decode b_Re_readLine 98 = .ok (.aload_n 0, 1) := by decide +kernel
theorem d_Re_readLine_99 : decode b_Re_readLine 99 = .ok (.getfield 68, 3) := by decide +kernel
theorem d_Re_readLine_102 : decode b_Re_readLine 102 = .ok (.getfield 93, 3) := by decide +kernel
theorem d_Re_readLine_105 : decode b_Re_readLine 105 = .ok (.istore 6, 2) := by decide +kernel
theorem d_Re_readLine_107 : decode b_Re_readLine 107 = .ok (.goto (-96), 3) := by decide +kernel
theorem d_Re_readLine_110 : decode b_Re_readLine 110 = .ok (.iload 5, 2) := by decide +kernel
theorem d_Re_readLine_112 : decode b_Re_readLine 112 = .ok (.ifCond .ne 9, 3) := by decide +kernel
theorem d_Re_readLine_115 : decode b_Re_readLine 115 = .ok (.aload_n 0, 1) := by decide +kernel
theorem d_Re_readLine_116 : decode b_Re_readLine 116 = .ok (.iconst 1, 1) := by decide +kernel
theorem d_Re_readLine_117 : decode b_Re_readLine 117 = .ok (.iload_n 2, 1) := by decide +kernel
theorem d_Re_readLine_118 : decode b_Re_readLine 118 = .ok (.invokevirtual 96, 3) := by decide +kernel
theorem d_Re_readLine_121 : decode b_Re_readLine 121 = .ok (.aload_n 0, 1) := by decide +kernel
theorem d_Re_readLine_122 : decode b_Re_readLine 122 = .ok (.getfield 18, 3) := by decide +kernel
theorem d_Re_readLine_125 : decode b_Re_readLine 125 = .ok (.ifCond .ne 7, 3) := by decide +kernel
theorem d_Re_readLine_128 : decode b_Re_readLine 128 = .ok (.iconst 1, 1) := by decide +kernel
theorem d_Re_readLine_129 : decode b_Re_readLine 129 = .ok (.goto 4, 3) := by decide +kernel
theorem d_Re_readLine_132 : decode b_Re_readLine 132 = .ok (.iconst 0, 1) := by decide +kernel
theorem d_Re_readLine_133 : decode b_Re_readLine 133 = .ok (.ireturn, 1) := by decide +kernel
abbrev ra_Re_readLine (mc ms : Nat) : Room := { frames := 9, cells := mc, slots := ms, locals := 516 }
def wja_Re_readLine_133 (mc ms : Nat) (Post : Ly → St → Int32 → Nat → Nat → Prop) (a0 : Nat) (a1 : Nat) (k1 : Nat) (a3 : Nat) (y_j133 : Ly) (s_j133 : St) (d_j133 e_j133 : Nat) (z0j133 : Int32) : Prop := (d_j133 ≤ mc ∧ e_j133 ≤ ms) ∧ (nb z0j133 ∧ Post y_j133 s_j133 z0j133 d_j133 e_j133)
def wja_Re_readLine_121 (mc ms : Nat) (Post : Ly → St → Int32 → Nat → Nat → Prop) (a0 : Nat) (a1 : Nat) (k1 : Nat) (a3 : Nat) (y_j121 : Ly) (s_j121 : St) (d_j121 e_j121 : Nat) : Prop := (d_j121 ≤ mc ∧ e_j121 ≤ ms) ∧ ((¬ (sV s_j121 a0 5) = 0 → wja_Re_readLine_133 mc ms Post a0 a1 k1 a3 y_j121 s_j121 d_j121 e_j121 0) ∧ ((sV s_j121 a0 5) = 0 → wja_Re_readLine_133 mc ms Post a0 a1 k1 a3 y_j121 s_j121 d_j121 e_j121 1))
def wja_Re_readLine_110 (mc ms : Nat) (Post : Ly → St → Int32 → Nat → Nat → Prop) (a0 : Nat) (a1 : Nat) (k1 : Nat) (a3 : Nat) (y_j110 : Ly) (s_j110 : St) (d_j110 e_j110 : Nat) (x2j110 : Int32) (x5j110 : Int32) : Prop := (d_j110 ≤ mc ∧ e_j110 ≤ ms) ∧ ((¬ x5j110 = 0 → wja_Re_readLine_121 mc ms Post a0 a1 k1 a3 y_j110 s_j110 d_j110 e_j110) ∧ (x5j110 = 0 → wu_Re_refuse y_j110 (fun (s_3 : St) => wja_Re_readLine_121 mc ms Post a0 a1 k1 a3 y_j110 s_3 d_j110 e_j110) s_j110 a0 1 x2j110))
def wja_Re_readLine_98 (mc ms : Nat) (Post : Ly → St → Int32 → Nat → Nat → Prop) (K_11 : Ly → St → Nat → Nat → Int32 → Int32 → Int32 → Int32 → Prop) (a0 : Nat) (a1 : Nat) (k1 : Nat) (a3 : Nat) (y_j98 : Ly) (s_j98 : St) (d_j98 e_j98 : Nat) (x2j98 : Int32) (x4j98 : Int32) (x5j98 : Int32) : Prop := (d_j98 ≤ mc ∧ e_j98 ≤ ms) ∧ K_11 y_j98 s_j98 d_j98 e_j98 x2j98 x4j98 x5j98 (sV s_j98 (lk a0 3) 3)
def wba_Re_readLine_11 (mc ms : Nat) (Post : Ly → St → Int32 → Nat → Nat → Prop) (K_11 : Ly → St → Nat → Nat → Int32 → Int32 → Int32 → Int32 → Prop) (a0 : Nat) (a1 : Nat) (k1 : Nat) (a3 : Nat) (y_h11 : Ly) (s_h11 : St) (d_h11 e_h11 : Nat) (x2h11 : Int32) (x4h11 : Int32) (x5h11 : Int32) (x6h11 : Int32) : Prop := (d_h11 ≤ mc ∧ e_h11 ≤ ms) ∧ ((x2h11 ≤ x6h11 → wja_Re_readLine_110 mc ms Post a0 a1 k1 a3 y_h11 s_h11 d_h11 e_h11 x2h11 x5h11) ∧ (¬ (x2h11 ≤ x6h11) → ((¬ (sV s_h11 a0 5) = 0 → wja_Re_readLine_110 mc ms Post a0 a1 k1 a3 y_h11 s_h11 d_h11 e_h11 x2h11 x5h11) ∧ ((sV s_h11 a0 5) = 0 → ∃ mc_9 ms_10 : Nat, (d_h11 + mc_9 ≤ mc ∧ e_h11 + ms_10 ≤ ms) ∧ wa_Wo_load mc_9 ms_10 y_h11 (fun (y_6 : Ly) (s_5 : St) (r_4 : Int32) (d_7 e_8 : Nat) => (d_h11 + d_7 ≤ mc ∧ e_h11 + e_8 ≤ ms) ∧ yP y_h11 a1 k1 = yP y_6 a1 k1 ∧ ((r_4 = 0 → wja_Re_readLine_98 mc ms Post K_11 a0 a1 k1 a3 y_6 s_5 (d_h11 + d_7) (e_h11 + e_8) x2h11 x4h11 x5h11) ∧ (¬ (r_4 = 0) → (((x5h11 + 1) ≤ 1 → ((x4h11 = 0 → xP (uV s_5 a0 8 0) (fun s_13 : St => ∃ mc_19 ms_20 : Nat, (d_h11 + d_7 + mc_19 ≤ mc ∧ e_h11 + e_8 + ms_20 ≤ ms) ∧ wa_Re_takeCalled mc_19 ms_20 y_6 (fun (y_16 : Ly) (s_15 : St) (d_17 e_18 : Nat) => (d_h11 + d_7 + d_17 ≤ mc ∧ e_h11 + e_8 + e_18 ≤ ms) ∧ yP y_6 a1 k1 = yP y_16 a1 k1 ∧ wu_Re_take y_16 (fun (s_24 : St) (r_23 : Int32) => wja_Re_readLine_98 mc ms Post K_11 a0 a1 k1 a3 y_16 s_24 (d_h11 + d_7 + d_17) (e_h11 + e_8 + e_18) x2h11 x4h11 (x5h11 + 1)) s_15 a0 36) s_13 a0 a3 84)) ∧ (¬ (x4h11 = 0) → ∃ mc_30 ms_31 : Nat, (d_h11 + d_7 + mc_30 ≤ mc ∧ e_h11 + e_8 + ms_31 ≤ ms) ∧ wa_Re_callLine mc_30 ms_31 y_6 (fun (y_27 : Ly) (s_26 : St) (r_25 : Int32) (d_28 e_29 : Nat) => (d_h11 + d_7 + d_28 ≤ mc ∧ e_h11 + e_8 + e_29 ≤ ms) ∧ yP y_6 a1 k1 = yP y_27 a1 k1 ∧ wja_Re_readLine_98 mc ms Post K_11 a0 a1 k1 a3 y_27 s_26 (d_h11 + d_7 + d_28) (e_h11 + e_8 + e_29) x2h11 x4h11 (x5h11 + 1)) s_5 a0 a3 0))) ∧ (¬ ((x5h11 + 1) ≤ 1) → xA y_6 s_5 (lk a0 3) 2 0 (fun x_34 : Int32 => wu_Re_refuse y_6 (fun (s_36 : St) => wja_Re_readLine_98 mc ms Post K_11 a0 a1 k1 a3 y_6 s_36 (d_h11 + d_7) (e_h11 + e_8) x2h11 x4h11 (x5h11 + 1)) s_5 a0 1 x_34)))))) s_h11 (lk a0 3) a1 k1 x6h11 x2h11))))
def wla_Re_readLine_11 (mc ms : Nat) (Post : Ly → St → Int32 → Nat → Nat → Prop) (a0 : Nat) (a1 : Nat) (k1 : Nat) (a3 : Nat) (y_h11 : Ly) (s_h11 : St) (d_h11 e_h11 : Nat) (x2h11 : Int32) (x4h11 : Int32) (x5h11 : Int32) (x6h11 : Int32) : Prop := ∃ (I : Ly → St → Nat → Nat → Int32 → Int32 → Int32 → Int32 → Prop) (μ : Ly → St → Nat → Nat → Int32 → Int32 → Int32 → Int32 → Nat), I y_h11 s_h11 d_h11 e_h11 x2h11 x4h11 x5h11 x6h11 ∧ ∀ (u1 : Ly) (u2 : St) (u3 u4 : Nat) (t0 : Int32) (t1 : Int32) (t2 : Int32) (t3 : Int32), I u1 u2 u3 u4 t0 t1 t2 t3 → wba_Re_readLine_11 mc ms Post (fun z1 z2 z3 z4 t0q t1q t2q t3q => I z1 z2 z3 z4 t0q t1q t2q t3q ∧ μ z1 z2 z3 z4 t0q t1q t2q t3q < μ u1 u2 u3 u4 t0 t1 t2 t3) a0 a1 k1 a3 u1 u2 u3 u4 t0 t1 t2 t3
def wa_Re_readLine (mc ms : Nat) (y : Ly) (Post : Ly → St → Int32 → Nat → Nat → Prop) (σ : St) (a0 : Nat) (a1 : Nat) (k1 : Nat) (v2 : Int32) (a3 : Nat) (v4 : Int32) : Prop := xP (uV σ a0 5 0) (fun s_1 : St => wla_Re_readLine_11 mc ms Post a0 a1 k1 a3 y s_1 0 0 v2 v4 0 0)
set_option maxHeartbeats 4000000 in
set_option maxRecDepth 100000 in
theorem ca_Re_readLine (l : Launch) (D : va_G) (g : Nat → ClassId) (ad : Nat → Nat) (mc ms : Nat) (y : Ly) (Post : Ly → St → Int32 → Nat → Nat → Prop) (σ : St) (a0 : Nat) (a1 : Nat) (k1 : Nat) (v2 : Int32) (a3 : Nat) (v4 : Int32) (sz uz : Nat) (h_a0 : cl a0 = 6) (h_a1 : kd (cl a1) k1 = 2 ∧ tyx (cl a1) k1 = 1) (h_a3 : cl a3 = 7) (h : wa_Re_readLine mc ms y Post σ a0 a1 k1 v2 a3 v4) : Met l y_Re_readLine (mw y_Re_readLine b_Re_readLine 7 (some (.boolean))) (ra_Re_readLine mc ms) (PCu g D [] [.ref (ad a0), .ref (yP y a1 k1), .int v2, .ref (ad a3), .int v4] sz uz (ws g ad y σ)) (va_Qi (fun (r : Int32) (u : Ly × St × Nat × Nat) => Post u.1 u.2.1 r u.2.2.1 u.2.2.2) (QU D (va_A (ws g ad y σ) sz) (fun u => ws g ad u.1 u.2.1) sz uz (fun u => u.2.2.1) (fun u => u.2.2.2)) (va_A (ws g ad y σ) sz)) mc ms (va_A (ws g ad y σ) sz) := by
  refine ofZu (by decide +kernel) (Nat.le_of_ble_eq_true rfl) ?_
  intro p e s m args below meth c A Q ls H locs G hsz hP hD hS hl hret
  subst hsz
  have hl : lv_has ls 7 [(0, .ref (ad a0)), (1, .ref (yP y a1 k1)), (2, .int v2), (3, .ref (ad a3)), (4, .int v4)] := hl
  have hd : 0 ≤ mc ∧ 0 ≤ ms := ⟨Nat.zero_le _, Nat.zero_le _⟩
  unfold wa_Re_readLine at h
  refine lv_iconst (v := 0) G.1 G.2.1 d_Re_readLine_0 (by decide) ?_
  refine lv_istore (lv' := [(5, .int 0), (0, .ref (ad a0)), (1, .ref (yP y a1 k1)), (2, .int v2), (3, .ref (ad a3)), (4, .int v4)]) G.1 G.2.1 d_Re_readLine_1 hl (by decide) rfl (fun ls hl => ?_)
  refine lv_aload_n G.1 G.2.1 d_Re_readLine_3 rfl (lv_at hl 1 rfl) ?_
  refine lv_iconst (v := 0) G.1 G.2.1 d_Re_readLine_4 (by decide) ?_
  refine upf G hP hD hS h 5 putV h_a0 iRe tRe tRe_ok nRe rfl (by decide) rfl q592 rfl rfl fV rfl rfl d_Re_readLine_5 (fun s_1 H locs h hP hD hS => ?_)
  refine lv_iconst (v := 0) G.1 G.2.1 d_Re_readLine_8 (by decide) ?_
  refine lv_istore (lv' := [(6, .int 0), (5, .int 0), (0, .ref (ad a0)), (1, .ref (yP y a1 k1)), (2, .int v2), (3, .ref (ad a3)), (4, .int v4)]) G.1 G.2.1 d_Re_readLine_9 hl (by decide) rfl (fun ls hl => ?_)
  unfold wla_Re_readLine_11 at h
  obtain ⟨I_11, μ_11, hI_11, hB_11⟩ := h
  have L_11 : ∀ (n_11 : Nat) (y_h11 : Ly) (s_h11 : St) (d_h11 e_h11 : Nat) (x2h11 : Int32) (x4h11 : Int32) (x5h11 : Int32) (x6h11 : Int32), μ_11 y_h11 s_h11 d_h11 e_h11 x2h11 x4h11 x5h11 x6h11 < n_11 → I_11 y_h11 s_h11 d_h11 e_h11 x2h11 x4h11 x5h11 x6h11 → ∀ (H : Heap) (locs : List Loc), va_P D CL (ws g ad y_h11 s_h11) H → va_D A (ws g ad y_h11 s_h11) → va_S A s.heap H locs → ∀ ls, lv_has ls 7 [(0, .ref (ad a0)), (1, .ref (yP y_h11 a1 k1)), (2, .int x2h11), (3, .ref (ad a3)), (4, .int x4h11), (5, .int x5h11), (6, .int x6h11)] → W p l e (ra_Re_readLine mc ms) s m args below meth c H locs d_h11 e_h11 Q (F0 m 11 ls []) := by
    intro n_11
    induction n_11 with
    | zero => intro y_h11 s_h11 d_h11 e_h11 x2h11 x4h11 x5h11 x6h11 hμ; exact absurd hμ (Nat.not_lt_zero _)
    | succ n_11 ih_11 =>
      intro y_h11 s_h11 d_h11 e_h11 x2h11 x4h11 x5h11 x6h11 hμ_11 hJ H locs hP hD hS ls hl
      obtain ⟨K_11, hK_11, h⟩ : ∃ K : Ly → St → Nat → Nat → Int32 → Int32 → Int32 → Int32 → Prop, (∀ z1 z2 z3 z4 (t0 : Int32) (t1 : Int32) (t2 : Int32) (t3 : Int32), K z1 z2 z3 z4 t0 t1 t2 t3 → I_11 z1 z2 z3 z4 t0 t1 t2 t3 ∧ μ_11 z1 z2 z3 z4 t0 t1 t2 t3 < μ_11 y_h11 s_h11 d_h11 e_h11 x2h11 x4h11 x5h11 x6h11) ∧ wba_Re_readLine_11 mc ms Post K a0 a1 k1 a3 y_h11 s_h11 d_h11 e_h11 x2h11 x4h11 x5h11 x6h11 := ⟨_, fun _ _ _ _ _ _ _ _ h => h, hB_11 y_h11 s_h11 d_h11 e_h11 x2h11 x4h11 x5h11 x6h11 hJ⟩
      unfold wba_Re_readLine_11 at h
      obtain ⟨hd, h⟩ := h
      refine lv_iload G.1 G.2.1 d_Re_readLine_11 (lv_at hl 6 rfl) ?_
      refine lv_iload_n G.1 G.2.1 d_Re_readLine_13 rfl (lv_at hl 2 rfl) ?_
      have J_110 : ∀ (y_j110 : Ly) (s_j110 : St) (d_j110 e_j110 : Nat) (x2j110 : Int32) (x5j110 : Int32) (H : Heap) (locs : List Loc), wja_Re_readLine_110 mc ms Post a0 a1 k1 a3 y_j110 s_j110 d_j110 e_j110 x2j110 x5j110 → va_P D CL (ws g ad y_j110 s_j110) H → va_D A (ws g ad y_j110 s_j110) → va_S A s.heap H locs → ∀ ls, lv_has ls 7 [(0, .ref (ad a0)), (2, .int x2j110), (5, .int x5j110)] → W p l e (ra_Re_readLine mc ms) s m args below meth c H locs d_j110 e_j110 Q (F0 m 110 ls []) := by
        intro y_j110 s_j110 d_j110 e_j110 x2j110 x5j110 H locs h hP hD hS ls hl
        unfold wja_Re_readLine_110 at h
        obtain ⟨hd, h⟩ := h
        refine lv_iload G.1 G.2.1 d_Re_readLine_110 (lv_at hl 2 rfl) ?_
        have J_121 : ∀ (y_j121 : Ly) (s_j121 : St) (d_j121 e_j121 : Nat) (H : Heap) (locs : List Loc), wja_Re_readLine_121 mc ms Post a0 a1 k1 a3 y_j121 s_j121 d_j121 e_j121 → va_P D CL (ws g ad y_j121 s_j121) H → va_D A (ws g ad y_j121 s_j121) → va_S A s.heap H locs → ∀ ls, lv_has ls 7 [(0, .ref (ad a0))] → W p l e (ra_Re_readLine mc ms) s m args below meth c H locs d_j121 e_j121 Q (F0 m 121 ls []) := by
          intro y_j121 s_j121 d_j121 e_j121 H locs h hP hD hS ls hl
          unfold wja_Re_readLine_121 at h
          obtain ⟨hd, h⟩ := h
          refine lv_aload_n G.1 G.2.1 d_Re_readLine_121 rfl (lv_at hl 0 rfl) ?_
          refine ugf (v := .int (sV s_j121 a0 5)) G hP h_a0 iRe rfl 5 (by decide) rfl q592 rfl rfl d_Re_readLine_122 ?_
          have J_133 : ∀ (y_j133 : Ly) (s_j133 : St) (d_j133 e_j133 : Nat) (z0j133 : Int32) (H : Heap) (locs : List Loc), wja_Re_readLine_133 mc ms Post a0 a1 k1 a3 y_j133 s_j133 d_j133 e_j133 z0j133 → va_P D CL (ws g ad y_j133 s_j133) H → va_D A (ws g ad y_j133 s_j133) → va_S A s.heap H locs → ∀ ls, lv_has ls 7 [] → W p l e (ra_Re_readLine mc ms) s m args below meth c H locs d_j133 e_j133 Q (F0 m 133 ls [.int z0j133]) := by
            intro y_j133 s_j133 d_j133 e_j133 z0j133 H locs h hP hD hS ls hl
            unfold wja_Re_readLine_133 at h
            obtain ⟨hd, h⟩ := h
            exact hret _ (y_j133, s_j133, d_j133, e_j133) _ _ _ _ _ ls (nb_n h.1) h.2 hP hD hS (Nat.le_refl _) (Nat.le_refl _) hd.1 hd.2 d_Re_readLine_133
          refine lv_if_ne (tgt := 132) G.1 G.2.1 d_Re_readLine_125 (by decide) (fun c125 => ?_) (fun c125 => ?_)
          · skip
            have h := h.1 c125
            refine lv_iconst (v := 0) G.1 G.2.1 d_Re_readLine_132 (by decide) ?_
            exact J_133 y_j121 s_j121 d_j121 e_j121 0 H locs h hP hD hS ls (lv_sub hl [] rfl)
          · skip
            have h := h.2 c125
            refine lv_iconst (v := 1) G.1 G.2.1 d_Re_readLine_128 (by decide) ?_
            refine lv_goto (tgt := 133) G.1 G.2.1 d_Re_readLine_129 (by decide) ?_
            exact J_133 y_j121 s_j121 d_j121 e_j121 1 H locs h hP hD hS ls (lv_sub hl [] rfl)
        refine lv_if_ne (tgt := 121) G.1 G.2.1 d_Re_readLine_112 (by decide) (fun c112 => ?_) (fun c112 => ?_)
        · skip
          have h := h.1 c112
          exact J_121 y_j110 s_j110 d_j110 e_j110 H locs h hP hD hS ls (lv_sub hl [0] rfl)
        · skip
          have h := h.2 c112
          refine lv_aload_n G.1 G.2.1 d_Re_readLine_115 rfl (lv_at hl 0 rfl) ?_
          refine lv_iconst (v := 1) G.1 G.2.1 d_Re_readLine_116 (by decide) ?_
          refine lv_iload_n G.1 G.2.1 d_Re_readLine_117 rfl (lv_at hl 1 rfl) ?_
          refine ucVv (As := [.int 1, .int x2j110]) (rest := []) G hP hD hS (cu_Re_refuse l D g ad y_j110 _ s_j110 a0 1 x2j110 H.size h_a0 h) w9_Re_refuse q1317 ⟨Nat.le_of_ble_eq_true rfl, Nat.le_of_ble_eq_true rfl⟩ rfl rfl h_a0 (q := (RRe, TRe, 18)) rfl rfl hl.1 rfl (Nat.le_of_ble_eq_true rfl) rfl hd d_Re_readLine_118 (fun s_3 H locs h hP hD hS => ?_)
          exact J_121 y_j110 s_3 d_j110 e_j110 H locs h hP hD hS ls (lv_sub hl [0] rfl)
      refine lv_icmp_ge (tgt := 110) G.1 G.2.1 d_Re_readLine_14 (by decide) (fun c14 => ?_) (fun c14 => ?_)
      · skip
        have h := h.1 c14
        exact J_110 y_h11 s_h11 d_h11 e_h11 x2h11 x5h11 H locs h hP hD hS ls (lv_sub hl [0, 2, 5] rfl)
      · skip
        have h := h.2 c14
        refine lv_aload_n G.1 G.2.1 d_Re_readLine_17 rfl (lv_at hl 0 rfl) ?_
        refine ugf (v := .int (sV s_h11 a0 5)) G hP h_a0 iRe rfl 5 (by decide) rfl q592 rfl rfl d_Re_readLine_18 ?_
        refine lv_if_ne (tgt := 110) G.1 G.2.1 d_Re_readLine_21 (by decide) (fun c21 => ?_) (fun c21 => ?_)
        · skip
          have h := h.1 c21
          exact J_110 y_h11 s_h11 d_h11 e_h11 x2h11 x5h11 H locs h hP hD hS ls (lv_sub hl [0, 2, 5] rfl)
        · skip
          have h := h.2 c21
          refine lv_aload_n G.1 G.2.1 d_Re_readLine_24 rfl (lv_at hl 0 rfl) ?_
          refine ugf (v := .ref (ad (lk a0 3))) G hP h_a0 iRe rfl 3 (by decide) rfl q590 rfl rfl d_Re_readLine_25 ?_
          refine lv_aload_n G.1 G.2.1 d_Re_readLine_28 rfl (lv_at hl 1 rfl) ?_
          refine lv_iload G.1 G.2.1 d_Re_readLine_29 (lv_at hl 6 rfl) ?_
          refine lv_iload_n G.1 G.2.1 d_Re_readLine_31 rfl (lv_at hl 2 rfl) ?_
          refine W.eq (g2 := F0 m 32 ls [.int x2h11, .int x6h11, .ref (yP y_h11 a1 k1), .ref (ad (lk a0 3))]) rfl ?_
          obtain ⟨mc_9, ms_10, hr_11, h⟩ := h
          refine uaVi (As := [.ref (yP y_h11 a1 k1), .int x6h11, .int x2h11]) (rest := []) G hP hD hS (ca_Wo_load l D g ad mc_9 ms_10 y_h11 _ s_h11 (lk a0 3) a1 k1 x6h11 x2h11 H.size (us H) (lk_6_3 h_a0) ⟨h_a1.1, h_a1.2⟩ h) w9_Wo_load q1264 ⟨Nat.le_of_ble_eq_true rfl, Nat.le_of_ble_eq_true rfl⟩ rfl rfl (lk_6_3 h_a0) (q := (RWo, TWo, 8)) rfl rfl hl.1 rfl (Nat.le_of_ble_eq_true rfl) rfl hr_11 d_Re_readLine_32 (fun r_4 y_6 s_5 d_7 e_8 H locs h hP hD hS => ?_)
          have hl := lv_sub (l' := [(0, .ref (ad a0)), (1, .ref (yP y_h11 a1 k1)), (2, .int x2h11), (3, .ref (ad a3)), (4, .int x4h11), (5, .int x5h11)]) hl [0, 1, 2, 3, 4, 5] rfl
          obtain ⟨hd, h⟩ := h
          obtain ⟨n_12, h⟩ := h
          rw [n_12] at hl
          have J_98 : ∀ (y_j98 : Ly) (s_j98 : St) (d_j98 e_j98 : Nat) (x2j98 : Int32) (x4j98 : Int32) (x5j98 : Int32) (H : Heap) (locs : List Loc), wja_Re_readLine_98 mc ms Post K_11 a0 a1 k1 a3 y_j98 s_j98 d_j98 e_j98 x2j98 x4j98 x5j98 → va_P D CL (ws g ad y_j98 s_j98) H → va_D A (ws g ad y_j98 s_j98) → va_S A s.heap H locs → ∀ ls, lv_has ls 7 [(0, .ref (ad a0)), (1, .ref (yP y_j98 a1 k1)), (2, .int x2j98), (3, .ref (ad a3)), (4, .int x4j98), (5, .int x5j98)] → W p l e (ra_Re_readLine mc ms) s m args below meth c H locs d_j98 e_j98 Q (F0 m 98 ls []) := by
            intro y_j98 s_j98 d_j98 e_j98 x2j98 x4j98 x5j98 H locs h hP hD hS ls hl
            unfold wja_Re_readLine_98 at h
            obtain ⟨hd, h⟩ := h
            refine lv_aload_n G.1 G.2.1 d_Re_readLine_98 rfl (lv_at hl 0 rfl) ?_
            refine ugf (v := .ref (ad (lk a0 3))) G hP h_a0 iRe rfl 3 (by decide) rfl q590 rfl rfl d_Re_readLine_99 ?_
            refine ugf (v := .int (sV s_j98 (lk a0 3) 3)) G hP (lk_6_3 h_a0) iWo rfl 3 (by decide) rfl q554 rfl rfl d_Re_readLine_102 ?_
            refine lv_istore (lv' := [(6, .int (sV s_j98 (lk a0 3) 3)), (0, .ref (ad a0)), (1, .ref (yP y_j98 a1 k1)), (2, .int x2j98), (3, .ref (ad a3)), (4, .int x4j98), (5, .int x5j98)]) G.1 G.2.1 d_Re_readLine_105 hl (by decide) rfl (fun ls hl => ?_)
            refine lv_goto (tgt := 11) G.1 G.2.1 d_Re_readLine_107 (by decide) ?_
            have h := hK_11 y_j98 s_j98 d_j98 e_j98 x2j98 x4j98 x5j98 (sV s_j98 (lk a0 3) 3) h
            exact ih_11 y_j98 s_j98 d_j98 e_j98 x2j98 x4j98 x5j98 (sV s_j98 (lk a0 3) 3) (Nat.lt_of_lt_of_le h.2 (Nat.le_of_lt_succ hμ_11)) h.1 H locs hP hD hS ls (lv_sub hl [1, 2, 3, 4, 5, 6, 0] rfl)
          refine lv_if_eq (tgt := 98) G.1 G.2.1 d_Re_readLine_35 (by decide) (fun c35 => ?_) (fun c35 => ?_)
          · skip
            have h := h.1 c35
            exact J_98 y_6 s_5 (d_h11 + d_7) (e_h11 + e_8) x2h11 x4h11 x5h11 H locs h hP hD hS ls (lv_sub hl [0, 1, 2, 3, 4, 5] rfl)
          · skip
            have h := h.2 c35
            refine lv_iinc (v := x5h11 + 1) (lv' := [(5, .int (x5h11 + 1)), (0, .ref (ad a0)), (1, .ref (yP y_6 a1 k1)), (2, .int x2h11), (3, .ref (ad a3)), (4, .int x4h11)]) G.1 G.2.1 d_Re_readLine_38 hl (k := 5) rfl rfl (by decide) rfl (fun ls hl => ?_)
            refine lv_iload G.1 G.2.1 d_Re_readLine_41 (lv_at hl 0 rfl) ?_
            refine lv_iconst (v := 1) G.1 G.2.1 d_Re_readLine_43 (by decide) ?_
            refine lv_icmp_le (tgt := 64) G.1 G.2.1 d_Re_readLine_44 (by decide) (fun c44 => ?_) (fun c44 => ?_)
            · skip
              have h := h.1 c44
              refine lv_iload G.1 G.2.1 d_Re_readLine_64 (lv_at hl 5 rfl) ?_
              refine lv_if_eq (tgt := 79) G.1 G.2.1 d_Re_readLine_66 (by decide) (fun c66 => ?_) (fun c66 => ?_)
              · skip
                have h := h.1 c66
                refine lv_aload_n G.1 G.2.1 d_Re_readLine_79 rfl (lv_at hl 1 rfl) ?_
                refine lv_iconst (v := 0) G.1 G.2.1 d_Re_readLine_80 (by decide) ?_
                refine upf G hP hD hS h 8 putV h_a0 iRe tRe tRe_ok nRe rfl (by decide) rfl q595 rfl rfl fV rfl rfl d_Re_readLine_81 (fun s_13 H locs h hP hD hS => ?_)
                refine lv_aload_n G.1 G.2.1 d_Re_readLine_84 rfl (lv_at hl 1 rfl) ?_
                refine W.eq (g2 := F0 m 85 ls [.ref (ad a0)]) rfl ?_
                refine lv_aload_n G.1 G.2.1 d_Re_readLine_85 rfl (lv_at hl 4 rfl) ?_
                refine lv_bipush (v := 84) G.1 G.2.1 d_Re_readLine_86 (by decide) ?_
                obtain ⟨mc_19, ms_20, hr_21, h⟩ := h
                refine uaVv (As := [.ref (ad a3), .int 84]) (rest := []) G hP hD hS (ca_Re_takeCalled l D g ad mc_19 ms_20 y_6 _ s_13 a0 a3 84 H.size (us H) h_a0 h_a3 h) w9_Re_takeCalled q1743 ⟨Nat.le_of_ble_eq_true rfl, Nat.le_of_ble_eq_true rfl⟩ rfl rfl h_a0 (q := (RRe, TRe, 18)) rfl rfl hl.1 rfl (Nat.le_of_ble_eq_true rfl) rfl hr_21 d_Re_readLine_88 (fun y_16 s_15 d_17 e_18 H locs h hP hD hS => ?_)
                obtain ⟨hd, h⟩ := h
                obtain ⟨n_22, h⟩ := h
                rw [n_22] at hl
                refine lv_aload_n G.1 G.2.1 d_Re_readLine_91 rfl (lv_at hl 1 rfl) ?_
                refine lv_bipush (v := 36) G.1 G.2.1 d_Re_readLine_92 (by decide) ?_
                refine ucVi (As := [.int 36]) (rest := []) G hP hD hS (cu_Re_take l D g ad y_16 _ s_15 a0 36 H.size h_a0 h) w9_Re_take q1321 ⟨Nat.le_of_ble_eq_true rfl, Nat.le_of_ble_eq_true rfl⟩ rfl rfl h_a0 (q := (RRe, TRe, 18)) rfl rfl hl.1 rfl (Nat.le_of_ble_eq_true rfl) rfl hd d_Re_readLine_94 (fun r_23 s_24 H locs h hP hD hS => ?_)
                refine lv_pop G.1 G.2.1 d_Re_readLine_97 rfl ?_
                exact J_98 y_16 s_24 (d_h11 + d_7 + d_17) (e_h11 + e_8 + e_18) x2h11 x4h11 (x5h11 + 1) H locs h hP hD hS ls (lv_sub hl [1, 2, 3, 4, 5, 0] rfl)
              · skip
                have h := h.2 c66
                refine lv_aload_n G.1 G.2.1 d_Re_readLine_69 rfl (lv_at hl 1 rfl) ?_
                refine lv_aload_n G.1 G.2.1 d_Re_readLine_70 rfl (lv_at hl 4 rfl) ?_
                refine lv_iconst (v := 0) G.1 G.2.1 d_Re_readLine_71 (by decide) ?_
                obtain ⟨mc_30, ms_31, hr_32, h⟩ := h
                refine uaVi (As := [.ref (ad a3), .int 0]) (rest := []) G hP hD hS (ca_Re_callLine l D g ad mc_30 ms_31 y_6 _ s_5 a0 a3 0 H.size (us H) h_a0 h_a3 h) w9_Re_callLine q1739 ⟨Nat.le_of_ble_eq_true rfl, Nat.le_of_ble_eq_true rfl⟩ rfl rfl h_a0 (q := (RRe, TRe, 18)) rfl rfl hl.1 rfl (Nat.le_of_ble_eq_true rfl) rfl hr_32 d_Re_readLine_72 (fun r_25 y_27 s_26 d_28 e_29 H locs h hP hD hS => ?_)
                obtain ⟨hd, h⟩ := h
                obtain ⟨n_33, h⟩ := h
                rw [n_33] at hl
                refine W.eq (g2 := F0 m 75 ls [.int r_25]) rfl ?_
                refine lv_pop G.1 G.2.1 d_Re_readLine_75 rfl ?_
                refine lv_goto (tgt := 98) G.1 G.2.1 d_Re_readLine_76 (by decide) ?_
                exact J_98 y_27 s_26 (d_h11 + d_7 + d_28) (e_h11 + e_8 + e_29) x2h11 x4h11 (x5h11 + 1) H locs h hP hD hS ls (lv_sub hl [1, 2, 3, 4, 5, 0] rfl)
            · skip
              have h := h.2 c44
              refine lv_aload_n G.1 G.2.1 d_Re_readLine_47 rfl (lv_at hl 1 rfl) ?_
              refine lv_iconst (v := 1) G.1 G.2.1 d_Re_readLine_48 (by decide) ?_
              refine lv_aload_n G.1 G.2.1 d_Re_readLine_49 rfl (lv_at hl 1 rfl) ?_
              refine ugf (v := .ref (ad (lk a0 3))) G hP h_a0 iRe rfl 3 (by decide) rfl q590 rfl rfl d_Re_readLine_50 ?_
              refine ugf (v := .ref (yP y_6 (lk a0 3) 2)) G hP (lk_6_3 h_a0) iWo rfl 2 (by decide) rfl q552 rfl rfl d_Re_readLine_53 ?_
              refine lv_iconst (v := 0) G.1 G.2.1 d_Re_readLine_56 (by decide) ?_
              refine W.eq (g2 := F0 m 57 ls [.int 0, .ref (yP y_6 (lk a0 3) 2), .int 1, .ref (ad a0)]) rfl ?_
              refine uiald G hP (kdp (lk_6_3 h_a0) rfl) (typ (lk_6_3 h_a0) rfl) h d_Re_readLine_57 (fun x_34 h => ?_)
              refine ucVv (As := [.int 1, .int x_34]) (rest := []) G hP hD hS (cu_Re_refuse l D g ad y_6 _ s_5 a0 1 x_34 H.size h_a0 h) w9_Re_refuse q1317 ⟨Nat.le_of_ble_eq_true rfl, Nat.le_of_ble_eq_true rfl⟩ rfl rfl h_a0 (q := (RRe, TRe, 18)) rfl rfl hl.1 rfl (Nat.le_of_ble_eq_true rfl) rfl hd d_Re_readLine_58 (fun s_36 H locs h hP hD hS => ?_)
              refine lv_goto (tgt := 98) G.1 G.2.1 d_Re_readLine_61 (by decide) ?_
              exact J_98 y_6 s_36 (d_h11 + d_7) (e_h11 + e_8) x2h11 x4h11 (x5h11 + 1) H locs h hP hD hS ls (lv_sub hl [1, 2, 3, 4, 5, 0] rfl)
  exact L_11 _ y s_1 0 0 v2 v4 0 0 (Nat.lt_succ_self _) hI_11 H locs hP hD hS ls (lv_sub hl [2, 3, 4, 5, 6, 1, 0] rfl)
theorem q1735 : Cond.methodLink "ClassWorks" 222 y_Re_readLine ∈ lw_ok := lw_okmem (List.mem_of_getElem? (i := 1735) (by decide +kernel)) rfl
theorem q1738 : Cond.code y_Re_readLine b_Re_readLine 7 (some (.boolean)) ∈ lw_ok := lw_okmem (List.mem_of_getElem? (i := 1738) (by decide +kernel)) rfl
theorem q1736 : Cond.instanceMethod y_Re_readLine ∈ lw_ok := lw_okmem (List.mem_of_getElem? (i := 1736) (by decide +kernel)) rfl
theorem q1737 : Cond.selects y_Re_readLine.cls y_Re_readLine y_Re_readLine ∈ lw_ok := lw_okmem (List.mem_of_getElem? (i := 1737) (by decide +kernel)) rfl
theorem w9_Re_readLine : CWv y_Re_readLine b_Re_readLine 7 (some (.boolean)) 4 ∧ Cond.instanceMethod y_Re_readLine ∈ lw_ok ∧ Cond.selects y_Re_readLine.cls y_Re_readLine y_Re_readLine ∈ lw_ok := ⟨⟨q1738, q340, by decide +kernel, by decide +kernel, by decide +kernel⟩, q1736, q1737⟩
def y_Cw_takeLine : MethodName := ⟨"ClassWorks", "takeLine", "(LClassWorks$Runner;Z)Z"⟩
abbrev b_Cw_takeLine : ByteArray := prog_1_method_20_code
theorem d_Cw_takeLine_0 : decode b_Cw_takeLine 0 = .ok (.aload_n 0, 1) := by decide +kernel
theorem d_Cw_takeLine_1 : decode b_Cw_takeLine 1 = .ok (.getfield 81, 3) := by decide +kernel
theorem d_Cw_takeLine_4 : decode b_Cw_takeLine 4 = .ok (.aload_n 0, 1) := by decide +kernel
theorem d_Cw_takeLine_5 : decode b_Cw_takeLine 5 = .ok (.getfield 17, 3) := by decide +kernel
theorem d_Cw_takeLine_8 : decode b_Cw_takeLine 8 = .ok (.aload_n 0, 1) := by decide +kernel
theorem d_Cw_takeLine_9 : decode b_Cw_takeLine 9 = .ok (.getfield 21, 3) := by decide +kernel
theorem d_Cw_takeLine_12 : decode b_Cw_takeLine 12 = .ok (.aload_n 1, 1) := by decide +kernel
theorem d_Cw_takeLine_13 : decode b_Cw_takeLine 13 = .ok (.iload_n 2, 1) := by decide +kernel
theorem d_Cw_takeLine_14 : decode b_Cw_takeLine 14 = .ok (.invokevirtual 222, 3) := by decide +kernel
theorem d_Cw_takeLine_17 : decode b_Cw_takeLine 17 = .ok (.istore_n 3, 1) := by decide +kernel
theorem d_Cw_takeLine_18 : decode b_Cw_takeLine 18 = .ok (.aload_n 0, 1) := by decide +kernel
theorem d_Cw_takeLine_19 : decode b_Cw_takeLine 19 = .ok (.iconst 0, 1) := by decide +kernel
theorem d_Cw_takeLine_20 : decode b_Cw_takeLine 20 = .ok (.putfield 21, 3) := by decide +kernel
theorem d_Cw_takeLine_23 : decode b_Cw_takeLine 23 = .ok (.aload_n 0, 1) := by decide +kernel
theorem d_Cw_takeLine_24 : decode b_Cw_takeLine 24 = .ok (.iload_n 3, 1) := by decide +kernel
theorem d_Cw_takeLine_25 : decode b_Cw_takeLine 25 = .ok (.ifCond .eq 8, 3) := by decide +kernel
theorem d_Cw_takeLine_28 : decode b_Cw_takeLine 28 = .ok (.bipush (-2), 2) := by decide +kernel
theorem d_Cw_takeLine_30 : decode b_Cw_takeLine 30 = .ok (.goto 10, 3) := by decide +kernel
theorem d_Cw_takeLine_33 : decode b_Cw_takeLine 33 = .ok (.aload_n 0, 1) := by decide +kernel
theorem d_Cw_takeLine_34 : decode b_Cw_takeLine 34 = .ok (.getfield 81, 3) := by decide +kernel
theorem d_Cw_takeLine_37 : decode b_Cw_takeLine 37 = .ok (.getfield 144, 3) := by decide +kernel
theorem d_Cw_takeLine_40 : decode b_Cw_takeLine 40 = .ok (.putfield 25, 3) := by decide +kernel
theorem d_Cw_takeLine_43 : decode b_Cw_takeLine 43 = .ok (.iload_n 3, 1) := by decide +kernel
theorem d_Cw_takeLine_44 : decode b_Cw_takeLine 44 = .ok (.ireturn, 1) := by decide +kernel
abbrev ra_Cw_takeLine (mc ms : Nat) : Room := { frames := 10, cells := mc, slots := ms, locals := 542 }
def wja_Cw_takeLine_40 (mc ms : Nat) (Post : Ly → St → Int32 → Nat → Nat → Prop) (a0 : Nat) (a1 : Nat) (y_j40 : Ly) (s_j40 : St) (d_j40 e_j40 : Nat) (x3j40 : Int32) (z1j40 : Int32) : Prop := (d_j40 ≤ mc ∧ e_j40 ≤ ms) ∧ xP (uV s_j40 a0 8 z1j40) (fun s_10 : St => (nb x3j40 ∧ Post y_j40 s_10 x3j40 d_j40 e_j40))
def wa_Cw_takeLine (mc ms : Nat) (y : Ly) (Post : Ly → St → Int32 → Nat → Nat → Prop) (σ : St) (a0 : Nat) (a1 : Nat) (v2 : Int32) : Prop := ∃ mc_6 ms_7 : Nat, (0 + mc_6 ≤ mc ∧ 0 + ms_7 ≤ ms) ∧ wa_Re_readLine mc_6 ms_7 y (fun (y_3 : Ly) (s_2 : St) (r_1 : Int32) (d_4 e_5 : Nat) => (0 + d_4 ≤ mc ∧ 0 + e_5 ≤ ms) ∧ xP (uV s_2 a0 7 0) (fun s_9 : St => ((r_1 = 0 → wja_Cw_takeLine_40 mc ms Post a0 a1 y_3 s_9 (0 + d_4) (0 + e_5) r_1 (sV s_9 (lk a0 1) 0)) ∧ (¬ (r_1 = 0) → wja_Cw_takeLine_40 mc ms Post a0 a1 y_3 s_9 (0 + d_4) (0 + e_5) r_1 (-2))))) σ (lk a0 1) a0 6 (sV σ a0 7) a1 v2
set_option maxHeartbeats 4000000 in
set_option maxRecDepth 100000 in
theorem ca_Cw_takeLine (l : Launch) (D : va_G) (g : Nat → ClassId) (ad : Nat → Nat) (mc ms : Nat) (y : Ly) (Post : Ly → St → Int32 → Nat → Nat → Prop) (σ : St) (a0 : Nat) (a1 : Nat) (v2 : Int32) (sz uz : Nat) (h_a0 : cl a0 = 11) (h_a1 : cl a1 = 7) (h : wa_Cw_takeLine mc ms y Post σ a0 a1 v2) : Met l y_Cw_takeLine (mw y_Cw_takeLine b_Cw_takeLine 4 (some (.boolean))) (ra_Cw_takeLine mc ms) (PCu g D [] [.ref (ad a0), .ref (ad a1), .int v2] sz uz (ws g ad y σ)) (va_Qi (fun (r : Int32) (u : Ly × St × Nat × Nat) => Post u.1 u.2.1 r u.2.2.1 u.2.2.2) (QU D (va_A (ws g ad y σ) sz) (fun u => ws g ad u.1 u.2.1) sz uz (fun u => u.2.2.1) (fun u => u.2.2.2)) (va_A (ws g ad y σ) sz)) mc ms (va_A (ws g ad y σ) sz) := by
  refine ofZu (by decide +kernel) (Nat.le_of_ble_eq_true rfl) ?_
  intro p e s m args below meth c A Q ls H locs G hsz hP hD hS hl hret
  subst hsz
  have hl : lv_has ls 4 [(0, .ref (ad a0)), (1, .ref (ad a1)), (2, .int v2)] := hl
  have hd : 0 ≤ mc ∧ 0 ≤ ms := ⟨Nat.zero_le _, Nat.zero_le _⟩
  unfold wa_Cw_takeLine at h
  refine lv_aload_n G.1 G.2.1 d_Cw_takeLine_0 rfl (lv_at hl 0 rfl) ?_
  refine ugf (v := .ref (ad (lk a0 1))) G hP h_a0 iCw rfl 1 (by decide) rfl q1135 rfl rfl d_Cw_takeLine_1 ?_
  refine lv_aload_n G.1 G.2.1 d_Cw_takeLine_4 rfl (lv_at hl 0 rfl) ?_
  refine ugf (v := .ref (yP y a0 6)) G hP h_a0 iCw rfl 6 (by decide) rfl q1140 rfl rfl d_Cw_takeLine_5 ?_
  refine lv_aload_n G.1 G.2.1 d_Cw_takeLine_8 rfl (lv_at hl 0 rfl) ?_
  refine ugf (v := .int (sV σ a0 7)) G hP h_a0 iCw rfl 7 (by decide) rfl q1141 rfl rfl d_Cw_takeLine_9 ?_
  refine lv_aload_n G.1 G.2.1 d_Cw_takeLine_12 rfl (lv_at hl 1 rfl) ?_
  refine lv_iload_n G.1 G.2.1 d_Cw_takeLine_13 rfl (lv_at hl 2 rfl) ?_
  obtain ⟨mc_6, ms_7, hr_8, h⟩ := h
  refine uaVi (As := [.ref (yP y a0 6), .int (sV σ a0 7), .ref (ad a1), .int v2]) (rest := []) G hP hD hS (ca_Re_readLine l D g ad mc_6 ms_7 y _ σ (lk a0 1) a0 6 (sV σ a0 7) a1 v2 H.size (us H) (lk_11_1 h_a0) ⟨(kdp h_a0 rfl), (typ h_a0 rfl)⟩ h_a1 h) w9_Re_readLine q1735 ⟨Nat.le_of_ble_eq_true rfl, Nat.le_of_ble_eq_true rfl⟩ rfl rfl (lk_11_1 h_a0) (q := (RRe, TRe, 18)) rfl rfl hl.1 rfl (Nat.le_of_ble_eq_true rfl) rfl hr_8 d_Cw_takeLine_14 (fun r_1 y_3 s_2 d_4 e_5 H locs h hP hD hS => ?_)
  have hl := lv_sub (l' := [(0, .ref (ad a0))]) hl [0] rfl
  obtain ⟨hd, h⟩ := h
  refine lv_istore_n (lv' := [(3, .int r_1), (0, .ref (ad a0))]) G.1 G.2.1 d_Cw_takeLine_17 rfl hl (by decide) rfl (fun ls hl => ?_)
  refine lv_aload_n G.1 G.2.1 d_Cw_takeLine_18 rfl (lv_at hl 1 rfl) ?_
  refine W.eq (g2 := F0 m 19 ls [.ref (ad a0)]) rfl ?_
  refine lv_iconst (v := 0) G.1 G.2.1 d_Cw_takeLine_19 (by decide) ?_
  refine upf G hP hD hS h 7 putV h_a0 iCw tCw tCw_ok nCw rfl (by decide) rfl q1141 rfl rfl fV rfl rfl d_Cw_takeLine_20 (fun s_9 H locs h hP hD hS => ?_)
  refine lv_aload_n G.1 G.2.1 d_Cw_takeLine_23 rfl (lv_at hl 1 rfl) ?_
  refine lv_iload_n G.1 G.2.1 d_Cw_takeLine_24 rfl (lv_at hl 0 rfl) ?_
  have J_40 : ∀ (y_j40 : Ly) (s_j40 : St) (d_j40 e_j40 : Nat) (x3j40 : Int32) (z1j40 : Int32) (H : Heap) (locs : List Loc), wja_Cw_takeLine_40 mc ms Post a0 a1 y_j40 s_j40 d_j40 e_j40 x3j40 z1j40 → va_P D CL (ws g ad y_j40 s_j40) H → va_D A (ws g ad y_j40 s_j40) → va_S A s.heap H locs → ∀ ls, lv_has ls 4 [(3, .int x3j40)] → W p l e (ra_Cw_takeLine mc ms) s m args below meth c H locs d_j40 e_j40 Q (F0 m 40 ls [.int z1j40, .ref (ad a0)]) := by
    intro y_j40 s_j40 d_j40 e_j40 x3j40 z1j40 H locs h hP hD hS ls hl
    unfold wja_Cw_takeLine_40 at h
    obtain ⟨hd, h⟩ := h
    refine upf G hP hD hS h 8 putV h_a0 iCw tCw tCw_ok nCw rfl (by decide) rfl q1142 rfl rfl fV rfl rfl d_Cw_takeLine_40 (fun s_10 H locs h hP hD hS => ?_)
    refine lv_iload_n G.1 G.2.1 d_Cw_takeLine_43 rfl (lv_at hl 0 rfl) ?_
    exact hret _ (y_j40, s_10, d_j40, e_j40) _ _ _ _ _ ls (nb_n h.1) h.2 hP hD hS (Nat.le_refl _) (Nat.le_refl _) hd.1 hd.2 d_Cw_takeLine_44
  refine lv_if_eq (tgt := 33) G.1 G.2.1 d_Cw_takeLine_25 (by decide) (fun c25 => ?_) (fun c25 => ?_)
  · skip
    have h := h.1 c25
    refine lv_aload_n G.1 G.2.1 d_Cw_takeLine_33 rfl (lv_at hl 1 rfl) ?_
    refine ugf (v := .ref (ad (lk a0 1))) G hP h_a0 iCw rfl 1 (by decide) rfl q1135 rfl rfl d_Cw_takeLine_34 ?_
    refine ugf (v := .int (sV s_9 (lk a0 1) 0)) G hP (lk_11_1 h_a0) iRe rfl 0 (by decide) rfl q586 rfl rfl d_Cw_takeLine_37 ?_
    exact J_40 y_3 s_9 (0 + d_4) (0 + e_5) r_1 (sV s_9 (lk a0 1) 0) H locs h hP hD hS ls (lv_sub hl [0] rfl)
  · skip
    have h := h.2 c25
    refine lv_bipush (v := (-2)) G.1 G.2.1 d_Cw_takeLine_28 (by decide) ?_
    refine lv_goto (tgt := 40) G.1 G.2.1 d_Cw_takeLine_30 (by decide) ?_
    exact J_40 y_3 s_9 (0 + d_4) (0 + e_5) r_1 (-2) H locs h hP hD hS ls (lv_sub hl [0] rfl)
