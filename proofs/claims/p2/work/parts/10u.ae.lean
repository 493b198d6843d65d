theorem q1688 : Cond.methodLink "ClassWorks$Checker" 237 y_Ck_labelCount ∈ lw_ok := lw_okmem (List.mem_of_getElem? (i := 1688) (by decide +kernel)) rfl
theorem q1691 : Cond.code y_Ck_labelCount b_Ck_labelCount 1 (some .int) ∈ lw_ok := lw_okmem (List.mem_of_getElem? (i := 1691) (by decide +kernel)) rfl
theorem q1690 : Cond.instanceMethod y_Ck_labelCount ∈ lw_ok := lw_okmem (List.mem_of_getElem? (i := 1690) (by decide +kernel)) rfl
theorem q70 : Cond.selects y_Ck_labelCount.cls y_Ck_labelCount y_Ck_labelCount ∈ lw_ok := lw_okmem (List.mem_of_getElem? (i := 70) (by decide +kernel)) rfl
theorem w9_Ck_labelCount : CWv y_Ck_labelCount b_Ck_labelCount 1 (some .int) 0 ∧ Cond.instanceMethod y_Ck_labelCount ∈ lw_ok ∧ Cond.selects y_Ck_labelCount.cls y_Ck_labelCount y_Ck_labelCount ∈ lw_ok := ⟨⟨q1691, q341, by decide +kernel, by decide +kernel, by decide +kernel⟩, q1690, q70⟩
theorem q1692 : Cond.methodLink "ClassWorks$Checker" 240 y_Ck_label ∈ lw_ok := lw_okmem (List.mem_of_getElem? (i := 1692) (by decide +kernel)) rfl
theorem q1695 : Cond.code y_Ck_label b_Ck_label 2 (some .int) ∈ lw_ok := lw_okmem (List.mem_of_getElem? (i := 1695) (by decide +kernel)) rfl
theorem q1694 : Cond.instanceMethod y_Ck_label ∈ lw_ok := lw_okmem (List.mem_of_getElem? (i := 1694) (by decide +kernel)) rfl
theorem q71 : Cond.selects y_Ck_label.cls y_Ck_label y_Ck_label ∈ lw_ok := lw_okmem (List.mem_of_getElem? (i := 71) (by decide +kernel)) rfl
theorem w9_Ck_label : CWv y_Ck_label b_Ck_label 2 (some .int) 1 ∧ Cond.instanceMethod y_Ck_label ∈ lw_ok ∧ Cond.selects y_Ck_label.cls y_Ck_label y_Ck_label ∈ lw_ok := ⟨⟨q1695, q341, by decide +kernel, by decide +kernel, by decide +kernel⟩, q1694, q71⟩
def y_Ck_labelsFit : MethodName := ⟨"ClassWorks$Checker", "labelsFit", "()I"⟩
abbrev b_Ck_labelsFit : ByteArray := prog_2_method_28_code
theorem d_Ck_labelsFit_0 : decode b_Ck_labelsFit 0 = .ok (.aload_n 0, 1) := by decide +kernel
theorem d_Ck_labelsFit_1 : decode b_Ck_labelsFit 1 = .ok (.invokevirtual 237, 3) := by decide +kernel
theorem d_Ck_labelsFit_4 : decode b_Ck_labelsFit 4 = .ok (.istore_n 1, 1) := by decide +kernel
theorem d_Ck_labelsFit_5 : decode b_Ck_labelsFit 5 = .ok (.iconst 0, 1) := by decide +kernel
theorem d_Ck_labelsFit_6 : decode b_Ck_labelsFit 6 = .ok (.istore_n 2, 1) := by decide +kernel
theorem d_Ck_labelsFit_7 : decode b_Ck_labelsFit 7 = .ok (.iconst 1, 1) := by decide +kernel
theorem d_Ck_labelsFit_8 : decode b_Ck_labelsFit 8 = .ok (.istore_n 3, 1) := by decide +kernel
theorem d_Ck_labelsFit_9 : decode b_Ck_labelsFit 9 = .ok (.iload_n 3, 1) := by decide +kernel
theorem d_Ck_labelsFit_10 : decode b_Ck_labelsFit 10 = .ok (.iload_n 1, 1) := by decide +kernel
theorem d_Ck_labelsFit_11 : decode b_Ck_labelsFit 11 = .ok (.if_icmp .gt 34, 3) := by decide +kernel
theorem d_Ck_labelsFit_14 : decode b_Ck_labelsFit 14 = .ok (.iload_n 2, 1) := by decide +kernel
theorem d_Ck_labelsFit_15 : decode b_Ck_labelsFit 15 = .ok (.ifCond .ne 30, 3) := by decide +kernel
theorem d_Ck_labelsFit_18 : decode b_Ck_labelsFit 18 = .ok (.aload_n 0, 1) := by decide +kernel
theorem d_Ck_labelsFit_19 : decode b_Ck_labelsFit 19 = .ok (.aload_n 0, 1) := by decide +kernel
theorem d_Ck_labelsFit_20 : decode b_Ck_labelsFit 20 = .ok (.iload_n 3, 1) := by decide +kernel
theorem d_Ck_labelsFit_21 : decode b_Ck_labelsFit 21 = .ok (.iload_n 1, 1) := by decide +kernel
theorem d_Ck_labelsFit_22 : decode b_Ck_labelsFit 22 = .ok (.if_icmp .ge 7, 3) := by decide +kernel
theorem d_Ck_labelsFit_25 : decode b_Ck_labelsFit 25 = .ok (.iload_n 3, 1) := by decide +kernel
theorem d_Ck_labelsFit_26 : decode b_Ck_labelsFit 26 = .ok (.goto 4, 3) := by decide +kernel
theorem d_Ck_labelsFit_29 : decode b_Ck_labelsFit 29 = .ok (.iconst 0, 1) := by decide +kernel
theorem d_Ck_labelsFit_30 : decode b_Ck_labelsFit 30 = .ok (.invokevirtual 240, 3) := by decide +kernel
theorem d_Ck_labelsFit_33 : decode b_Ck_labelsFit 33 = .ok (.ldc 175, 2) := by decide +kernel
theorem d_Ck_labelsFit_35 : decode b_Ck_labelsFit 35 = .ok (.invokevirtual 176, 3) := by decide +kernel
theorem d_Ck_labelsFit_38 : decode b_Ck_labelsFit 38 = .ok (.istore_n 2, 1) := by decide +kernel
theorem d_Ck_labelsFit_39 : decode b_Ck_labelsFit 39 = .ok (.iinc 3 1, 3) := by decide +kernel
theorem d_Ck_labelsFit_42 : decode b_Ck_labelsFit 42 = .ok (.goto (-33), 3) := by decide +kernel
theorem d_Ck_labelsFit_45 : decode b_Ck_labelsFit 45 = .ok (.iload_n 2, 1) := by decide +kernel
theorem d_Ck_labelsFit_46 : decode b_Ck_labelsFit 46 = .ok (.ireturn, 1) := by decide +kernel
abbrev ru_Ck_labelsFit : Room := { frames := 2, cells := 0, slots := 0, locals := 59 }
def wj_Ck_labelsFit_45 (y : Ly) (Post : St → Int32 → Prop) (a0 : Nat) (s_j45 : St) (x2j45 : Int32) : Prop := Post s_j45 x2j45
def wj_Ck_labelsFit_30 (y : Ly) (Post : St → Int32 → Prop) (K_9 : St → Int32 → Int32 → Int32 → Prop) (a0 : Nat) (s_j30 : St) (x1j30 : Int32) (x3j30 : Int32) (z2j30 : Int32) : Prop := wu_Ck_label y (fun (s_4 : St) (r_3 : Int32) => wu_Ck_stateFits y (fun (s_6 : St) (r_5 : Int32) => K_9 s_6 x1j30 r_5 (x3j30 + 1)) s_4 a0 r_3 (-2147483648)) s_j30 a0 z2j30
def wb_Ck_labelsFit_9 (y : Ly) (Post : St → Int32 → Prop) (K_9 : St → Int32 → Int32 → Int32 → Prop) (a0 : Nat) (s_h9 : St) (x1h9 : Int32) (x2h9 : Int32) (x3h9 : Int32) : Prop := ((x1h9 < x3h9 → wj_Ck_labelsFit_45 y Post a0 s_h9 x2h9) ∧ (¬ (x1h9 < x3h9) → ((¬ x2h9 = 0 → wj_Ck_labelsFit_45 y Post a0 s_h9 x2h9) ∧ (x2h9 = 0 → ((x1h9 ≤ x3h9 → wj_Ck_labelsFit_30 y Post K_9 a0 s_h9 x1h9 x3h9 0) ∧ (¬ (x1h9 ≤ x3h9) → wj_Ck_labelsFit_30 y Post K_9 a0 s_h9 x1h9 x3h9 x3h9))))))
def wl_Ck_labelsFit_9 (y : Ly) (Post : St → Int32 → Prop) (a0 : Nat) (s_h9 : St) (x1h9 : Int32) (x2h9 : Int32) (x3h9 : Int32) : Prop := ∃ (I : St → Int32 → Int32 → Int32 → Prop) (μ : St → Int32 → Int32 → Int32 → Nat), I s_h9 x1h9 x2h9 x3h9 ∧ ∀ (u : St) (t0 : Int32) (t1 : Int32) (t2 : Int32), I u t0 t1 t2 → wb_Ck_labelsFit_9 y Post (fun z t0q t1q t2q => I z t0q t1q t2q ∧ μ z t0q t1q t2q < μ u t0 t1 t2) a0 u t0 t1 t2
def wu_Ck_labelsFit (y : Ly) (Post : St → Int32 → Prop) (σ : St) (a0 : Nat) : Prop := wu_Ck_labelCount y (fun (s_2 : St) (r_1 : Int32) => wl_Ck_labelsFit_9 y Post a0 s_2 r_1 0 1) σ a0
set_option maxHeartbeats 4000000 in
set_option maxRecDepth 100000 in
theorem cu_Ck_labelsFit (l : Launch) (D : va_G) (g : Nat → ClassId) (ad : Nat → Nat) (y : Ly) (Post : St → Int32 → Prop) (σ : St) (a0 : Nat) (sz : Nat) (h_a0 : cl a0 = 0) (h : wu_Ck_labelsFit y Post σ a0) : Met l y_Ck_labelsFit (mw y_Ck_labelsFit b_Ck_labelsFit 4 (some .int)) ru_Ck_labelsFit (PC g D [] [.ref (ad a0)] sz (ws g ad y σ)) (va_Qi (fun (r : Int32) (u : St) => Post u r) (QW D (va_A (ws g ad y σ) sz) (fun u => ws g ad y u)) (va_A (ws g ad y σ) sz)) 0 0 (va_A (ws g ad y σ) sz) := by
  refine ofI (by decide +kernel) (Nat.le_of_ble_eq_true rfl) ?_
  intro p e s m args below meth c A Q ls H locs G hsz hP hD hS hl hret
  subst hsz
  have hl : lv_has ls 4 [(0, .ref (ad a0))] := hl
  unfold wu_Ck_labelsFit at h
  refine lv_aload_n G.1 G.2.1 d_Ck_labelsFit_0 rfl (lv_at hl 0 rfl) ?_
  refine ucVi (As := []) (rest := []) G hP hD hS (cu_Ck_labelCount l D g ad y _ σ a0 H.size h_a0 h) w9_Ck_labelCount q1688 ⟨Nat.le_of_ble_eq_true rfl, Nat.le_of_ble_eq_true rfl⟩ rfl rfl h_a0 (q := (RCk, TCk, 22)) rfl rfl hl.1 rfl (Nat.le_of_ble_eq_true rfl) rfl ⟨Nat.le_refl _, Nat.le_refl _⟩ d_Ck_labelsFit_1 (fun r_1 s_2 H locs h hP hD hS => ?_)
  refine lv_istore_n (lv' := [(1, .int r_1), (0, .ref (ad a0))]) G.1 G.2.1 d_Ck_labelsFit_4 rfl hl (by decide) rfl (fun ls hl => ?_)
  refine lv_iconst (v := 0) G.1 G.2.1 d_Ck_labelsFit_5 (by decide) ?_
  refine lv_istore_n (lv' := [(2, .int 0), (1, .int r_1), (0, .ref (ad a0))]) G.1 G.2.1 d_Ck_labelsFit_6 rfl hl (by decide) rfl (fun ls hl => ?_)
  refine lv_iconst (v := 1) G.1 G.2.1 d_Ck_labelsFit_7 (by decide) ?_
  refine lv_istore_n (lv' := [(3, .int 1), (2, .int 0), (1, .int r_1), (0, .ref (ad a0))]) G.1 G.2.1 d_Ck_labelsFit_8 rfl hl (by decide) rfl (fun ls hl => ?_)
  unfold wl_Ck_labelsFit_9 at h
  obtain ⟨I_9, μ_9, hI_9, hB_9⟩ := h
  have L_9 : ∀ (n_9 : Nat) (s_h9 : St) (x1h9 : Int32) (x2h9 : Int32) (x3h9 : Int32), μ_9 s_h9 x1h9 x2h9 x3h9 < n_9 → I_9 s_h9 x1h9 x2h9 x3h9 → ∀ (H : Heap) (locs : List Loc), va_P D CL (ws g ad y s_h9) H → va_D A (ws g ad y s_h9) → va_S A s.heap H locs → ∀ ls, lv_has ls 4 [(0, .ref (ad a0)), (1, .int x1h9), (2, .int x2h9), (3, .int x3h9)] → W p l e ru_Ck_labelsFit s m args below meth c H locs 0 0 Q (F0 m 9 ls []) := by
    intro n_9
    induction n_9 with
    | zero => intro s_h9 x1h9 x2h9 x3h9 hμ; exact absurd hμ (Nat.not_lt_zero _)
    | succ n_9 ih_9 =>
      intro s_h9 x1h9 x2h9 x3h9 hμ_9 hJ H locs hP hD hS ls hl
      obtain ⟨K_9, hK_9, h⟩ : ∃ K : St → Int32 → Int32 → Int32 → Prop, (∀ z (t0 : Int32) (t1 : Int32) (t2 : Int32), K z t0 t1 t2 → I_9 z t0 t1 t2 ∧ μ_9 z t0 t1 t2 < μ_9 s_h9 x1h9 x2h9 x3h9) ∧ wb_Ck_labelsFit_9 y Post K a0 s_h9 x1h9 x2h9 x3h9 := ⟨_, fun _ _ _ _ h => h, hB_9 s_h9 x1h9 x2h9 x3h9 hJ⟩
      unfold wb_Ck_labelsFit_9 at h
      refine lv_iload_n G.1 G.2.1 d_Ck_labelsFit_9 rfl (lv_at hl 3 rfl) ?_
      refine lv_iload_n G.1 G.2.1 d_Ck_labelsFit_10 rfl (lv_at hl 1 rfl) ?_
      have J_45 : ∀ (s_j45 : St) (x2j45 : Int32) (H : Heap) (locs : List Loc), wj_Ck_labelsFit_45 y Post a0 s_j45 x2j45 → va_P D CL (ws g ad y s_j45) H → va_D A (ws g ad y s_j45) → va_S A s.heap H locs → ∀ ls, lv_has ls 4 [(2, .int x2j45)] → W p l e ru_Ck_labelsFit s m args below meth c H locs 0 0 Q (F0 m 45 ls []) := by
        intro s_j45 x2j45 H locs h hP hD hS ls hl
        unfold wj_Ck_labelsFit_45 at h
        refine lv_iload_n G.1 G.2.1 d_Ck_labelsFit_45 rfl (lv_at hl 0 rfl) ?_
        exact hret _ _ _ _ _ _ _ ls h hP hD hS (Nat.le_refl _) (Nat.le_refl _) d_Ck_labelsFit_46
      refine lv_icmp_gt (tgt := 45) G.1 G.2.1 d_Ck_labelsFit_11 (by decide) (fun c11 => ?_) (fun c11 => ?_)
      · skip
        have h := h.1 c11
        exact J_45 s_h9 x2h9 H locs h hP hD hS ls (lv_sub hl [2] rfl)
      · skip
        have h := h.2 c11
        refine lv_iload_n G.1 G.2.1 d_Ck_labelsFit_14 rfl (lv_at hl 2 rfl) ?_
        refine lv_if_ne (tgt := 45) G.1 G.2.1 d_Ck_labelsFit_15 (by decide) (fun c15 => ?_) (fun c15 => ?_)
        · skip
          have h := h.1 c15
          exact J_45 s_h9 x2h9 H locs h hP hD hS ls (lv_sub hl [2] rfl)
        · skip
          have h := h.2 c15
          refine lv_aload_n G.1 G.2.1 d_Ck_labelsFit_18 rfl (lv_at hl 0 rfl) ?_
          refine lv_aload_n G.1 G.2.1 d_Ck_labelsFit_19 rfl (lv_at hl 0 rfl) ?_
          refine lv_iload_n G.1 G.2.1 d_Ck_labelsFit_20 rfl (lv_at hl 3 rfl) ?_
          refine lv_iload_n G.1 G.2.1 d_Ck_labelsFit_21 rfl (lv_at hl 1 rfl) ?_
          have J_30 : ∀ (s_j30 : St) (x1j30 : Int32) (x3j30 : Int32) (z2j30 : Int32) (H : Heap) (locs : List Loc), wj_Ck_labelsFit_30 y Post K_9 a0 s_j30 x1j30 x3j30 z2j30 → va_P D CL (ws g ad y s_j30) H → va_D A (ws g ad y s_j30) → va_S A s.heap H locs → ∀ ls, lv_has ls 4 [(0, .ref (ad a0)), (1, .int x1j30), (3, .int x3j30)] → W p l e ru_Ck_labelsFit s m args below meth c H locs 0 0 Q (F0 m 30 ls [.int z2j30, .ref (ad a0), .ref (ad a0)]) := by
            intro s_j30 x1j30 x3j30 z2j30 H locs h hP hD hS ls hl
            unfold wj_Ck_labelsFit_30 at h
            refine ucVi (As := [.int z2j30]) (rest := [.ref (ad a0)]) G hP hD hS (cu_Ck_label l D g ad y _ s_j30 a0 z2j30 H.size h_a0 h) w9_Ck_label q1692 ⟨Nat.le_of_ble_eq_true rfl, Nat.le_of_ble_eq_true rfl⟩ rfl rfl h_a0 (q := (RCk, TCk, 22)) rfl rfl hl.1 rfl (Nat.le_of_ble_eq_true rfl) rfl ⟨Nat.le_refl _, Nat.le_refl _⟩ d_Ck_labelsFit_30 (fun r_3 s_4 H locs h hP hD hS => ?_)
            refine lv_ldc (v := (-2147483648)) G.1 G.2.1 G.2.2.2.2.2.2.1 (G.2.2.2.2.2.1 _ q1611) d_Ck_labelsFit_33 ?_
            refine ucVi (As := [.int r_3, .int (-2147483648)]) (rest := []) G hP hD hS (cu_Ck_stateFits l D g ad y _ s_4 a0 r_3 (-2147483648) H.size h_a0 h) w9_Ck_stateFits q1612 ⟨Nat.le_of_ble_eq_true rfl, Nat.le_of_ble_eq_true rfl⟩ rfl rfl h_a0 (q := (RCk, TCk, 22)) rfl rfl hl.1 rfl (Nat.le_of_ble_eq_true rfl) rfl ⟨Nat.le_refl _, Nat.le_refl _⟩ d_Ck_labelsFit_35 (fun r_5 s_6 H locs h hP hD hS => ?_)
            refine lv_istore_n (lv' := [(2, .int r_5), (0, .ref (ad a0)), (1, .int x1j30), (3, .int x3j30)]) G.1 G.2.1 d_Ck_labelsFit_38 rfl hl (by decide) rfl (fun ls hl => ?_)
            refine lv_iinc (v := x3j30 + 1) (lv' := [(3, .int (x3j30 + 1)), (2, .int r_5), (0, .ref (ad a0)), (1, .int x1j30)]) G.1 G.2.1 d_Ck_labelsFit_39 hl (k := 3) rfl rfl (by decide) rfl (fun ls hl => ?_)
            refine lv_goto (tgt := 9) G.1 G.2.1 d_Ck_labelsFit_42 (by decide) ?_
            have h := hK_9 s_6 x1j30 r_5 (x3j30 + 1) h
            exact ih_9 s_6 x1j30 r_5 (x3j30 + 1) (Nat.lt_of_lt_of_le h.2 (Nat.le_of_lt_succ hμ_9)) h.1 H locs hP hD hS ls (lv_sub hl [2, 3, 1, 0] rfl)
          refine lv_icmp_ge (tgt := 29) G.1 G.2.1 d_Ck_labelsFit_22 (by decide) (fun c22 => ?_) (fun c22 => ?_)
          · skip
            have h := h.1 c22
            refine lv_iconst (v := 0) G.1 G.2.1 d_Ck_labelsFit_29 (by decide) ?_
            exact J_30 s_h9 x1h9 x3h9 0 H locs h hP hD hS ls (lv_sub hl [0, 1, 3] rfl)
          · skip
            have h := h.2 c22
            refine lv_iload_n G.1 G.2.1 d_Ck_labelsFit_25 rfl (lv_at hl 3 rfl) ?_
            refine W.eq (g2 := F0 m 26 ls [.int x3h9, .ref (ad a0), .ref (ad a0)]) rfl ?_
            refine lv_goto (tgt := 30) G.1 G.2.1 d_Ck_labelsFit_26 (by decide) ?_
            exact J_30 s_h9 x1h9 x3h9 x3h9 H locs h hP hD hS ls (lv_sub hl [0, 1, 3] rfl)
  exact L_9 _ s_2 r_1 0 1 (Nat.lt_succ_self _) hI_9 H locs hP hD hS ls (lv_sub hl [3, 2, 1, 0] rfl)
def y_Ck_goesOn : MethodName := ⟨"ClassWorks$Checker", "goesOn", "()Z"⟩
abbrev b_Ck_goesOn : ByteArray := prog_2_method_16_code
theorem d_Ck_goesOn_0 : decode b_Ck_goesOn 0 = .ok (.aload_n 0, 1) := by decide +kernel
theorem d_Ck_goesOn_1 : decode b_Ck_goesOn 1 = .ok (.getfield 43, 3) := by decide +kernel
theorem d_Ck_goesOn_4 : decode b_Ck_goesOn 4 = .ok (.bipush 23, 2) := by decide +kernel
theorem d_Ck_goesOn_6 : decode b_Ck_goesOn 6 = .ok (.if_icmp .eq 34, 3) := by decide +kernel
theorem d_Ck_goesOn_9 : decode b_Ck_goesOn 9 = .ok (.aload_n 0, 1) := by decide +kernel
theorem d_Ck_goesOn_10 : decode b_Ck_goesOn 10 = .ok (.getfield 43, 3) := by decide +kernel
theorem d_Ck_goesOn_13 : decode b_Ck_goesOn 13 = .ok (.bipush 40, 2) := by decide +kernel
theorem d_Ck_goesOn_15 : decode b_Ck_goesOn 15 = .ok (.if_icmp .eq 25, 3) := by decide +kernel
theorem d_Ck_goesOn_18 : decode b_Ck_goesOn 18 = .ok (.aload_n 0, 1) := by decide +kernel
theorem d_Ck_goesOn_19 : decode b_Ck_goesOn 19 = .ok (.getfield 43, 3) := by decide +kernel
theorem d_Ck_goesOn_22 : decode b_Ck_goesOn 22 = .ok (.bipush 56, 2) := by decide +kernel
theorem d_Ck_goesOn_24 : decode b_Ck_goesOn 24 = .ok (.if_icmp .lt 12, 3) := by decide +kernel
theorem d_Ck_goesOn_27 : decode b_Ck_goesOn 27 = .ok (.aload_n 0, 1) := by decide +kernel
theorem d_Ck_goesOn_28 : decode b_Ck_goesOn 28 = .ok (.getfield 43, 3) := by decide +kernel
theorem d_Ck_goesOn_31 : decode b_Ck_goesOn 31 = .ok (.bipush 59, 2) := by decide +kernel
theorem d_Ck_goesOn_33 : decode b_Ck_goesOn 33 = .ok (.if_icmp .le 7, 3) := by decide +kernel
theorem d_Ck_goesOn_36 : decode b_Ck_goesOn 36 = .ok (.iconst 1, 1) := by decide +kernel
theorem d_Ck_goesOn_37 : decode b_Ck_goesOn 37 = .ok (.goto 4, 3) := by decide +kernel
theorem d_Ck_goesOn_40 : decode b_Ck_goesOn 40 = .ok (.iconst 0, 1) := by decide +kernel
theorem d_Ck_goesOn_41 : decode b_Ck_goesOn 41 = .ok (.ireturn, 1) := by decide +kernel
abbrev ru_Ck_goesOn : Room := { frames := 0, cells := 0, slots := 0, locals := 0 }
def wj_Ck_goesOn_41 (y : Ly) (Post : St → Int32 → Prop) (a0 : Nat) (s_j41 : St) (z0j41 : Int32) : Prop := (nb z0j41 ∧ Post s_j41 z0j41)
def wj_Ck_goesOn_40 (y : Ly) (Post : St → Int32 → Prop) (a0 : Nat) (s_j40 : St) : Prop := wj_Ck_goesOn_41 y Post a0 s_j40 0
def wj_Ck_goesOn_36 (y : Ly) (Post : St → Int32 → Prop) (a0 : Nat) (s_j36 : St) : Prop := wj_Ck_goesOn_41 y Post a0 s_j36 1
def wu_Ck_goesOn (y : Ly) (Post : St → Int32 → Prop) (σ : St) (a0 : Nat) : Prop := (((sV σ a0 12) = 23 → wj_Ck_goesOn_40 y Post a0 σ) ∧ (¬ ((sV σ a0 12) = 23) → (((sV σ a0 12) = 40 → wj_Ck_goesOn_40 y Post a0 σ) ∧ (¬ ((sV σ a0 12) = 40) → (((sV σ a0 12) < 56 → wj_Ck_goesOn_36 y Post a0 σ) ∧ (¬ ((sV σ a0 12) < 56) → (((sV σ a0 12) ≤ 59 → wj_Ck_goesOn_40 y Post a0 σ) ∧ (¬ ((sV σ a0 12) ≤ 59) → wj_Ck_goesOn_36 y Post a0 σ))))))))
set_option maxHeartbeats 4000000 in
set_option maxRecDepth 100000 in
theorem cu_Ck_goesOn (l : Launch) (D : va_G) (g : Nat → ClassId) (ad : Nat → Nat) (y : Ly) (Post : St → Int32 → Prop) (σ : St) (a0 : Nat) (sz : Nat) (h_a0 : cl a0 = 0) (h : wu_Ck_goesOn y Post σ a0) : Met l y_Ck_goesOn (mw y_Ck_goesOn b_Ck_goesOn 1 (some (.boolean))) ru_Ck_goesOn (PC g D [] [.ref (ad a0)] sz (ws g ad y σ)) (va_Qi (fun (r : Int32) (u : St) => Post u r) (QW D (va_A (ws g ad y σ) sz) (fun u => ws g ad y u)) (va_A (ws g ad y σ) sz)) 0 0 (va_A (ws g ad y σ) sz) := by
  refine ofZ (by decide +kernel) (Nat.le_of_ble_eq_true rfl) ?_
  intro p e s m args below meth c A Q ls H locs G hsz hP hD hS hl hret
  subst hsz
  have hl : lv_has ls 1 [(0, .ref (ad a0))] := hl
  unfold wu_Ck_goesOn at h
  refine lv_aload_n G.1 G.2.1 d_Ck_goesOn_0 rfl (lv_at hl 0 rfl) ?_
  refine ugf (v := .int (sV σ a0 12)) G hP h_a0 iCk rfl 12 (by decide) rfl q663 rfl rfl d_Ck_goesOn_1 ?_
  refine lv_bipush (v := 23) G.1 G.2.1 d_Ck_goesOn_4 (by decide) ?_
  have J_41 : ∀ (s_j41 : St) (z0j41 : Int32) (H : Heap) (locs : List Loc), wj_Ck_goesOn_41 y Post a0 s_j41 z0j41 → va_P D CL (ws g ad y s_j41) H → va_D A (ws g ad y s_j41) → va_S A s.heap H locs → ∀ ls, lv_has ls 1 [] → W p l e ru_Ck_goesOn s m args below meth c H locs 0 0 Q (F0 m 41 ls [.int z0j41]) := by
    intro s_j41 z0j41 H locs h hP hD hS ls hl
    unfold wj_Ck_goesOn_41 at h
    exact hret _ _ _ _ _ _ _ ls (nb_n h.1) h.2 hP hD hS (Nat.le_refl _) (Nat.le_refl _) d_Ck_goesOn_41
  have J_40 : ∀ (s_j40 : St) (H : Heap) (locs : List Loc), wj_Ck_goesOn_40 y Post a0 s_j40 → va_P D CL (ws g ad y s_j40) H → va_D A (ws g ad y s_j40) → va_S A s.heap H locs → ∀ ls, lv_has ls 1 [] → W p l e ru_Ck_goesOn s m args below meth c H locs 0 0 Q (F0 m 40 ls []) := by
    intro s_j40 H locs h hP hD hS ls hl
    unfold wj_Ck_goesOn_40 at h
    refine lv_iconst (v := 0) G.1 G.2.1 d_Ck_goesOn_40 (by decide) ?_
    exact J_41 s_j40 0 H locs h hP hD hS ls (lv_sub hl [] rfl)
  refine lv_icmp_eq (tgt := 40) G.1 G.2.1 d_Ck_goesOn_6 (by decide) (fun c6 => ?_) (fun c6 => ?_)
  · skip
    have h := h.1 c6
    exact J_40 σ H locs h hP hD hS ls (lv_sub hl [] rfl)
  · skip
    have h := h.2 c6
    refine lv_aload_n G.1 G.2.1 d_Ck_goesOn_9 rfl (lv_at hl 0 rfl) ?_
    refine ugf (v := .int (sV σ a0 12)) G hP h_a0 iCk rfl 12 (by decide) rfl q663 rfl rfl d_Ck_goesOn_10 ?_
    refine lv_bipush (v := 40) G.1 G.2.1 d_Ck_goesOn_13 (by decide) ?_
    refine lv_icmp_eq (tgt := 40) G.1 G.2.1 d_Ck_goesOn_15 (by decide) (fun c15 => ?_) (fun c15 => ?_)
    · skip
      have h := h.1 c15
      exact J_40 σ H locs h hP hD hS ls (lv_sub hl [] rfl)
    · skip
      have h := h.2 c15
      refine lv_aload_n G.1 G.2.1 d_Ck_goesOn_18 rfl (lv_at hl 0 rfl) ?_
      refine ugf (v := .int (sV σ a0 12)) G hP h_a0 iCk rfl 12 (by decide) rfl q663 rfl rfl d_Ck_goesOn_19 ?_
      refine lv_bipush (v := 56) G.1 G.2.1 d_Ck_goesOn_22 (by decide) ?_
      have J_36 : ∀ (s_j36 : St) (H : Heap) (locs : List Loc), wj_Ck_goesOn_36 y Post a0 s_j36 → va_P D CL (ws g ad y s_j36) H → va_D A (ws g ad y s_j36) → va_S A s.heap H locs → ∀ ls, lv_has ls 1 [] → W p l e ru_Ck_goesOn s m args below meth c H locs 0 0 Q (F0 m 36 ls []) := by
        intro s_j36 H locs h hP hD hS ls hl
        unfold wj_Ck_goesOn_36 at h
        refine lv_iconst (v := 1) G.1 G.2.1 d_Ck_goesOn_36 (by decide) ?_
        refine lv_goto (tgt := 41) G.1 G.2.1 d_Ck_goesOn_37 (by decide) ?_
        exact J_41 s_j36 1 H locs h hP hD hS ls (lv_sub hl [] rfl)
      refine W.eq (g2 := F0 m 24 ls [.int 56, .int (sV σ a0 12)]) rfl ?_
      refine lv_icmp_lt (tgt := 36) G.1 G.2.1 d_Ck_goesOn_24 (by decide) (fun c24 => ?_) (fun c24 => ?_)
      · skip
        have h := h.1 c24
        exact J_36 σ H locs h hP hD hS ls (lv_sub hl [] rfl)
      · skip
        have h := h.2 c24
        refine lv_aload_n G.1 G.2.1 d_Ck_goesOn_27 rfl (lv_at hl 0 rfl) ?_
        refine ugf (v := .int (sV σ a0 12)) G hP h_a0 iCk rfl 12 (by decide) rfl q663 rfl rfl d_Ck_goesOn_28 ?_
        refine lv_bipush (v := 59) G.1 G.2.1 d_Ck_goesOn_31 (by decide) ?_
        refine lv_icmp_le (tgt := 40) G.1 G.2.1 d_Ck_goesOn_33 (by decide) (fun c33 => ?_) (fun c33 => ?_)
        · skip
          have h := h.1 c33
          exact J_40 σ H locs h hP hD hS ls (lv_sub hl [] rfl)
        · skip
          have h := h.2 c33
          exact J_36 σ H locs h hP hD hS ls (lv_sub hl [] rfl)
def y_Fi_giveSlots : MethodName := ⟨"ClassWorks$Finder", "giveSlots", "(LClassWorks$World;I)V"⟩
abbrev b_Fi_giveSlots : ByteArray := prog_3_method_7_code
theorem q1708 : Cond.methodLink "ClassWorks$Finder" 141 y_Wd_field ∈ lw_ok := lw_okmem (List.mem_of_getElem? (i := 1708) (by decide +kernel)) rfl
theorem q836 : Cond.fieldLink "ClassWorks$Finder" 144 "ClassWorks$World" "fields" "LClassWorks$Ints;" ∈ lw_ok := lw_okmem (List.mem_of_getElem? (i := 836) (by decide +kernel)) rfl
theorem q1709 : Cond.methodLink "ClassWorks$Finder" 147 y_In_put ∈ lw_ok := lw_okmem (List.mem_of_getElem? (i := 1709) (by decide +kernel)) rfl
theorem d_Fi_giveSlots_0 : decode b_Fi_giveSlots 0 = .ok (.aload_n 1, 1) := by decide +kernel
theorem d_Fi_giveSlots_1 : decode b_Fi_giveSlots 1 = .ok (.iload_n 2, 1) := by decide +kernel
theorem d_Fi_giveSlots_2 : decode b_Fi_giveSlots 2 = .ok (.invokevirtual 109, 3) := by decide +kernel
theorem d_Fi_giveSlots_5 : decode b_Fi_giveSlots 5 = .ok (.istore_n 3, 1) := by decide +kernel
theorem d_Fi_giveSlots_6 : decode b_Fi_giveSlots 6 = .ok (.iload_n 3, 1) := by decide +kernel
theorem d_Fi_giveSlots_7 : decode b_Fi_giveSlots 7 = .ok (.ifCond .ge 7, 3) := by decide +kernel
theorem d_Fi_giveSlots_10 : decode b_Fi_giveSlots 10 = .ok (.iconst 0, 1) := by decide +kernel
theorem d_Fi_giveSlots_11 : decode b_Fi_giveSlots 11 = .ok (.goto 10, 3) := by decide +kernel
theorem d_Fi_giveSlots_14 : decode b_Fi_giveSlots 14 = .ok (.aload_n 1, 1) := by decide +kernel
theorem d_Fi_giveSlots_15 : decode b_Fi_giveSlots 15 = .ok (.iload_n 3, 1) := by decide +kernel
theorem d_Fi_giveSlots_16 : decode b_Fi_giveSlots 16 = .ok (.bipush 15, 2) := by decide +kernel
theorem d_Fi_giveSlots_18 : decode b_Fi_giveSlots 18 = .ok (.invokevirtual 51, 3) := by decide +kernel
theorem d_Fi_giveSlots_21 : decode b_Fi_giveSlots 21 = .ok (.istore 4, 2) := by decide +kernel
theorem d_Fi_giveSlots_23 : decode b_Fi_giveSlots 23 = .ok (.iconst 0, 1) := by decide +kernel
theorem d_Fi_giveSlots_24 : decode b_Fi_giveSlots 24 = .ok (.istore 5, 2) := by decide +kernel
theorem d_Fi_giveSlots_26 : decode b_Fi_giveSlots 26 = .ok (.iload 5, 2) := by decide +kernel
theorem d_Fi_giveSlots_28 : decode b_Fi_giveSlots 28 = .ok (.aload_n 1, 1) := by decide +kernel
theorem d_Fi_giveSlots_29 : decode b_Fi_giveSlots 29 = .ok (.iload_n 2, 1) := by decide +kernel
theorem d_Fi_giveSlots_30 : decode b_Fi_giveSlots 30 = .ok (.bipush 9, 2) := by decide +kernel
theorem d_Fi_giveSlots_32 : decode b_Fi_giveSlots 32 = .ok (.invokevirtual 51, 3) := by decide +kernel
theorem d_Fi_giveSlots_35 : decode b_Fi_giveSlots 35 = .ok (.if_icmp .ge 49, 3) := by decide +kernel
theorem d_Fi_giveSlots_38 : decode b_Fi_giveSlots 38 = .ok (.aload_n 1, 1) := by decide +kernel
theorem d_Fi_giveSlots_39 : decode b_Fi_giveSlots 39 = .ok (.iload_n 2, 1) := by decide +kernel
theorem d_Fi_giveSlots_40 : decode b_Fi_giveSlots 40 = .ok (.iload 5, 2) := by decide +kernel
theorem d_Fi_giveSlots_42 : decode b_Fi_giveSlots 42 = .ok (.iconst 2, 1) := by decide +kernel
theorem d_Fi_giveSlots_43 : decode b_Fi_giveSlots 43 = .ok (.invokevirtual 141, 3) := by decide +kernel
theorem d_Fi_giveSlots_46 : decode b_Fi_giveSlots 46 = .ok (.iconst 1, 1) := by decide +kernel
theorem d_Fi_giveSlots_47 : decode b_Fi_giveSlots 47 = .ok (.iand, 1) := by decide +kernel
theorem d_Fi_giveSlots_48 : decode b_Fi_giveSlots 48 = .ok (.ifCond .ne 30, 3) := by decide +kernel
theorem d_Fi_giveSlots_51 : decode b_Fi_giveSlots 51 = .ok (.aload_n 1, 1) := by decide +kernel
theorem d_Fi_giveSlots_52 : decode b_Fi_giveSlots 52 = .ok (.getfield 144, 3) := by decide +kernel
theorem d_Fi_giveSlots_55 : decode b_Fi_giveSlots 55 = .ok (.aload_n 1, 1) := by decide +kernel
theorem d_Fi_giveSlots_56 : decode b_Fi_giveSlots 56 = .ok (.iload_n 2, 1) := by decide +kernel
theorem d_Fi_giveSlots_57 : decode b_Fi_giveSlots 57 = .ok (.bipush 8, 2) := by decide +kernel
theorem d_Fi_giveSlots_59 : decode b_Fi_giveSlots 59 = .ok (.invokevirtual 51, 3) := by decide +kernel
theorem d_Fi_giveSlots_62 : decode b_Fi_giveSlots 62 = .ok (.iload 5, 2) := by decide +kernel
theorem d_Fi_giveSlots_64 : decode b_Fi_giveSlots 64 = .ok (.bipush 7, 2) := by decide +kernel
theorem d_Fi_giveSlots_66 : decode b_Fi_giveSlots 66 = .ok (.imul, 1) := by decide +kernel
theorem d_Fi_giveSlots_67 : decode b_Fi_giveSlots 67 = .ok (.iadd, 1) := by decide +kernel
theorem d_Fi_giveSlots_68 : decode b_Fi_giveSlots 68 = .ok (.iconst 5, 1) := by decide +kernel
theorem d_Fi_giveSlots_69 : decode b_Fi_giveSlots 69 = .ok (.iadd, 1) := by decide +kernel
theorem d_Fi_giveSlots_70 : decode b_Fi_giveSlots 70 = .ok (.iload 4, 2) := by decide +kernel
theorem d_Fi_giveSlots_72 : decode b_Fi_giveSlots 72 = .ok (.invokevirtual 147, 3) := by decide +kernel
theorem d_Fi_giveSlots_75 : decode b_Fi_giveSlots 75 = .ok (.iinc 4 1, 3) := by decide +kernel
theorem d_Fi_giveSlots_78 : decode b_Fi_giveSlots 78 = .ok (.iinc 5 1, 3) := by decide +kernel
theorem d_Fi_giveSlots_81 : decode b_Fi_giveSlots 81 = .ok (.goto (-55), 3) := by decide +kernel
theorem d_Fi_giveSlots_84 : decode b_Fi_giveSlots 84 = .ok (.aload_n 1, 1) := by decide +kernel
theorem d_Fi_giveSlots_85 : decode b_Fi_giveSlots 85 = .ok (.iload_n 2, 1) := by decide +kernel
theorem d_Fi_giveSlots_86 : decode b_Fi_giveSlots 86 = .ok (.bipush 15, 2) := by decide +kernel
theorem d_Fi_giveSlots_88 : decode b_Fi_giveSlots 88 = .ok (.iload 4, 2) := by decide +kernel
theorem d_Fi_giveSlots_90 : decode b_Fi_giveSlots 90 = .ok (.invokevirtual 82, 3) := by decide +kernel
theorem d_Fi_giveSlots_93 : decode b_Fi_giveSlots 93 = .ok (.return_, 1) := by decide +kernel
abbrev ru_Fi_giveSlots : Room := { frames := 1, cells := 0, slots := 0, locals := 23 }
def wj_Fi_giveSlots_78 (y : Ly) (Post : St → Prop) (K_26 : St → Int32 → Int32 → Int32 → Prop) (a0 : Nat) (a1 : Nat) (s_j78 : St) (x2j78 : Int32) (x4j78 : Int32) (x5j78 : Int32) : Prop := K_26 s_j78 x2j78 x4j78 (x5j78 + 1)
def wb_Fi_giveSlots_26 (y : Ly) (Post : St → Prop) (K_26 : St → Int32 → Int32 → Int32 → Prop) (a0 : Nat) (a1 : Nat) (s_h26 : St) (x2h26 : Int32) (x4h26 : Int32) (x5h26 : Int32) : Prop := wu_Wd_of y (fun (s_4 : St) (r_3 : Int32) => ((r_3 ≤ x5h26 → wu_Wd_set y (fun (s_6 : St) => Post s_6) s_4 a1 x2h26 15 x4h26) ∧ (¬ (r_3 ≤ x5h26) → wu_Wd_field y (fun (s_8 : St) (r_7 : Int32) => ((¬ (r_7 &&& 1) = 0 → wj_Fi_giveSlots_78 y Post K_26 a0 a1 s_8 x2h26 x4h26 x5h26) ∧ ((r_7 &&& 1) = 0 → wu_Wd_of y (fun (s_10 : St) (r_9 : Int32) => wu_In_put y (fun (s_12 : St) => wj_Fi_giveSlots_78 y Post K_26 a0 a1 s_12 x2h26 (x4h26 + 1) x5h26) s_10 (lk a1 8) ((r_9 + (x5h26 * 7)) + 5) x4h26) s_8 a1 x2h26 8))) s_4 a1 x2h26 x5h26 2))) s_h26 a1 x2h26 9
def wl_Fi_giveSlots_26 (y : Ly) (Post : St → Prop) (a0 : Nat) (a1 : Nat) (s_h26 : St) (x2h26 : Int32) (x4h26 : Int32) (x5h26 : Int32) : Prop := ∃ (I : St → Int32 → Int32 → Int32 → Prop) (μ : St → Int32 → Int32 → Int32 → Nat), I s_h26 x2h26 x4h26 x5h26 ∧ ∀ (u : St) (t0 : Int32) (t1 : Int32) (t2 : Int32), I u t0 t1 t2 → wb_Fi_giveSlots_26 y Post (fun z t0q t1q t2q => I z t0q t1q t2q ∧ μ z t0q t1q t2q < μ u t0 t1 t2) a0 a1 u t0 t1 t2
def wj_Fi_giveSlots_21 (y : Ly) (Post : St → Prop) (a0 : Nat) (a1 : Nat) (s_j21 : St) (x2j21 : Int32) (z0j21 : Int32) : Prop := wl_Fi_giveSlots_26 y Post a0 a1 s_j21 x2j21 z0j21 0
def wu_Fi_giveSlots (y : Ly) (Post : St → Prop) (σ : St) (a0 : Nat) (a1 : Nat) (v2 : Int32) : Prop := wu_Wd_up y (fun (s_2 : St) (r_1 : Int32) => ((0 ≤ r_1 → wu_Wd_of y (fun (s_14 : St) (r_13 : Int32) => wj_Fi_giveSlots_21 y Post a0 a1 s_14 v2 r_13) s_2 a1 r_1 15) ∧ (¬ (0 ≤ r_1) → wj_Fi_giveSlots_21 y Post a0 a1 s_2 v2 0))) σ a1 v2
set_option maxHeartbeats 4000000 in
set_option maxRecDepth 100000 in
theorem cu_Fi_giveSlots (l : Launch) (D : va_G) (g : Nat → ClassId) (ad : Nat → Nat) (y : Ly) (Post : St → Prop) (σ : St) (a0 : Nat) (a1 : Nat) (v2 : Int32) (sz : Nat) (h_a0 : cl a0 = 1) (h_a1 : cl a1 = 9) (h : wu_Fi_giveSlots y Post σ a0 a1 v2) : Met l y_Fi_giveSlots (mw y_Fi_giveSlots b_Fi_giveSlots 6 (none)) ru_Fi_giveSlots (PC g D [] [.ref (ad a0), .ref (ad a1), .int v2] sz (ws g ad y σ)) (va_Qv (fun u : St => Post u) (QW D (va_A (ws g ad y σ) sz) (fun u => ws g ad y u)) (va_A (ws g ad y σ) sz)) 0 0 (va_A (ws g ad y σ) sz) := by
  refine ofV (by decide +kernel) (Nat.le_of_ble_eq_true rfl) ?_
  intro p e s m args below meth c A Q ls H locs G hsz hP hD hS hl hret
  subst hsz
  have hl : lv_has ls 6 [(0, .ref (ad a0)), (1, .ref (ad a1)), (2, .int v2)] := hl
  unfold wu_Fi_giveSlots at h
  refine lv_aload_n G.1 G.2.1 d_Fi_giveSlots_0 rfl (lv_at hl 1 rfl) ?_
  refine lv_iload_n G.1 G.2.1 d_Fi_giveSlots_1 rfl (lv_at hl 2 rfl) ?_
  refine ucVi (As := [.int v2]) (rest := []) G hP hD hS (cu_Wd_up l D g ad y _ σ a1 v2 H.size h_a1 h) w9_Wd_up q1570 ⟨Nat.le_of_ble_eq_true rfl, Nat.le_of_ble_eq_true rfl⟩ rfl rfl h_a1 (q := (RWd, TWd, 17)) rfl rfl hl.1 rfl (Nat.le_of_ble_eq_true rfl) rfl ⟨Nat.le_refl _, Nat.le_refl _⟩ d_Fi_giveSlots_2 (fun r_1 s_2 H locs h hP hD hS => ?_)
  refine lv_istore_n (lv' := [(3, .int r_1), (0, .ref (ad a0)), (1, .ref (ad a1)), (2, .int v2)]) G.1 G.2.1 d_Fi_giveSlots_5 rfl hl (by decide) rfl (fun ls hl => ?_)
  refine lv_iload_n G.1 G.2.1 d_Fi_giveSlots_6 rfl (lv_at hl 0 rfl) ?_
  have J_21 : ∀ (s_j21 : St) (x2j21 : Int32) (z0j21 : Int32) (H : Heap) (locs : List Loc), wj_Fi_giveSlots_21 y Post a0 a1 s_j21 x2j21 z0j21 → va_P D CL (ws g ad y s_j21) H → va_D A (ws g ad y s_j21) → va_S A s.heap H locs → ∀ ls, lv_has ls 6 [(1, .ref (ad a1)), (2, .int x2j21)] → W p l e ru_Fi_giveSlots s m args below meth c H locs 0 0 Q (F0 m 21 ls [.int z0j21]) := by
    intro s_j21 x2j21 z0j21 H locs h hP hD hS ls hl
    unfold wj_Fi_giveSlots_21 at h
    refine lv_istore (lv' := [(4, .int z0j21), (1, .ref (ad a1)), (2, .int x2j21)]) G.1 G.2.1 d_Fi_giveSlots_21 hl (by decide) rfl (fun ls hl => ?_)
    refine lv_iconst (v := 0) G.1 G.2.1 d_Fi_giveSlots_23 (by decide) ?_
    refine lv_istore (lv' := [(5, .int 0), (4, .int z0j21), (1, .ref (ad a1)), (2, .int x2j21)]) G.1 G.2.1 d_Fi_giveSlots_24 hl (by decide) rfl (fun ls hl => ?_)
    unfold wl_Fi_giveSlots_26 at h
    obtain ⟨I_26, μ_26, hI_26, hB_26⟩ := h
    have L_26 : ∀ (n_26 : Nat) (s_h26 : St) (x2h26 : Int32) (x4h26 : Int32) (x5h26 : Int32), μ_26 s_h26 x2h26 x4h26 x5h26 < n_26 → I_26 s_h26 x2h26 x4h26 x5h26 → ∀ (H : Heap) (locs : List Loc), va_P D CL (ws g ad y s_h26) H → va_D A (ws g ad y s_h26) → va_S A s.heap H locs → ∀ ls, lv_has ls 6 [(1, .ref (ad a1)), (2, .int x2h26), (4, .int x4h26), (5, .int x5h26)] → W p l e ru_Fi_giveSlots s m args below meth c H locs 0 0 Q (F0 m 26 ls []) := by
      intro n_26
      induction n_26 with
      | zero => intro s_h26 x2h26 x4h26 x5h26 hμ; exact absurd hμ (Nat.not_lt_zero _)
      | succ n_26 ih_26 =>
        intro s_h26 x2h26 x4h26 x5h26 hμ_26 hJ H locs hP hD hS ls hl
        obtain ⟨K_26, hK_26, h⟩ : ∃ K : St → Int32 → Int32 → Int32 → Prop, (∀ z (t0 : Int32) (t1 : Int32) (t2 : Int32), K z t0 t1 t2 → I_26 z t0 t1 t2 ∧ μ_26 z t0 t1 t2 < μ_26 s_h26 x2h26 x4h26 x5h26) ∧ wb_Fi_giveSlots_26 y Post K a0 a1 s_h26 x2h26 x4h26 x5h26 := ⟨_, fun _ _ _ _ h => h, hB_26 s_h26 x2h26 x4h26 x5h26 hJ⟩
        unfold wb_Fi_giveSlots_26 at h
        refine lv_iload G.1 G.2.1 d_Fi_giveSlots_26 (lv_at hl 3 rfl) ?_
        refine lv_aload_n G.1 G.2.1 d_Fi_giveSlots_28 rfl (lv_at hl 0 rfl) ?_
        refine lv_iload_n G.1 G.2.1 d_Fi_giveSlots_29 rfl (lv_at hl 1 rfl) ?_
        refine lv_bipush (v := 9) G.1 G.2.1 d_Fi_giveSlots_30 (by decide) ?_
        refine ucVi (As := [.int x2h26, .int 9]) (rest := [.int x5h26]) G hP hD hS (cu_Wd_of l D g ad y _ s_h26 a1 x2h26 9 H.size h_a1 h) w9_Wd_of q1532 ⟨Nat.le_of_ble_eq_true rfl, Nat.le_of_ble_eq_true rfl⟩ rfl rfl h_a1 (q := (RWd, TWd, 17)) rfl rfl hl.1 rfl (Nat.le_of_ble_eq_true rfl) rfl ⟨Nat.le_refl _, Nat.le_refl _⟩ d_Fi_giveSlots_32 (fun r_3 s_4 H locs h hP hD hS => ?_)
        refine lv_icmp_ge (tgt := 84) G.1 G.2.1 d_Fi_giveSlots_35 (by decide) (fun c35 => ?_) (fun c35 => ?_)
        · skip
          have h := h.1 c35
          refine lv_aload_n G.1 G.2.1 d_Fi_giveSlots_84 rfl (lv_at hl 0 rfl) ?_
          refine lv_iload_n G.1 G.2.1 d_Fi_giveSlots_85 rfl (lv_at hl 1 rfl) ?_
          refine lv_bipush (v := 15) G.1 G.2.1 d_Fi_giveSlots_86 (by decide) ?_
          refine lv_iload G.1 G.2.1 d_Fi_giveSlots_88 (lv_at hl 2 rfl) ?_
          refine ucVv (As := [.int x2h26, .int 15, .int x4h26]) (rest := []) G hP hD hS (cu_Wd_set l D g ad y _ s_4 a1 x2h26 15 x4h26 H.size h_a1 h) w9_Wd_set q1563 ⟨Nat.le_of_ble_eq_true rfl, Nat.le_of_ble_eq_true rfl⟩ rfl rfl h_a1 (q := (RWd, TWd, 17)) rfl rfl hl.1 rfl (Nat.le_of_ble_eq_true rfl) rfl ⟨Nat.le_refl _, Nat.le_refl _⟩ d_Fi_giveSlots_90 (fun s_6 H locs h hP hD hS => ?_)
          refine W.eq (g2 := F0 m 93 ls []) rfl ?_
          exact hret _ _ _ _ _ _ ls h hP hD hS (Nat.le_refl _) (Nat.le_refl _) d_Fi_giveSlots_93
        · skip
          have h := h.2 c35
          refine lv_aload_n G.1 G.2.1 d_Fi_giveSlots_38 rfl (lv_at hl 0 rfl) ?_
          refine lv_iload_n G.1 G.2.1 d_Fi_giveSlots_39 rfl (lv_at hl 1 rfl) ?_
          refine lv_iload G.1 G.2.1 d_Fi_giveSlots_40 (lv_at hl 3 rfl) ?_
          refine lv_iconst (v := 2) G.1 G.2.1 d_Fi_giveSlots_42 (by decide) ?_
          refine ucVi (As := [.int x2h26, .int x5h26, .int 2]) (rest := []) G hP hD hS (cu_Wd_field l D g ad y _ s_4 a1 x2h26 x5h26 2 H.size h_a1 h) w9_Wd_field q1708 ⟨Nat.le_of_ble_eq_true rfl, Nat.le_of_ble_eq_true rfl⟩ rfl rfl h_a1 (q := (RWd, TWd, 17)) rfl rfl hl.1 rfl (Nat.le_of_ble_eq_true rfl) rfl ⟨Nat.le_refl _, Nat.le_refl _⟩ d_Fi_giveSlots_43 (fun r_7 s_8 H locs h hP hD hS => ?_)
          refine W.eq (g2 := F0 m 46 ls [.int r_7]) rfl ?_
          refine lv_iconst (v := 1) G.1 G.2.1 d_Fi_giveSlots_46 (by decide) ?_
          refine lv_iand G.1 G.2.1 d_Fi_giveSlots_47 ?_
          have J_78 : ∀ (s_j78 : St) (x2j78 : Int32) (x4j78 : Int32) (x5j78 : Int32) (H : Heap) (locs : List Loc), wj_Fi_giveSlots_78 y Post K_26 a0 a1 s_j78 x2j78 x4j78 x5j78 → va_P D CL (ws g ad y s_j78) H → va_D A (ws g ad y s_j78) → va_S A s.heap H locs → ∀ ls, lv_has ls 6 [(1, .ref (ad a1)), (2, .int x2j78), (4, .int x4j78), (5, .int x5j78)] → W p l e ru_Fi_giveSlots s m args below meth c H locs 0 0 Q (F0 m 78 ls []) := by
            intro s_j78 x2j78 x4j78 x5j78 H locs h hP hD hS ls hl
            unfold wj_Fi_giveSlots_78 at h
            refine lv_iinc (v := x5j78 + 1) (lv' := [(5, .int (x5j78 + 1)), (1, .ref (ad a1)), (2, .int x2j78), (4, .int x4j78)]) G.1 G.2.1 d_Fi_giveSlots_78 hl (k := 3) rfl rfl (by decide) rfl (fun ls hl => ?_)
            refine lv_goto (tgt := 26) G.1 G.2.1 d_Fi_giveSlots_81 (by decide) ?_
            have h := hK_26 s_j78 x2j78 x4j78 (x5j78 + 1) h
            exact ih_26 s_j78 x2j78 x4j78 (x5j78 + 1) (Nat.lt_of_lt_of_le h.2 (Nat.le_of_lt_succ hμ_26)) h.1 H locs hP hD hS ls (lv_sub hl [1, 2, 3, 0] rfl)
          refine lv_if_ne (tgt := 78) G.1 G.2.1 d_Fi_giveSlots_48 (by decide) (fun c48 => ?_) (fun c48 => ?_)
          · skip
            have h := h.1 c48
            exact J_78 s_8 x2h26 x4h26 x5h26 H locs h hP hD hS ls (lv_sub hl [0, 1, 2, 3] rfl)
          · skip
            have h := h.2 c48
            refine lv_aload_n G.1 G.2.1 d_Fi_giveSlots_51 rfl (lv_at hl 0 rfl) ?_
            refine ugf (v := .ref (ad (lk a1 8))) G hP h_a1 iWd rfl 8 (by decide) rfl q836 rfl rfl d_Fi_giveSlots_52 ?_
            refine lv_aload_n G.1 G.2.1 d_Fi_giveSlots_55 rfl (lv_at hl 0 rfl) ?_
            refine lv_iload_n G.1 G.2.1 d_Fi_giveSlots_56 rfl (lv_at hl 1 rfl) ?_
            refine lv_bipush (v := 8) G.1 G.2.1 d_Fi_giveSlots_57 (by decide) ?_
            refine ucVi (As := [.int x2h26, .int 8]) (rest := [.ref (ad (lk a1 8))]) G hP hD hS (cu_Wd_of l D g ad y _ s_8 a1 x2h26 8 H.size h_a1 h) w9_Wd_of q1532 ⟨Nat.le_of_ble_eq_true rfl, Nat.le_of_ble_eq_true rfl⟩ rfl rfl h_a1 (q := (RWd, TWd, 17)) rfl rfl hl.1 rfl (Nat.le_of_ble_eq_true rfl) rfl ⟨Nat.le_refl _, Nat.le_refl _⟩ d_Fi_giveSlots_59 (fun r_9 s_10 H locs h hP hD hS => ?_)
            refine lv_iload G.1 G.2.1 d_Fi_giveSlots_62 (lv_at hl 3 rfl) ?_
            refine lv_bipush (v := 7) G.1 G.2.1 d_Fi_giveSlots_64 (by decide) ?_
            refine lv_imul G.1 G.2.1 d_Fi_giveSlots_66 ?_
            refine W.eq (g2 := F0 m 67 ls [.int (x5h26 * 7), .int r_9, .ref (ad (lk a1 8))]) rfl ?_
            refine lv_iadd G.1 G.2.1 d_Fi_giveSlots_67 ?_
            refine lv_iconst (v := 5) G.1 G.2.1 d_Fi_giveSlots_68 (by decide) ?_
            refine lv_iadd G.1 G.2.1 d_Fi_giveSlots_69 ?_
            refine lv_iload G.1 G.2.1 d_Fi_giveSlots_70 (lv_at hl 2 rfl) ?_
            refine ucVv (As := [.int ((r_9 + (x5h26 * 7)) + 5), .int x4h26]) (rest := []) G hP hD hS (cu_In_put l D g ad y _ s_10 (lk a1 8) ((r_9 + (x5h26 * 7)) + 5) x4h26 H.size (lk_9_8 h_a1) h) w9_In_put q1709 ⟨Nat.le_of_ble_eq_true rfl, Nat.le_of_ble_eq_true rfl⟩ rfl rfl (lk_9_8 h_a1) (q := (RIn, TIn, 2)) rfl rfl hl.1 rfl (Nat.le_of_ble_eq_true rfl) rfl ⟨Nat.le_refl _, Nat.le_refl _⟩ d_Fi_giveSlots_72 (fun s_12 H locs h hP hD hS => ?_)
            refine lv_iinc (v := x4h26 + 1) (lv' := [(4, .int (x4h26 + 1)), (1, .ref (ad a1)), (2, .int x2h26), (5, .int x5h26)]) G.1 G.2.1 d_Fi_giveSlots_75 hl (k := 2) rfl rfl (by decide) rfl (fun ls hl => ?_)
            exact J_78 s_12 x2h26 (x4h26 + 1) x5h26 H locs h hP hD hS ls (lv_sub hl [1, 2, 0, 3] rfl)
    exact L_26 _ s_j21 x2j21 z0j21 0 (Nat.lt_succ_self _) hI_26 H locs hP hD hS ls (lv_sub hl [2, 3, 1, 0] rfl)
  refine lv_if_ge (tgt := 14) G.1 G.2.1 d_Fi_giveSlots_7 (by decide) (fun c7 => ?_) (fun c7 => ?_)
  · skip
    have h := h.1 c7
    refine lv_aload_n G.1 G.2.1 d_Fi_giveSlots_14 rfl (lv_at hl 2 rfl) ?_
    refine lv_iload_n G.1 G.2.1 d_Fi_giveSlots_15 rfl (lv_at hl 0 rfl) ?_
    refine lv_bipush (v := 15) G.1 G.2.1 d_Fi_giveSlots_16 (by decide) ?_
    refine ucVi (As := [.int r_1, .int 15]) (rest := []) G hP hD hS (cu_Wd_of l D g ad y _ s_2 a1 r_1 15 H.size h_a1 h) w9_Wd_of q1532 ⟨Nat.le_of_ble_eq_true rfl, Nat.le_of_ble_eq_true rfl⟩ rfl rfl h_a1 (q := (RWd, TWd, 17)) rfl rfl hl.1 rfl (Nat.le_of_ble_eq_true rfl) rfl ⟨Nat.le_refl _, Nat.le_refl _⟩ d_Fi_giveSlots_18 (fun r_13 s_14 H locs h hP hD hS => ?_)
    exact J_21 s_14 v2 r_13 H locs h hP hD hS ls (lv_sub hl [2, 3] rfl)
  · skip
    have h := h.2 c7
    refine lv_iconst (v := 0) G.1 G.2.1 d_Fi_giveSlots_10 (by decide) ?_
    refine lv_goto (tgt := 21) G.1 G.2.1 d_Fi_giveSlots_11 (by decide) ?_
    exact J_21 s_2 v2 0 H locs h hP hD hS ls (lv_sub hl [2, 3] rfl)
def y_Fi_openFaces : MethodName := ⟨"ClassWorks$Finder", "openFaces", "(LClassWorks$World;I)V"⟩
abbrev b_Fi_openFaces : ByteArray := prog_3_method_9_code
theorem q741 : Cond.fieldLink "ClassWorks$Finder" 40 "ClassWorks$Finder" "opened" "I" ∈ lw_ok := lw_okmem (List.mem_of_getElem? (i := 741) (by decide +kernel)) rfl
theorem q740 : Cond.fieldLink "ClassWorks$Finder" 37 "ClassWorks$Finder" "open" "[I" ∈ lw_ok := lw_okmem (List.mem_of_getElem? (i := 740) (by decide +kernel)) rfl
theorem d_Fi_openFaces_0 : decode b_Fi_openFaces 0 = .ok (.aload_n 1, 1) := by decide +kernel
theorem d_Fi_openFaces_1 : decode b_Fi_openFaces 1 = .ok (.iload_n 2, 1) := by decide +kernel
theorem d_Fi_openFaces_2 : decode b_Fi_openFaces 2 = .ok (.iconst 3, 1) := by decide +kernel
theorem d_Fi_openFaces_3 : decode b_Fi_openFaces 3 = .ok (.invokevirtual 51, 3) := by decide +kernel
theorem d_Fi_openFaces_6 : decode b_Fi_openFaces 6 = .ok (.iconst 1, 1) := by decide +kernel
theorem d_Fi_openFaces_7 : decode b_Fi_openFaces 7 = .ok (.isub, 1) := by decide +kernel
theorem d_Fi_openFaces_8 : decode b_Fi_openFaces 8 = .ok (.istore_n 3, 1) := by decide +kernel
theorem d_Fi_openFaces_9 : decode b_Fi_openFaces 9 = .ok (.iload_n 3, 1) := by decide +kernel
theorem d_Fi_openFaces_10 : decode b_Fi_openFaces 10 = .ok (.ifCond .lt 53, 3) := by decide +kernel
theorem d_Fi_openFaces_13 : decode b_Fi_openFaces 13 = .ok (.aload_n 0, 1) := by decide +kernel
theorem d_Fi_openFaces_14 : decode b_Fi_openFaces 14 = .ok (.getfield 40, 3) := by decide +kernel
theorem d_Fi_openFaces_17 : decode b_Fi_openFaces 17 = .ok (.sipush 256, 3) := by decide +kernel
theorem d_Fi_openFaces_20 : decode b_Fi_openFaces 20 = .ok (.if_icmp .ge 43, 3) := by decide +kernel
theorem d_Fi_openFaces_23 : decode b_Fi_openFaces 23 = .ok (.aload_n 1, 1) := by decide +kernel
theorem d_Fi_openFaces_24 : decode b_Fi_openFaces 24 = .ok (.iload_n 2, 1) := by decide +kernel
theorem d_Fi_openFaces_25 : decode b_Fi_openFaces 25 = .ok (.iload_n 3, 1) := by decide +kernel
theorem d_Fi_openFaces_26 : decode b_Fi_openFaces 26 = .ok (.invokevirtual 90, 3) := by decide +kernel
theorem d_Fi_openFaces_29 : decode b_Fi_openFaces 29 = .ok (.istore 4, 2) := by decide +kernel
theorem d_Fi_openFaces_31 : decode b_Fi_openFaces 31 = .ok (.iload 4, 2) := by decide +kernel
theorem d_Fi_openFaces_33 : decode b_Fi_openFaces 33 = .ok (.ifCond .lt 24, 3) := by decide +kernel
theorem d_Fi_openFaces_36 : decode b_Fi_openFaces 36 = .ok (.aload_n 0, 1) := by decide +kernel
theorem d_Fi_openFaces_37 : decode b_Fi_openFaces 37 = .ok (.getfield 37, 3) := by decide +kernel
theorem d_Fi_openFaces_40 : decode b_Fi_openFaces 40 = .ok (.aload_n 0, 1) := by decide +kernel
theorem d_Fi_openFaces_41 : decode b_Fi_openFaces 41 = .ok (.getfield 40, 3) := by decide +kernel
theorem d_Fi_openFaces_44 : decode b_Fi_openFaces 44 = .ok (.iload 4, 2) := by decide +kernel
theorem d_Fi_openFaces_46 : decode b_Fi_openFaces 46 = .ok (.iastore, 1) := by decide +kernel
theorem d_Fi_openFaces_47 : decode b_Fi_openFaces 47 = .ok (.aload_n 0, 1) := by decide +kernel
theorem d_Fi_openFaces_48 : decode b_Fi_openFaces 48 = .ok (.dup, 1) := by decide +kernel
theorem d_Fi_openFaces_49 : decode b_Fi_openFaces 49 = .ok (.getfield 40, 3) := by decide +kernel
theorem d_Fi_openFaces_52 : decode b_Fi_openFaces 52 = .ok (.iconst 1, 1) := by decide +kernel
theorem d_Fi_openFaces_53 : decode b_Fi_openFaces 53 = .ok (.iadd, 1) := by decide +kernel
theorem d_Fi_openFaces_54 : decode b_Fi_openFaces 54 = .ok (.putfield 40, 3) := by decide +kernel
theorem d_Fi_openFaces_57 : decode b_Fi_openFaces 57 = .ok (.iinc 3 (-1), 3) := by decide +kernel
theorem d_Fi_openFaces_60 : decode b_Fi_openFaces 60 = .ok (.goto (-51), 3) := by decide +kernel
theorem d_Fi_openFaces_63 : decode b_Fi_openFaces 63 = .ok (.return_, 1) := by decide +kernel
abbrev ru_Fi_openFaces : Room := { frames := 1, cells := 0, slots := 0, locals := 23 }
def wj_Fi_openFaces_63 (y : Ly) (Post : St → Prop) (a0 : Nat) (a1 : Nat) (s_j63 : St) : Prop := Post s_j63
def wj_Fi_openFaces_57 (y : Ly) (Post : St → Prop) (K_9 : St → Int32 → Int32 → Prop) (a0 : Nat) (a1 : Nat) (s_j57 : St) (x2j57 : Int32) (x3j57 : Int32) : Prop := K_9 s_j57 x2j57 (x3j57 + (-1))
def wb_Fi_openFaces_9 (y : Ly) (Post : St → Prop) (K_9 : St → Int32 → Int32 → Prop) (a0 : Nat) (a1 : Nat) (s_h9 : St) (x2h9 : Int32) (x3h9 : Int32) : Prop := ((x3h9 < 0 → wj_Fi_openFaces_63 y Post a0 a1 s_h9) ∧ (¬ (x3h9 < 0) → ((256 ≤ (sV s_h9 a0 9) → wj_Fi_openFaces_63 y Post a0 a1 s_h9) ∧ (¬ (256 ≤ (sV s_h9 a0 9)) → wu_Wd_face y (fun (s_4 : St) (r_3 : Int32) => ((r_3 < 0 → wj_Fi_openFaces_57 y Post K_9 a0 a1 s_4 x2h9 x3h9) ∧ (¬ (r_3 < 0) → xS y s_4 a0 8 (sV s_4 a0 9) r_3 (fun s_5 : St => xP (uV s_5 a0 9 ((sV s_5 a0 9) + 1)) (fun s_6 : St => wj_Fi_openFaces_57 y Post K_9 a0 a1 s_6 x2h9 x3h9))))) s_h9 a1 x2h9 x3h9))))
def wl_Fi_openFaces_9 (y : Ly) (Post : St → Prop) (a0 : Nat) (a1 : Nat) (s_h9 : St) (x2h9 : Int32) (x3h9 : Int32) : Prop := ∃ (I : St → Int32 → Int32 → Prop) (μ : St → Int32 → Int32 → Nat), I s_h9 x2h9 x3h9 ∧ ∀ (u : St) (t0 : Int32) (t1 : Int32), I u t0 t1 → wb_Fi_openFaces_9 y Post (fun z t0q t1q => I z t0q t1q ∧ μ z t0q t1q < μ u t0 t1) a0 a1 u t0 t1
def wu_Fi_openFaces (y : Ly) (Post : St → Prop) (σ : St) (a0 : Nat) (a1 : Nat) (v2 : Int32) : Prop := wu_Wd_of y (fun (s_2 : St) (r_1 : Int32) => wl_Fi_openFaces_9 y Post a0 a1 s_2 v2 (r_1 - 1)) σ a1 v2 3
set_option maxHeartbeats 4000000 in
set_option maxRecDepth 100000 in
theorem cu_Fi_openFaces (l : Launch) (D : va_G) (g : Nat → ClassId) (ad : Nat → Nat) (y : Ly) (Post : St → Prop) (σ : St) (a0 : Nat) (a1 : Nat) (v2 : Int32) (sz : Nat) (h_a0 : cl a0 = 1) (h_a1 : cl a1 = 9) (h : wu_Fi_openFaces y Post σ a0 a1 v2) : Met l y_Fi_openFaces (mw y_Fi_openFaces b_Fi_openFaces 5 (none)) ru_Fi_openFaces (PC g D [] [.ref (ad a0), .ref (ad a1), .int v2] sz (ws g ad y σ)) (va_Qv (fun u : St => Post u) (QW D (va_A (ws g ad y σ) sz) (fun u => ws g ad y u)) (va_A (ws g ad y σ) sz)) 0 0 (va_A (ws g ad y σ) sz) := by
  refine ofV (by decide +kernel) (Nat.le_of_ble_eq_true rfl) ?_
  intro p e s m args below meth c A Q ls H locs G hsz hP hD hS hl hret
  subst hsz
  have hl : lv_has ls 5 [(0, .ref (ad a0)), (1, .ref (ad a1)), (2, .int v2)] := hl
  unfold wu_Fi_openFaces at h
  refine lv_aload_n G.1 G.2.1 d_Fi_openFaces_0 rfl (lv_at hl 1 rfl) ?_
  refine lv_iload_n G.1 G.2.1 d_Fi_openFaces_1 rfl (lv_at hl 2 rfl) ?_
  refine lv_iconst (v := 3) G.1 G.2.1 d_Fi_openFaces_2 (by decide) ?_
  refine ucVi (As := [.int v2, .int 3]) (rest := []) G hP hD hS (cu_Wd_of l D g ad y _ σ a1 v2 3 H.size h_a1 h) w9_Wd_of q1532 ⟨Nat.le_of_ble_eq_true rfl, Nat.le_of_ble_eq_true rfl⟩ rfl rfl h_a1 (q := (RWd, TWd, 17)) rfl rfl hl.1 rfl (Nat.le_of_ble_eq_true rfl) rfl ⟨Nat.le_refl _, Nat.le_refl _⟩ d_Fi_openFaces_3 (fun r_1 s_2 H locs h hP hD hS => ?_)
  refine lv_iconst (v := 1) G.1 G.2.1 d_Fi_openFaces_6 (by decide) ?_
  refine lv_isub G.1 G.2.1 d_Fi_openFaces_7 ?_
  refine lv_istore_n (lv' := [(3, .int (r_1 - 1)), (0, .ref (ad a0)), (1, .ref (ad a1)), (2, .int v2)]) G.1 G.2.1 d_Fi_openFaces_8 rfl hl (by decide) rfl (fun ls hl => ?_)
  unfold wl_Fi_openFaces_9 at h
  obtain ⟨I_9, μ_9, hI_9, hB_9⟩ := h
  have L_9 : ∀ (n_9 : Nat) (s_h9 : St) (x2h9 : Int32) (x3h9 : Int32), μ_9 s_h9 x2h9 x3h9 < n_9 → I_9 s_h9 x2h9 x3h9 → ∀ (H : Heap) (locs : List Loc), va_P D CL (ws g ad y s_h9) H → va_D A (ws g ad y s_h9) → va_S A s.heap H locs → ∀ ls, lv_has ls 5 [(0, .ref (ad a0)), (1, .ref (ad a1)), (2, .int x2h9), (3, .int x3h9)] → W p l e ru_Fi_openFaces s m args below meth c H locs 0 0 Q (F0 m 9 ls []) := by
    intro n_9
    induction n_9 with
    | zero => intro s_h9 x2h9 x3h9 hμ; exact absurd hμ (Nat.not_lt_zero _)
    | succ n_9 ih_9 =>
      intro s_h9 x2h9 x3h9 hμ_9 hJ H locs hP hD hS ls hl
      obtain ⟨K_9, hK_9, h⟩ : ∃ K : St → Int32 → Int32 → Prop, (∀ z (t0 : Int32) (t1 : Int32), K z t0 t1 → I_9 z t0 t1 ∧ μ_9 z t0 t1 < μ_9 s_h9 x2h9 x3h9) ∧ wb_Fi_openFaces_9 y Post K a0 a1 s_h9 x2h9 x3h9 := ⟨_, fun _ _ _ h => h, hB_9 s_h9 x2h9 x3h9 hJ⟩
      unfold wb_Fi_openFaces_9 at h
      refine lv_iload_n G.1 G.2.1 d_Fi_openFaces_9 rfl (lv_at hl 3 rfl) ?_
      have J_63 : ∀ (s_j63 : St) (H : Heap) (locs : List Loc), wj_Fi_openFaces_63 y Post a0 a1 s_j63 → va_P D CL (ws g ad y s_j63) H → va_D A (ws g ad y s_j63) → va_S A s.heap H locs → ∀ ls, lv_has ls 5 [] → W p l e ru_Fi_openFaces s m args below meth c H locs 0 0 Q (F0 m 63 ls []) := by
        intro s_j63 H locs h hP hD hS ls hl
        unfold wj_Fi_openFaces_63 at h
        exact hret _ _ _ _ _ _ ls h hP hD hS (Nat.le_refl _) (Nat.le_refl _) d_Fi_openFaces_63
      refine lv_if_lt (tgt := 63) G.1 G.2.1 d_Fi_openFaces_10 (by decide) (fun c10 => ?_) (fun c10 => ?_)
      · skip
        have h := h.1 c10
        exact J_63 s_h9 H locs h hP hD hS ls (lv_sub hl [] rfl)
      · skip
        have h := h.2 c10
        refine lv_aload_n G.1 G.2.1 d_Fi_openFaces_13 rfl (lv_at hl 0 rfl) ?_
        refine ugf (v := .int (sV s_h9 a0 9)) G hP h_a0 iFi rfl 9 (by decide) rfl q741 rfl rfl d_Fi_openFaces_14 ?_
        refine lv_sipush (v := 256) G.1 G.2.1 d_Fi_openFaces_17 (by decide) ?_
        refine lv_icmp_ge (tgt := 63) G.1 G.2.1 d_Fi_openFaces_20 (by decide) (fun c20 => ?_) (fun c20 => ?_)
        · skip
          have h := h.1 c20
          exact J_63 s_h9 H locs h hP hD hS ls (lv_sub hl [] rfl)
        · skip
          have h := h.2 c20
          refine lv_aload_n G.1 G.2.1 d_Fi_openFaces_23 rfl (lv_at hl 1 rfl) ?_
          refine lv_iload_n G.1 G.2.1 d_Fi_openFaces_24 rfl (lv_at hl 2 rfl) ?_
          refine lv_iload_n G.1 G.2.1 d_Fi_openFaces_25 rfl (lv_at hl 3 rfl) ?_
          refine ucVi (As := [.int x2h9, .int x3h9]) (rest := []) G hP hD hS (cu_Wd_face l D g ad y _ s_h9 a1 x2h9 x3h9 H.size h_a1 h) w9_Wd_face q1557 ⟨Nat.le_of_ble_eq_true rfl, Nat.le_of_ble_eq_true rfl⟩ rfl rfl h_a1 (q := (RWd, TWd, 17)) rfl rfl hl.1 rfl (Nat.le_of_ble_eq_true rfl) rfl ⟨Nat.le_refl _, Nat.le_refl _⟩ d_Fi_openFaces_26 (fun r_3 s_4 H locs h hP hD hS => ?_)
          refine lv_istore (lv' := [(4, .int r_3), (0, .ref (ad a0)), (1, .ref (ad a1)), (2, .int x2h9), (3, .int x3h9)]) G.1 G.2.1 d_Fi_openFaces_29 hl (by decide) rfl (fun ls hl => ?_)
          refine W.eq (g2 := F0 m 31 ls []) rfl ?_
          refine lv_iload G.1 G.2.1 d_Fi_openFaces_31 (lv_at hl 0 rfl) ?_
          have J_57 : ∀ (s_j57 : St) (x2j57 : Int32) (x3j57 : Int32) (H : Heap) (locs : List Loc), wj_Fi_openFaces_57 y Post K_9 a0 a1 s_j57 x2j57 x3j57 → va_P D CL (ws g ad y s_j57) H → va_D A (ws g ad y s_j57) → va_S A s.heap H locs → ∀ ls, lv_has ls 5 [(0, .ref (ad a0)), (1, .ref (ad a1)), (2, .int x2j57), (3, .int x3j57)] → W p l e ru_Fi_openFaces s m args below meth c H locs 0 0 Q (F0 m 57 ls []) := by
            intro s_j57 x2j57 x3j57 H locs h hP hD hS ls hl
            unfold wj_Fi_openFaces_57 at h
            refine lv_iinc (v := x3j57 + (-1)) (lv' := [(3, .int (x3j57 + (-1))), (0, .ref (ad a0)), (1, .ref (ad a1)), (2, .int x2j57)]) G.1 G.2.1 d_Fi_openFaces_57 hl (k := 3) rfl rfl (by decide) rfl (fun ls hl => ?_)
            refine lv_goto (tgt := 9) G.1 G.2.1 d_Fi_openFaces_60 (by decide) ?_
            have h := hK_9 s_j57 x2j57 (x3j57 + (-1)) h
            exact ih_9 s_j57 x2j57 (x3j57 + (-1)) (Nat.lt_of_lt_of_le h.2 (Nat.le_of_lt_succ hμ_9)) h.1 H locs hP hD hS ls (lv_sub hl [1, 2, 3, 0] rfl)
          refine lv_if_lt (tgt := 57) G.1 G.2.1 d_Fi_openFaces_33 (by decide) (fun c33 => ?_) (fun c33 => ?_)
          · skip
            have h := h.1 c33
            exact J_57 s_4 x2h9 x3h9 H locs h hP hD hS ls (lv_sub hl [1, 2, 3, 4] rfl)
          · skip
            have h := h.2 c33
            refine lv_aload_n G.1 G.2.1 d_Fi_openFaces_36 rfl (lv_at hl 1 rfl) ?_
            refine ugf (v := .ref (yP y a0 8)) G hP h_a0 iFi rfl 8 (by decide) rfl q740 rfl rfl d_Fi_openFaces_37 ?_
            refine lv_aload_n G.1 G.2.1 d_Fi_openFaces_40 rfl (lv_at hl 1 rfl) ?_
            refine ugf (v := .int (sV s_4 a0 9)) G hP h_a0 iFi rfl 9 (by decide) rfl q741 rfl rfl d_Fi_openFaces_41 ?_
            refine lv_iload G.1 G.2.1 d_Fi_openFaces_44 (lv_at hl 0 rfl) ?_
            refine uiast G hP hD hS (kdp h_a0 rfl) (typ h_a0 rfl) h d_Fi_openFaces_46 (fun s_5 H locs h hP hD hS => ?_)
            refine lv_aload_n G.1 G.2.1 d_Fi_openFaces_47 rfl (lv_at hl 1 rfl) ?_
            refine lv_dup G.1 G.2.1 d_Fi_openFaces_48 rfl ?_
            refine ugf (v := .int (sV s_5 a0 9)) G hP h_a0 iFi rfl 9 (by decide) rfl q741 rfl rfl d_Fi_openFaces_49 ?_
            refine lv_iconst (v := 1) G.1 G.2.1 d_Fi_openFaces_52 (by decide) ?_
            refine W.eq (g2 := F0 m 53 ls [.int 1, .int (sV s_5 a0 9), .ref (ad a0)]) rfl ?_
            refine lv_iadd G.1 G.2.1 d_Fi_openFaces_53 ?_
            refine upf G hP hD hS h 9 putV h_a0 iFi tFi tFi_ok nFi rfl (by decide) rfl q741 rfl rfl fV rfl rfl d_Fi_openFaces_54 (fun s_6 H locs h hP hD hS => ?_)
            exact J_57 s_6 x2h9 x3h9 H locs h hP hD hS ls (lv_sub hl [1, 2, 3, 4] rfl)
  exact L_9 _ s_2 v2 (r_1 - 1) (Nat.lt_succ_self _) hI_9 H locs hP hD hS ls (lv_sub hl [1, 2, 3, 0] rfl)
def y_Cw_checked : MethodName := ⟨"ClassWorks", "checked", "(II)I"⟩
abbrev b_Cw_checked : ByteArray := prog_1_method_18_code
theorem q830 : Cond.fieldLink "ClassWorks" 199 "ClassWorks$World" "wrongAt" "I" ∈ lw_ok := lw_okmem (List.mem_of_getElem? (i := 830) (by decide +kernel)) rfl
theorem q827 : Cond.fieldLink "ClassWorks" 196 "ClassWorks$World" "wrongMethod" "I" ∈ lw_ok := lw_okmem (List.mem_of_getElem? (i := 827) (by decide +kernel)) rfl
theorem q824 : Cond.fieldLink "ClassWorks" 193 "ClassWorks$World" "wrongClass" "I" ∈ lw_ok := lw_okmem (List.mem_of_getElem? (i := 824) (by decide +kernel)) rfl
theorem d_Cw_checked_0 : decode b_Cw_checked 0 = .ok (.aload_n 0, 1) := by decide +kernel
theorem d_Cw_checked_1 : decode b_Cw_checked 1 = .ok (.iload_n 1, 1) := by decide +kernel
theorem d_Cw_checked_2 : decode b_Cw_checked 2 = .ok (.invokevirtual 133, 3) := by decide +kernel
theorem d_Cw_checked_5 : decode b_Cw_checked 5 = .ok (.astore_n 3, 1) := by decide +kernel
theorem d_Cw_checked_6 : decode b_Cw_checked 6 = .ok (.aload_n 3, 1) := by decide +kernel
theorem d_Cw_checked_7 : decode b_Cw_checked 7 = .ok (.ifnull 12, 3) := by decide +kernel
theorem d_Cw_checked_10 : decode b_Cw_checked 10 = .ok (.iload_n 2, 1) := by decide +kernel
theorem d_Cw_checked_11 : decode b_Cw_checked 11 = .ok (.ifCond .lt 8, 3) := by decide +kernel
theorem d_Cw_checked_14 : decode b_Cw_checked 14 = .ok (.iload_n 2, 1) := by decide +kernel
theorem d_Cw_checked_15 : decode b_Cw_checked 15 = .ok (.iconst 2, 1) := by decide +kernel
theorem d_Cw_checked_16 : decode b_Cw_checked 16 = .ok (.if_icmp .le 5, 3) := by decide +kernel
theorem d_Cw_checked_19 : decode b_Cw_checked 19 = .ok (.iconst (-1), 1) := by decide +kernel
theorem d_Cw_checked_20 : decode b_Cw_checked 20 = .ok (.ireturn, 1) := by decide +kernel
theorem d_Cw_checked_21 : decode b_Cw_checked 21 = .ok (.iload_n 2, 1) := by decide +kernel
theorem d_Cw_checked_22 : decode b_Cw_checked 22 = .ok (.ifCond .ne 10, 3) := by decide +kernel
theorem d_Cw_checked_25 : decode b_Cw_checked 25 = .ok (.aload_n 3, 1) := by decide +kernel
theorem d_Cw_checked_26 : decode b_Cw_checked 26 = .ok (.getfield 193, 3) := by decide +kernel
theorem d_Cw_checked_29 : decode b_Cw_checked 29 = .ok (.goto 19, 3) := by decide +kernel
theorem d_Cw_checked_32 : decode b_Cw_checked 32 = .ok (.iload_n 2, 1) := by decide +kernel
theorem d_Cw_checked_33 : decode b_Cw_checked 33 = .ok (.iconst 1, 1) := by decide +kernel
theorem d_Cw_checked_34 : decode b_Cw_checked 34 = .ok (.if_icmp .ne 10, 3) := by decide +kernel
theorem d_Cw_checked_37 : decode b_Cw_checked 37 = .ok (.aload_n 3, 1) := by decide +kernel
theorem d_Cw_checked_38 : decode b_Cw_checked 38 = .ok (.getfield 196, 3) := by decide +kernel
theorem d_Cw_checked_41 : decode b_Cw_checked 41 = .ok (.goto 7, 3) := by decide +kernel
theorem d_Cw_checked_44 : decode b_Cw_checked 44 = .ok (.aload_n 3, 1) := by decide +kernel
theorem d_Cw_checked_45 : decode b_Cw_checked 45 = .ok (.getfield 199, 3) := by decide +kernel
theorem d_Cw_checked_48 : decode b_Cw_checked 48 = .ok (.ireturn, 1) := by decide +kernel
abbrev ru_Cw_checked : Room := { frames := 2, cells := 0, slots := 0, locals := 43 }
def wj_Cw_checked_19 (y : Ly) (Post : St → Int32 → Prop) (a0 : Nat) (s_j19 : St) : Prop := Post s_j19 (-1)
def wj_Cw_checked_48 (y : Ly) (Post : St → Int32 → Prop) (a0 : Nat) (s_j48 : St) (z0j48 : Int32) : Prop := Post s_j48 z0j48
def wu_Cw_checked (y : Ly) (Post : St → Int32 → Prop) (σ : St) (a0 : Nat) (v1 : Int32) (v2 : Int32) : Prop := wu_Cw_worldOf y (fun (s_2 : St) (r_1 : Option Nat) => ((r_1 = none → wj_Cw_checked_19 y Post a0 s_2) ∧ (∀ r_1b : Nat, r_1 = some r_1b → (cl r_1b = 9 ∧ ((v2 < 0 → wj_Cw_checked_19 y Post a0 s_2) ∧ (¬ (v2 < 0) → ((v2 ≤ 2 → ((¬ v2 = 0 → ((¬ v2 = 1 → wj_Cw_checked_48 y Post a0 s_2 (sV s_2 r_1b 5)) ∧ (v2 = 1 → wj_Cw_checked_48 y Post a0 s_2 (sV s_2 r_1b 4)))) ∧ (v2 = 0 → wj_Cw_checked_48 y Post a0 s_2 (sV s_2 r_1b 3)))) ∧ (¬ (v2 ≤ 2) → wj_Cw_checked_19 y Post a0 s_2)))))))) σ a0 v1
set_option maxHeartbeats 4000000 in
set_option maxRecDepth 100000 in
theorem cu_Cw_checked (l : Launch) (D : va_G) (g : Nat → ClassId) (ad : Nat → Nat) (y : Ly) (Post : St → Int32 → Prop) (σ : St) (a0 : Nat) (v1 : Int32) (v2 : Int32) (sz : Nat) (h_a0 : cl a0 = 11) (h : wu_Cw_checked y Post σ a0 v1 v2) : Met l y_Cw_checked (mw y_Cw_checked b_Cw_checked 4 (some .int)) ru_Cw_checked (PC g D [] [.ref (ad a0), .int v1, .int v2] sz (ws g ad y σ)) (va_Qi (fun (r : Int32) (u : St) => Post u r) (QW D (va_A (ws g ad y σ) sz) (fun u => ws g ad y u)) (va_A (ws g ad y σ) sz)) 0 0 (va_A (ws g ad y σ) sz) := by
  refine ofI (by decide +kernel) (Nat.le_of_ble_eq_true rfl) ?_
  intro p e s m args below meth c A Q ls H locs G hsz hP hD hS hl hret
  subst hsz
  have hl : lv_has ls 4 [(0, .ref (ad a0)), (1, .int v1), (2, .int v2)] := hl
  unfold wu_Cw_checked at h
  refine lv_aload_n G.1 G.2.1 d_Cw_checked_0 rfl (lv_at hl 0 rfl) ?_
  refine lv_iload_n G.1 G.2.1 d_Cw_checked_1 rfl (lv_at hl 1 rfl) ?_
  refine ucVq (As := [.int v1]) (rest := []) G hP hD hS (cu_Cw_worldOf l D g ad y _ σ a0 v1 H.size h_a0 h) w9_Cw_worldOf q1244 ⟨Nat.le_of_ble_eq_true rfl, Nat.le_of_ble_eq_true rfl⟩ rfl rfl h_a0 (q := (RCw, TCw, 20)) rfl rfl hl.1 rfl (Nat.le_of_ble_eq_true rfl) rfl ⟨Nat.le_refl _, Nat.le_refl _⟩ d_Cw_checked_2 (fun r_1 s_2 H locs h hP hD hS => ?_)
  rcases r_1 with _ | r_1b
  · skip
    have h := h.1 rfl
    show W p l e ru_Cw_checked s m args below meth c H locs 0 0 Q (F0 m 5 ls [.null])
    refine lv_astore_nN (lv' := [(3, .null), (0, .ref (ad a0)), (1, .int v1), (2, .int v2)]) G.1 G.2.1 d_Cw_checked_5 rfl hl (by decide) rfl (fun ls hl => ?_)
    refine lv_aload_nN G.1 G.2.1 d_Cw_checked_6 rfl (lv_at hl 0 rfl) ?_
    have J_19 : ∀ (s_j19 : St) (H : Heap) (locs : List Loc), wj_Cw_checked_19 y Post a0 s_j19 → va_P D CL (ws g ad y s_j19) H → va_D A (ws g ad y s_j19) → va_S A s.heap H locs → ∀ ls, lv_has ls 4 [] → W p l e ru_Cw_checked s m args below meth c H locs 0 0 Q (F0 m 19 ls []) := by
      intro s_j19 H locs h hP hD hS ls hl
      unfold wj_Cw_checked_19 at h
      refine lv_iconst (v := (-1)) G.1 G.2.1 d_Cw_checked_19 (by decide) ?_
      exact hret _ _ _ _ _ _ _ ls h hP hD hS (Nat.le_refl _) (Nat.le_refl _) d_Cw_checked_20
    refine lv_ifnullN (tgt := 19) G.1 G.2.1 d_Cw_checked_7 (by decide) ?_
    exact J_19 s_2 H locs h hP hD hS ls (lv_sub hl [] rfl)
  · skip
    obtain ⟨c_r_1b, h⟩ := h.2 _ rfl
    show W p l e ru_Cw_checked s m args below meth c H locs 0 0 Q (F0 m 5 ls [.ref (ad r_1b)])
    refine lv_astore_n (lv' := [(3, .ref (ad r_1b)), (0, .ref (ad a0)), (1, .int v1), (2, .int v2)]) G.1 G.2.1 d_Cw_checked_5 rfl hl (by decide) rfl (fun ls hl => ?_)
    refine lv_aload_n G.1 G.2.1 d_Cw_checked_6 rfl (lv_at hl 0 rfl) ?_
    have J_19 : ∀ (s_j19 : St) (H : Heap) (locs : List Loc), wj_Cw_checked_19 y Post a0 s_j19 → va_P D CL (ws g ad y s_j19) H → va_D A (ws g ad y s_j19) → va_S A s.heap H locs → ∀ ls, lv_has ls 4 [] → W p l e ru_Cw_checked s m args below meth c H locs 0 0 Q (F0 m 19 ls []) := by
      intro s_j19 H locs h hP hD hS ls hl
      unfold wj_Cw_checked_19 at h
      refine lv_iconst (v := (-1)) G.1 G.2.1 d_Cw_checked_19 (by decide) ?_
      exact hret _ _ _ _ _ _ _ ls h hP hD hS (Nat.le_refl _) (Nat.le_refl _) d_Cw_checked_20
    refine lv_ifnull G.1 G.2.1 d_Cw_checked_7 ?_
    refine lv_iload_n G.1 G.2.1 d_Cw_checked_10 rfl (lv_at hl 3 rfl) ?_
    refine lv_if_lt (tgt := 19) G.1 G.2.1 d_Cw_checked_11 (by decide) (fun c11 => ?_) (fun c11 => ?_)
    · skip
      have h := h.1 c11
      exact J_19 s_2 H locs h hP hD hS ls (lv_sub hl [] rfl)
    · skip
      have h := h.2 c11
      refine lv_iload_n G.1 G.2.1 d_Cw_checked_14 rfl (lv_at hl 3 rfl) ?_
      refine lv_iconst (v := 2) G.1 G.2.1 d_Cw_checked_15 (by decide) ?_
      refine lv_icmp_le (tgt := 21) G.1 G.2.1 d_Cw_checked_16 (by decide) (fun c16 => ?_) (fun c16 => ?_)
      · skip
        have h := h.1 c16
        refine W.eq (g2 := F0 m 21 ls []) rfl ?_
        refine lv_iload_n G.1 G.2.1 d_Cw_checked_21 rfl (lv_at hl 3 rfl) ?_
        have J_48 : ∀ (s_j48 : St) (z0j48 : Int32) (H : Heap) (locs : List Loc), wj_Cw_checked_48 y Post a0 s_j48 z0j48 → va_P D CL (ws g ad y s_j48) H → va_D A (ws g ad y s_j48) → va_S A s.heap H locs → ∀ ls, lv_has ls 4 [] → W p l e ru_Cw_checked s m args below meth c H locs 0 0 Q (F0 m 48 ls [.int z0j48]) := by
          intro s_j48 z0j48 H locs h hP hD hS ls hl
          unfold wj_Cw_checked_48 at h
          exact hret _ _ _ _ _ _ _ ls h hP hD hS (Nat.le_refl _) (Nat.le_refl _) d_Cw_checked_48
        refine lv_if_ne (tgt := 32) G.1 G.2.1 d_Cw_checked_22 (by decide) (fun c22 => ?_) (fun c22 => ?_)
        · skip
          have h := h.1 c22
          refine lv_iload_n G.1 G.2.1 d_Cw_checked_32 rfl (lv_at hl 3 rfl) ?_
          refine lv_iconst (v := 1) G.1 G.2.1 d_Cw_checked_33 (by decide) ?_
          refine lv_icmp_ne (tgt := 44) G.1 G.2.1 d_Cw_checked_34 (by decide) (fun c34 => ?_) (fun c34 => ?_)
          · skip
            have h := h.1 c34
            refine lv_aload_n G.1 G.2.1 d_Cw_checked_44 rfl (lv_at hl 0 rfl) ?_
            refine ugf (v := .int (sV s_2 r_1b 5)) G hP c_r_1b iWd rfl 5 (by decide) rfl q830 rfl rfl d_Cw_checked_45 ?_
            exact J_48 s_2 (sV s_2 r_1b 5) H locs h hP hD hS ls (lv_sub hl [] rfl)
          · skip
            have h := h.2 c34
            refine lv_aload_n G.1 G.2.1 d_Cw_checked_37 rfl (lv_at hl 0 rfl) ?_
            refine ugf (v := .int (sV s_2 r_1b 4)) G hP c_r_1b iWd rfl 4 (by decide) rfl q827 rfl rfl d_Cw_checked_38 ?_
            refine lv_goto (tgt := 48) G.1 G.2.1 d_Cw_checked_41 (by decide) ?_
            exact J_48 s_2 (sV s_2 r_1b 4) H locs h hP hD hS ls (lv_sub hl [] rfl)
        · skip
          have h := h.2 c22
          refine lv_aload_n G.1 G.2.1 d_Cw_checked_25 rfl (lv_at hl 0 rfl) ?_
          refine ugf (v := .int (sV s_2 r_1b 3)) G hP c_r_1b iWd rfl 3 (by decide) rfl q824 rfl rfl d_Cw_checked_26 ?_
          refine lv_goto (tgt := 48) G.1 G.2.1 d_Cw_checked_29 (by decide) ?_
          exact J_48 s_2 (sV s_2 r_1b 3) H locs h hP hD hS ls (lv_sub hl [] rfl)
      · skip
        have h := h.2 c16
        exact J_19 s_2 H locs h hP hD hS ls (lv_sub hl [] rfl)
def y_Ru_on : MethodName := ⟨"ClassWorks$Runner", "on", "()Z"⟩
abbrev b_Ru_on : ByteArray := prog_9_method_4_code
theorem d_Ru_on_0 : decode b_Ru_on 0 = .ok (.aload_n 0, 1) := by decide +kernel
theorem d_Ru_on_1 : decode b_Ru_on 1 = .ok (.getfield 22, 3) := by decide +kernel
theorem d_Ru_on_4 : decode b_Ru_on 4 = .ok (.iconst 1, 1) := by decide +kernel
theorem d_Ru_on_5 : decode b_Ru_on 5 = .ok (.if_icmp .ne 7, 3) := by decide +kernel
theorem d_Ru_on_8 : decode b_Ru_on 8 = .ok (.iconst 1, 1) := by decide +kernel
theorem d_Ru_on_9 : decode b_Ru_on 9 = .ok (.goto 4, 3) := by decide +kernel
theorem d_Ru_on_12 : decode b_Ru_on 12 = .ok (.iconst 0, 1) := by decide +kernel
theorem d_Ru_on_13 : decode b_Ru_on 13 = .ok (.ireturn, 1) := by decide +kernel
abbrev ru_Ru_on : Room := { frames := 0, cells := 0, slots := 0, locals := 0 }
def wj_Ru_on_13 (y : Ly) (Post : St → Int32 → Prop) (a0 : Nat) (s_j13 : St) (z0j13 : Int32) : Prop := (nb z0j13 ∧ Post s_j13 z0j13)
def wu_Ru_on (y : Ly) (Post : St → Int32 → Prop) (σ : St) (a0 : Nat) : Prop := ((¬ (sV σ a0 3) = 1 → wj_Ru_on_13 y Post a0 σ 0) ∧ ((sV σ a0 3) = 1 → wj_Ru_on_13 y Post a0 σ 1))
set_option maxHeartbeats 4000000 in
set_option maxRecDepth 100000 in
theorem cu_Ru_on (l : Launch) (D : va_G) (g : Nat → ClassId) (ad : Nat → Nat) (y : Ly) (Post : St → Int32 → Prop) (σ : St) (a0 : Nat) (sz : Nat) (h_a0 : cl a0 = 7) (h : wu_Ru_on y Post σ a0) : Met l y_Ru_on (mw y_Ru_on b_Ru_on 1 (some (.boolean))) ru_Ru_on (PC g D [] [.ref (ad a0)] sz (ws g ad y σ)) (va_Qi (fun (r : Int32) (u : St) => Post u r) (QW D (va_A (ws g ad y σ) sz) (fun u => ws g ad y u)) (va_A (ws g ad y σ) sz)) 0 0 (va_A (ws g ad y σ) sz) := by
  refine ofZ (by decide +kernel) (Nat.le_of_ble_eq_true rfl) ?_
  intro p e s m args below meth c A Q ls H locs G hsz hP hD hS hl hret
  subst hsz
  have hl : lv_has ls 1 [(0, .ref (ad a0))] := hl
  unfold wu_Ru_on at h
  refine lv_aload_n G.1 G.2.1 d_Ru_on_0 rfl (lv_at hl 0 rfl) ?_
  refine ugf (v := .int (sV σ a0 3)) G hP h_a0 iRu rfl 3 (by decide) rfl q985 rfl rfl d_Ru_on_1 ?_
  refine lv_iconst (v := 1) G.1 G.2.1 d_Ru_on_4 (by decide) ?_
  have J_13 : ∀ (s_j13 : St) (z0j13 : Int32) (H : Heap) (locs : List Loc), wj_Ru_on_13 y Post a0 s_j13 z0j13 → va_P D CL (ws g ad y s_j13) H → va_D A (ws g ad y s_j13) → va_S A s.heap H locs → ∀ ls, lv_has ls 1 [] → W p l e ru_Ru_on s m args below meth c H locs 0 0 Q (F0 m 13 ls [.int z0j13]) := by
    intro s_j13 z0j13 H locs h hP hD hS ls hl
    unfold wj_Ru_on_13 at h
    exact hret _ _ _ _ _ _ _ ls (nb_n h.1) h.2 hP hD hS (Nat.le_refl _) (Nat.le_refl _) d_Ru_on_13
  refine lv_icmp_ne (tgt := 12) G.1 G.2.1 d_Ru_on_5 (by decide) (fun c5 => ?_) (fun c5 => ?_)
  · skip
    have h := h.1 c5
    refine lv_iconst (v := 0) G.1 G.2.1 d_Ru_on_12 (by decide) ?_
    exact J_13 σ 0 H locs h hP hD hS ls (lv_sub hl [] rfl)
  · skip
    have h := h.2 c5
    refine lv_iconst (v := 1) G.1 G.2.1 d_Ru_on_8 (by decide) ?_
    refine lv_goto (tgt := 13) G.1 G.2.1 d_Ru_on_9 (by decide) ?_
    exact J_13 σ 1 H locs h hP hD hS ls (lv_sub hl [] rfl)
def y_Ru_begin : MethodName := ⟨"ClassWorks$Runner", "begin", "()V"⟩
abbrev b_Ru_begin : ByteArray := prog_9_method_3_code
theorem q1752 : Cond.methodLink "ClassWorks$Runner" 72 y_Ru_clear ∈ lw_ok := lw_okmem (List.mem_of_getElem? (i := 1752) (by decide +kernel)) rfl
theorem d_Ru_begin_0 : decode b_Ru_begin 0 = .ok (.aload_n 0, 1) := by decide +kernel
theorem d_Ru_begin_1 : decode b_Ru_begin 1 = .ok (.invokevirtual 72, 3) := by decide +kernel
theorem d_Ru_begin_4 : decode b_Ru_begin 4 = .ok (.aload_n 0, 1) := by decide +kernel
theorem d_Ru_begin_5 : decode b_Ru_begin 5 = .ok (.iconst 1, 1) := by decide +kernel
theorem d_Ru_begin_6 : decode b_Ru_begin 6 = .ok (.putfield 22, 3) := by decide +kernel
theorem d_Ru_begin_9 : decode b_Ru_begin 9 = .ok (.return_, 1) := by decide +kernel
abbrev ru_Ru_begin : Room := { frames := 1, cells := 0, slots := 0, locals := 20 }
def wu_Ru_begin (y : Ly) (Post : St → Prop) (σ : St) (a0 : Nat) : Prop := wu_Ru_clear y (fun (s_2 : St) => xP (uV s_2 a0 3 1) (fun s_3 : St => Post s_3)) σ a0
set_option maxHeartbeats 4000000 in
set_option maxRecDepth 100000 in
theorem cu_Ru_begin (l : Launch) (D : va_G) (g : Nat → ClassId) (ad : Nat → Nat) (y : Ly) (Post : St → Prop) (σ : St) (a0 : Nat) (sz : Nat) (h_a0 : cl a0 = 7) (h : wu_Ru_begin y Post σ a0) : Met l y_Ru_begin (mw y_Ru_begin b_Ru_begin 1 (none)) ru_Ru_begin (PC g D [] [.ref (ad a0)] sz (ws g ad y σ)) (va_Qv (fun u : St => Post u) (QW D (va_A (ws g ad y σ) sz) (fun u => ws g ad y u)) (va_A (ws g ad y σ) sz)) 0 0 (va_A (ws g ad y σ) sz) := by
  refine ofV (by decide +kernel) (Nat.le_of_ble_eq_true rfl) ?_
  intro p e s m args below meth c A Q ls H locs G hsz hP hD hS hl hret
  subst hsz
  have hl : lv_has ls 1 [(0, .ref (ad a0))] := hl
  unfold wu_Ru_begin at h
  refine lv_aload_n G.1 G.2.1 d_Ru_begin_0 rfl (lv_at hl 0 rfl) ?_
  refine ucVv (As := []) (rest := []) G hP hD hS (cu_Ru_clear l D g ad y _ σ a0 H.size h_a0 h) w9_Ru_clear q1752 ⟨Nat.le_of_ble_eq_true rfl, Nat.le_of_ble_eq_true rfl⟩ rfl rfl h_a0 (q := (RRu, TRu, 19)) rfl rfl hl.1 rfl (Nat.le_of_ble_eq_true rfl) rfl ⟨Nat.le_refl _, Nat.le_refl _⟩ d_Ru_begin_1 (fun s_2 H locs h hP hD hS => ?_)
  refine lv_aload_n G.1 G.2.1 d_Ru_begin_4 rfl (lv_at hl 0 rfl) ?_
  refine lv_iconst (v := 1) G.1 G.2.1 d_Ru_begin_5 (by decide) ?_
  refine upf G hP hD hS h 3 putV h_a0 iRu tRu tRu_ok nRu rfl (by decide) rfl q985 rfl rfl fV rfl rfl d_Ru_begin_6 (fun s_3 H locs h hP hD hS => ?_)
  exact hret _ _ _ _ _ _ ls h hP hD hS (Nat.le_refl _) (Nat.le_refl _) d_Ru_begin_9
def y_Cw_quantum : MethodName := ⟨"ClassWorks", "quantum", "(II)I"⟩
abbrev b_Cw_quantum : ByteArray := prog_1_method_21_code
theorem q1084 : Cond.fieldLink "ClassWorks" 226 "ClassWorks$Machine" "quantum" "I" ∈ lw_ok := lw_okmem (List.mem_of_getElem? (i := 1084) (by decide +kernel)) rfl
theorem d_Cw_quantum_0 : decode b_Cw_quantum 0 = .ok (.aload_n 0, 1) := by decide +kernel
theorem d_Cw_quantum_1 : decode b_Cw_quantum 1 = .ok (.iload_n 1, 1) := by decide +kernel
theorem d_Cw_quantum_2 : decode b_Cw_quantum 2 = .ok (.invokevirtual 129, 3) := by decide +kernel
theorem d_Cw_quantum_5 : decode b_Cw_quantum 5 = .ok (.astore_n 3, 1) := by decide +kernel
theorem d_Cw_quantum_6 : decode b_Cw_quantum 6 = .ok (.aload_n 3, 1) := by decide +kernel
theorem d_Cw_quantum_7 : decode b_Cw_quantum 7 = .ok (.ifnull 15, 3) := by decide +kernel
theorem d_Cw_quantum_10 : decode b_Cw_quantum 10 = .ok (.iload_n 2, 1) := by decide +kernel
theorem d_Cw_quantum_11 : decode b_Cw_quantum 11 = .ok (.iconst 1, 1) := by decide +kernel
theorem d_Cw_quantum_12 : decode b_Cw_quantum 12 = .ok (.if_icmp .lt 10, 3) := by decide +kernel
theorem d_Cw_quantum_15 : decode b_Cw_quantum 15 = .ok (.iload_n 2, 1) := by decide +kernel
theorem d_Cw_quantum_16 : decode b_Cw_quantum 16 = .ok (.sipush 200, 3) := by decide +kernel
theorem d_Cw_quantum_19 : decode b_Cw_quantum 19 = .ok (.if_icmp .le 5, 3) := by decide +kernel
theorem d_Cw_quantum_22 : decode b_Cw_quantum 22 = .ok (.iconst (-1), 1) := by decide +kernel
theorem d_Cw_quantum_23 : decode b_Cw_quantum 23 = .ok (.ireturn, 1) := by decide +kernel
theorem d_Cw_quantum_24 : decode b_Cw_quantum 24 = .ok (.aload_n 3, 1) := by decide +kernel
theorem d_Cw_quantum_25 : decode b_Cw_quantum 25 = .ok (.getfield 226, 3) := by decide +kernel
theorem d_Cw_quantum_28 : decode b_Cw_quantum 28 = .ok (.istore 4, 2) := by decide +kernel
theorem d_Cw_quantum_30 : decode b_Cw_quantum 30 = .ok (.aload_n 3, 1) := by decide +kernel
theorem d_Cw_quantum_31 : decode b_Cw_quantum 31 = .ok (.iload_n 2, 1) := by decide +kernel
theorem d_Cw_quantum_32 : decode b_Cw_quantum 32 = .ok (.putfield 226, 3) := by decide +kernel
theorem d_Cw_quantum_35 : decode b_Cw_quantum 35 = .ok (.iload 4, 2) := by decide +kernel
theorem d_Cw_quantum_37 : decode b_Cw_quantum 37 = .ok (.ireturn, 1) := by decide +kernel
abbrev ru_Cw_quantum : Room := { frames := 1, cells := 0, slots := 0, locals := 21 }
def wj_Cw_quantum_22 (y : Ly) (Post : St → Int32 → Prop) (a0 : Nat) (s_j22 : St) : Prop := Post s_j22 (-1)
def wu_Cw_quantum (y : Ly) (Post : St → Int32 → Prop) (σ : St) (a0 : Nat) (v1 : Int32) (v2 : Int32) : Prop := wu_Cw_machine y (fun (s_2 : St) (r_1 : Option Nat) => ((r_1 = none → wj_Cw_quantum_22 y Post a0 s_2) ∧ (∀ r_1b : Nat, r_1 = some r_1b → (cl r_1b = 4 ∧ ((v2 < 1 → wj_Cw_quantum_22 y Post a0 s_2) ∧ (¬ (v2 < 1) → ((v2 ≤ 200 → xP (uV s_2 r_1b 9 v2) (fun s_3 : St => Post s_3 (sV s_2 r_1b 9))) ∧ (¬ (v2 ≤ 200) → wj_Cw_quantum_22 y Post a0 s_2)))))))) σ a0 v1
set_option maxHeartbeats 4000000 in
set_option maxRecDepth 100000 in
theorem cu_Cw_quantum (l : Launch) (D : va_G) (g : Nat → ClassId) (ad : Nat → Nat) (y : Ly) (Post : St → Int32 → Prop) (σ : St) (a0 : Nat) (v1 : Int32) (v2 : Int32) (sz : Nat) (h_a0 : cl a0 = 11) (h : wu_Cw_quantum y Post σ a0 v1 v2) : Met l y_Cw_quantum (mw y_Cw_quantum b_Cw_quantum 5 (some .int)) ru_Cw_quantum (PC g D [] [.ref (ad a0), .int v1, .int v2] sz (ws g ad y σ)) (va_Qi (fun (r : Int32) (u : St) => Post u r) (QW D (va_A (ws g ad y σ) sz) (fun u => ws g ad y u)) (va_A (ws g ad y σ) sz)) 0 0 (va_A (ws g ad y σ) sz) := by
  refine ofI (by decide +kernel) (Nat.le_of_ble_eq_true rfl) ?_
  intro p e s m args below meth c A Q ls H locs G hsz hP hD hS hl hret
  subst hsz
  have hl : lv_has ls 5 [(0, .ref (ad a0)), (1, .int v1), (2, .int v2)] := hl
  unfold wu_Cw_quantum at h
  refine lv_aload_n G.1 G.2.1 d_Cw_quantum_0 rfl (lv_at hl 0 rfl) ?_
  refine lv_iload_n G.1 G.2.1 d_Cw_quantum_1 rfl (lv_at hl 1 rfl) ?_
  refine ucVq (As := [.int v1]) (rest := []) G hP hD hS (cu_Cw_machine l D g ad y _ σ a0 v1 H.size h_a0 h) w9_Cw_machine q1248 ⟨Nat.le_of_ble_eq_true rfl, Nat.le_of_ble_eq_true rfl⟩ rfl rfl h_a0 (q := (RCw, TCw, 20)) rfl rfl hl.1 rfl (Nat.le_of_ble_eq_true rfl) rfl ⟨Nat.le_refl _, Nat.le_refl _⟩ d_Cw_quantum_2 (fun r_1 s_2 H locs h hP hD hS => ?_)
  rcases r_1 with _ | r_1b
  · skip
    have h := h.1 rfl
    show W p l e ru_Cw_quantum s m args below meth c H locs 0 0 Q (F0 m 5 ls [.null])
    refine lv_astore_nN (lv' := [(3, .null), (0, .ref (ad a0)), (1, .int v1), (2, .int v2)]) G.1 G.2.1 d_Cw_quantum_5 rfl hl (by decide) rfl (fun ls hl => ?_)
    refine lv_aload_nN G.1 G.2.1 d_Cw_quantum_6 rfl (lv_at hl 0 rfl) ?_
    have J_22 : ∀ (s_j22 : St) (H : Heap) (locs : List Loc), wj_Cw_quantum_22 y Post a0 s_j22 → va_P D CL (ws g ad y s_j22) H → va_D A (ws g ad y s_j22) → va_S A s.heap H locs → ∀ ls, lv_has ls 5 [] → W p l e ru_Cw_quantum s m args below meth c H locs 0 0 Q (F0 m 22 ls []) := by
      intro s_j22 H locs h hP hD hS ls hl
      unfold wj_Cw_quantum_22 at h
      refine lv_iconst (v := (-1)) G.1 G.2.1 d_Cw_quantum_22 (by decide) ?_
      exact hret _ _ _ _ _ _ _ ls h hP hD hS (Nat.le_refl _) (Nat.le_refl _) d_Cw_quantum_23
    refine lv_ifnullN (tgt := 22) G.1 G.2.1 d_Cw_quantum_7 (by decide) ?_
    exact J_22 s_2 H locs h hP hD hS ls (lv_sub hl [] rfl)
  · skip
    obtain ⟨c_r_1b, h⟩ := h.2 _ rfl
    show W p l e ru_Cw_quantum s m args below meth c H locs 0 0 Q (F0 m 5 ls [.ref (ad r_1b)])
    refine lv_astore_n (lv' := [(3, .ref (ad r_1b)), (0, .ref (ad a0)), (1, .int v1), (2, .int v2)]) G.1 G.2.1 d_Cw_quantum_5 rfl hl (by decide) rfl (fun ls hl => ?_)
    refine lv_aload_n G.1 G.2.1 d_Cw_quantum_6 rfl (lv_at hl 0 rfl) ?_
    have J_22 : ∀ (s_j22 : St) (H : Heap) (locs : List Loc), wj_Cw_quantum_22 y Post a0 s_j22 → va_P D CL (ws g ad y s_j22) H → va_D A (ws g ad y s_j22) → va_S A s.heap H locs → ∀ ls, lv_has ls 5 [] → W p l e ru_Cw_quantum s m args below meth c H locs 0 0 Q (F0 m 22 ls []) := by
      intro s_j22 H locs h hP hD hS ls hl
      unfold wj_Cw_quantum_22 at h
      refine lv_iconst (v := (-1)) G.1 G.2.1 d_Cw_quantum_22 (by decide) ?_
      exact hret _ _ _ _ _ _ _ ls h hP hD hS (Nat.le_refl _) (Nat.le_refl _) d_Cw_quantum_23
    refine lv_ifnull G.1 G.2.1 d_Cw_quantum_7 ?_
    refine lv_iload_n G.1 G.2.1 d_Cw_quantum_10 rfl (lv_at hl 3 rfl) ?_
    refine lv_iconst (v := 1) G.1 G.2.1 d_Cw_quantum_11 (by decide) ?_
    refine lv_icmp_lt (tgt := 22) G.1 G.2.1 d_Cw_quantum_12 (by decide) (fun c12 => ?_) (fun c12 => ?_)
    · skip
      have h := h.1 c12
      exact J_22 s_2 H locs h hP hD hS ls (lv_sub hl [] rfl)
    · skip
      have h := h.2 c12
      refine lv_iload_n G.1 G.2.1 d_Cw_quantum_15 rfl (lv_at hl 3 rfl) ?_
      refine lv_sipush (v := 200) G.1 G.2.1 d_Cw_quantum_16 (by decide) ?_
      refine W.eq (g2 := F0 m 19 ls [.int 200, .int v2]) rfl ?_
      refine lv_icmp_le (tgt := 24) G.1 G.2.1 d_Cw_quantum_19 (by decide) (fun c19 => ?_) (fun c19 => ?_)
      · skip
        have h := h.1 c19
        refine lv_aload_n G.1 G.2.1 d_Cw_quantum_24 rfl (lv_at hl 0 rfl) ?_
        refine ugf (v := .int (sV s_2 r_1b 9)) G hP c_r_1b iMa rfl 9 (by decide) rfl q1084 rfl rfl d_Cw_quantum_25 ?_
        refine lv_istore (lv' := [(4, .int (sV s_2 r_1b 9)), (3, .ref (ad r_1b)), (0, .ref (ad a0)), (1, .int v1), (2, .int v2)]) G.1 G.2.1 d_Cw_quantum_28 hl (by decide) rfl (fun ls hl => ?_)
        refine lv_aload_n G.1 G.2.1 d_Cw_quantum_30 rfl (lv_at hl 1 rfl) ?_
        refine lv_iload_n G.1 G.2.1 d_Cw_quantum_31 rfl (lv_at hl 4 rfl) ?_
        refine upf G hP hD hS h 9 putV c_r_1b iMa tMa tMa_ok nMa rfl (by decide) rfl q1084 rfl rfl fV rfl rfl d_Cw_quantum_32 (fun s_3 H locs h hP hD hS => ?_)
        refine lv_iload G.1 G.2.1 d_Cw_quantum_35 (lv_at hl 0 rfl) ?_
        exact hret _ _ _ _ _ _ _ ls h hP hD hS (Nat.le_refl _) (Nat.le_refl _) d_Cw_quantum_37
      · skip
        have h := h.2 c19
        exact J_22 s_2 H locs h hP hD hS ls (lv_sub hl [] rfl)
theorem q1769 : Cond.methodLink "ClassWorks$Machine" 108 y_Ru_on ∈ lw_ok := lw_okmem (List.mem_of_getElem? (i := 1769) (by decide +kernel)) rfl
theorem q1730 : Cond.code y_Ru_on b_Ru_on 1 (some (.boolean)) ∈ lw_ok := lw_okmem (List.mem_of_getElem? (i := 1730) (by decide +kernel)) rfl
theorem q1728 : Cond.instanceMethod y_Ru_on ∈ lw_ok := lw_okmem (List.mem_of_getElem? (i := 1728) (by decide +kernel)) rfl
theorem q1729 : Cond.selects y_Ru_on.cls y_Ru_on y_Ru_on ∈ lw_ok := lw_okmem (List.mem_of_getElem? (i := 1729) (by decide +kernel)) rfl
theorem w9_Ru_on : CWv y_Ru_on b_Ru_on 1 (some (.boolean)) 0 ∧ Cond.instanceMethod y_Ru_on ∈ lw_ok ∧ Cond.selects y_Ru_on.cls y_Ru_on y_Ru_on ∈ lw_ok := ⟨⟨q1730, q347, by decide +kernel, by decide +kernel, by decide +kernel⟩, q1728, q1729⟩
def y_Ma_howManyOn : MethodName := ⟨"ClassWorks$Machine", "howManyOn", "()I"⟩
abbrev b_Ma_howManyOn : ByteArray := prog_6_method_6_code
theorem d_Ma_howManyOn_0 : decode b_Ma_howManyOn 0 = .ok (.aload_n 0, 1) := by decide +kernel
theorem d_Ma_howManyOn_1 : decode b_Ma_howManyOn 1 = .ok (.getfield 20, 3) := by decide +kernel
theorem d_Ma_howManyOn_4 : decode b_Ma_howManyOn 4 = .ok (.iconst 0, 1) := by decide +kernel
theorem d_Ma_howManyOn_5 : decode b_Ma_howManyOn 5 = .ok (.aaload, 1) := by decide +kernel
theorem d_Ma_howManyOn_6 : decode b_Ma_howManyOn 6 = .ok (.invokevirtual 108, 3) := by decide +kernel
theorem d_Ma_howManyOn_9 : decode b_Ma_howManyOn 9 = .ok (.ifCond .eq 7, 3) := by decide +kernel
theorem d_Ma_howManyOn_12 : decode b_Ma_howManyOn 12 = .ok (.iconst 1, 1) := by decide +kernel
theorem d_Ma_howManyOn_13 : decode b_Ma_howManyOn 13 = .ok (.goto 4, 3) := by decide +kernel
theorem d_Ma_howManyOn_16 : decode b_Ma_howManyOn 16 = .ok (.iconst 0, 1) := by decide +kernel
theorem d_Ma_howManyOn_17 : decode b_Ma_howManyOn 17 = .ok (.aload_n 0, 1) := by decide +kernel
theorem d_Ma_howManyOn_18 : decode b_Ma_howManyOn 18 = .ok (.getfield 20, 3) := by decide +kernel
theorem d_Ma_howManyOn_21 : decode b_Ma_howManyOn 21 = .ok (.iconst 1, 1) := by decide +kernel
theorem d_Ma_howManyOn_22 : decode b_Ma_howManyOn 22 = .ok (.aaload, 1) := by decide +kernel
theorem d_Ma_howManyOn_23 : decode b_Ma_howManyOn 23 = .ok (.invokevirtual 108, 3) := by decide +kernel
theorem d_Ma_howManyOn_26 : decode b_Ma_howManyOn 26 = .ok (.ifCond .eq 7, 3) := by decide +kernel
theorem d_Ma_howManyOn_29 : decode b_Ma_howManyOn 29 = .ok (.iconst 1, 1) := by decide +kernel
theorem d_Ma_howManyOn_30 : decode b_Ma_howManyOn 30 = .ok (.goto 4, 3) := by decide +kernel
theorem d_Ma_howManyOn_33 : decode b_Ma_howManyOn 33 = .ok (.iconst 0, 1) := by decide +kernel
theorem d_Ma_howManyOn_34 : decode b_Ma_howManyOn 34 = .ok (.iadd, 1) := by decide +kernel
theorem d_Ma_howManyOn_35 : decode b_Ma_howManyOn 35 = .ok (.aload_n 0, 1) := by decide +kernel
theorem d_Ma_howManyOn_36 : decode b_Ma_howManyOn 36 = .ok (.getfield 20, 3) := by decide +kernel
theorem d_Ma_howManyOn_39 : decode b_Ma_howManyOn 39 = .ok (.iconst 2, 1) := by decide +kernel
theorem d_Ma_howManyOn_40 : decode b_Ma_howManyOn 40 = .ok (.aaload, 1) := by decide +kernel
theorem d_Ma_howManyOn_41 : decode b_Ma_howManyOn 41 = .ok (.invokevirtual 108, 3) := by decide +kernel
theorem d_Ma_howManyOn_44 : decode b_Ma_howManyOn 44 = .ok (.ifCond .eq 7, 3) := by decide +kernel
theorem d_Ma_howManyOn_47 : decode b_Ma_howManyOn 47 = .ok (.iconst 1, 1) := by decide +kernel
theorem d_Ma_howManyOn_48 : decode b_Ma_howManyOn 48 = .ok (.goto 4, 3) := by decide +kernel
theorem d_Ma_howManyOn_51 : decode b_Ma_howManyOn 51 = .ok (.iconst 0, 1) := by decide +kernel
theorem d_Ma_howManyOn_52 : decode b_Ma_howManyOn 52 = .ok (.iadd, 1) := by decide +kernel
theorem d_Ma_howManyOn_53 : decode b_Ma_howManyOn 53 = .ok (.ireturn, 1) := by decide +kernel
abbrev ru_Ma_howManyOn : Room := { frames := 1, cells := 0, slots := 0, locals := 20 }
def wj_Ma_howManyOn_52 (y : Ly) (Post : St → Int32 → Prop) (a0 : Nat) (s_j52 : St) (z0j52 : Int32) (z1j52 : Int32) : Prop := Post s_j52 (z0j52 + z1j52)
def wj_Ma_howManyOn_34 (y : Ly) (Post : St → Int32 → Prop) (a0 : Nat) (s_j34 : St) (z0j34 : Int32) (z1j34 : Int32) : Prop := xQ y a0 2 2 (fun b_9 : Nat => wu_Ru_on y (fun (s_12 : St) (r_11 : Int32) => ((r_11 = 0 → wj_Ma_howManyOn_52 y Post a0 s_12 (z0j34 + z1j34) 0) ∧ (¬ (r_11 = 0) → wj_Ma_howManyOn_52 y Post a0 s_12 (z0j34 + z1j34) 1))) s_j34 b_9)
def wj_Ma_howManyOn_17 (y : Ly) (Post : St → Int32 → Prop) (a0 : Nat) (s_j17 : St) (z0j17 : Int32) : Prop := xQ y a0 2 1 (fun b_5 : Nat => wu_Ru_on y (fun (s_8 : St) (r_7 : Int32) => ((r_7 = 0 → wj_Ma_howManyOn_34 y Post a0 s_8 z0j17 0) ∧ (¬ (r_7 = 0) → wj_Ma_howManyOn_34 y Post a0 s_8 z0j17 1))) s_j17 b_5)
def wu_Ma_howManyOn (y : Ly) (Post : St → Int32 → Prop) (σ : St) (a0 : Nat) : Prop := xQ y a0 2 0 (fun b_1 : Nat => wu_Ru_on y (fun (s_4 : St) (r_3 : Int32) => ((r_3 = 0 → wj_Ma_howManyOn_17 y Post a0 s_4 0) ∧ (¬ (r_3 = 0) → wj_Ma_howManyOn_17 y Post a0 s_4 1))) σ b_1)
set_option maxHeartbeats 4000000 in
set_option maxRecDepth 100000 in
theorem cu_Ma_howManyOn (l : Launch) (D : va_G) (g : Nat → ClassId) (ad : Nat → Nat) (y : Ly) (Post : St → Int32 → Prop) (σ : St) (a0 : Nat) (sz : Nat) (h_a0 : cl a0 = 4) (h : wu_Ma_howManyOn y Post σ a0) : Met l y_Ma_howManyOn (mw y_Ma_howManyOn b_Ma_howManyOn 1 (some .int)) ru_Ma_howManyOn (PC g D [] [.ref (ad a0)] sz (ws g ad y σ)) (va_Qi (fun (r : Int32) (u : St) => Post u r) (QW D (va_A (ws g ad y σ) sz) (fun u => ws g ad y u)) (va_A (ws g ad y σ) sz)) 0 0 (va_A (ws g ad y σ) sz) := by
  refine ofI (by decide +kernel) (Nat.le_of_ble_eq_true rfl) ?_
  intro p e s m args below meth c A Q ls H locs G hsz hP hD hS hl hret
  subst hsz
  have hl : lv_has ls 1 [(0, .ref (ad a0))] := hl
  unfold wu_Ma_howManyOn at h
  refine lv_aload_n G.1 G.2.1 d_Ma_howManyOn_0 rfl (lv_at hl 0 rfl) ?_
  refine ugf (v := .ref (yP y a0 2)) G hP h_a0 iMa rfl 2 (by decide) rfl q1069 rfl rfl d_Ma_howManyOn_1 ?_
  refine lv_iconst (v := 0) G.1 G.2.1 d_Ma_howManyOn_4 (by decide) ?_
  refine uqald G hP (kdp h_a0 rfl) (typ h_a0 rfl) rfl h d_Ma_howManyOn_5 (fun b_1 n_2 h => ?_)
  refine ucVi (As := []) (rest := []) G hP hD hS (cu_Ru_on l D g ad y _ σ b_1 H.size (oa_4 h_a0 n_2) h) w9_Ru_on q1769 ⟨Nat.le_of_ble_eq_true rfl, Nat.le_of_ble_eq_true rfl⟩ rfl rfl (oa_4 h_a0 n_2) (q := (RRu, TRu, 19)) rfl rfl hl.1 rfl (Nat.le_of_ble_eq_true rfl) rfl ⟨Nat.le_refl _, Nat.le_refl _⟩ d_Ma_howManyOn_6 (fun r_3 s_4 H locs h hP hD hS => ?_)
  have J_17 : ∀ (s_j17 : St) (z0j17 : Int32) (H : Heap) (locs : List Loc), wj_Ma_howManyOn_17 y Post a0 s_j17 z0j17 → va_P D CL (ws g ad y s_j17) H → va_D A (ws g ad y s_j17) → va_S A s.heap H locs → ∀ ls, lv_has ls 1 [(0, .ref (ad a0))] → W p l e ru_Ma_howManyOn s m args below meth c H locs 0 0 Q (F0 m 17 ls [.int z0j17]) := by
    intro s_j17 z0j17 H locs h hP hD hS ls hl
    unfold wj_Ma_howManyOn_17 at h
    refine lv_aload_n G.1 G.2.1 d_Ma_howManyOn_17 rfl (lv_at hl 0 rfl) ?_
    refine ugf (v := .ref (yP y a0 2)) G hP h_a0 iMa rfl 2 (by decide) rfl q1069 rfl rfl d_Ma_howManyOn_18 ?_
    refine lv_iconst (v := 1) G.1 G.2.1 d_Ma_howManyOn_21 (by decide) ?_
    refine uqald G hP (kdp h_a0 rfl) (typ h_a0 rfl) rfl h d_Ma_howManyOn_22 (fun b_5 n_6 h => ?_)
    refine ucVi (As := []) (rest := [.int z0j17]) G hP hD hS (cu_Ru_on l D g ad y _ s_j17 b_5 H.size (oa_4 h_a0 n_6) h) w9_Ru_on q1769 ⟨Nat.le_of_ble_eq_true rfl, Nat.le_of_ble_eq_true rfl⟩ rfl rfl (oa_4 h_a0 n_6) (q := (RRu, TRu, 19)) rfl rfl hl.1 rfl (Nat.le_of_ble_eq_true rfl) rfl ⟨Nat.le_refl _, Nat.le_refl _⟩ d_Ma_howManyOn_23 (fun r_7 s_8 H locs h hP hD hS => ?_)
    have J_34 : ∀ (s_j34 : St) (z0j34 : Int32) (z1j34 : Int32) (H : Heap) (locs : List Loc), wj_Ma_howManyOn_34 y Post a0 s_j34 z0j34 z1j34 → va_P D CL (ws g ad y s_j34) H → va_D A (ws g ad y s_j34) → va_S A s.heap H locs → ∀ ls, lv_has ls 1 [(0, .ref (ad a0))] → W p l e ru_Ma_howManyOn s m args below meth c H locs 0 0 Q (F0 m 34 ls [.int z1j34, .int z0j34]) := by
      intro s_j34 z0j34 z1j34 H locs h hP hD hS ls hl
      unfold wj_Ma_howManyOn_34 at h
      refine lv_iadd G.1 G.2.1 d_Ma_howManyOn_34 ?_
      refine lv_aload_n G.1 G.2.1 d_Ma_howManyOn_35 rfl (lv_at hl 0 rfl) ?_
      refine ugf (v := .ref (yP y a0 2)) G hP h_a0 iMa rfl 2 (by decide) rfl q1069 rfl rfl d_Ma_howManyOn_36 ?_
      refine lv_iconst (v := 2) G.1 G.2.1 d_Ma_howManyOn_39 (by decide) ?_
      refine uqald G hP (kdp h_a0 rfl) (typ h_a0 rfl) rfl h d_Ma_howManyOn_40 (fun b_9 n_10 h => ?_)
      refine ucVi (As := []) (rest := [.int (z0j34 + z1j34)]) G hP hD hS (cu_Ru_on l D g ad y _ s_j34 b_9 H.size (oa_4 h_a0 n_10) h) w9_Ru_on q1769 ⟨Nat.le_of_ble_eq_true rfl, Nat.le_of_ble_eq_true rfl⟩ rfl rfl (oa_4 h_a0 n_10) (q := (RRu, TRu, 19)) rfl rfl hl.1 rfl (Nat.le_of_ble_eq_true rfl) rfl ⟨Nat.le_refl _, Nat.le_refl _⟩ d_Ma_howManyOn_41 (fun r_11 s_12 H locs h hP hD hS => ?_)
      have J_52 : ∀ (s_j52 : St) (z0j52 : Int32) (z1j52 : Int32) (H : Heap) (locs : List Loc), wj_Ma_howManyOn_52 y Post a0 s_j52 z0j52 z1j52 → va_P D CL (ws g ad y s_j52) H → va_D A (ws g ad y s_j52) → va_S A s.heap H locs → ∀ ls, lv_has ls 1 [] → W p l e ru_Ma_howManyOn s m args below meth c H locs 0 0 Q (F0 m 52 ls [.int z1j52, .int z0j52]) := by
        intro s_j52 z0j52 z1j52 H locs h hP hD hS ls hl
        unfold wj_Ma_howManyOn_52 at h
        refine lv_iadd G.1 G.2.1 d_Ma_howManyOn_52 ?_
        exact hret _ _ _ _ _ _ _ ls h hP hD hS (Nat.le_refl _) (Nat.le_refl _) d_Ma_howManyOn_53
      refine lv_if_eq (tgt := 51) G.1 G.2.1 d_Ma_howManyOn_44 (by decide) (fun c44 => ?_) (fun c44 => ?_)
      · skip
        have h := h.1 c44
        refine lv_iconst (v := 0) G.1 G.2.1 d_Ma_howManyOn_51 (by decide) ?_
        exact J_52 s_12 (z0j34 + z1j34) 0 H locs h hP hD hS ls (lv_sub hl [] rfl)
      · skip
        have h := h.2 c44
        refine lv_iconst (v := 1) G.1 G.2.1 d_Ma_howManyOn_47 (by decide) ?_
        refine lv_goto (tgt := 52) G.1 G.2.1 d_Ma_howManyOn_48 (by decide) ?_
        exact J_52 s_12 (z0j34 + z1j34) 1 H locs h hP hD hS ls (lv_sub hl [] rfl)
    refine lv_if_eq (tgt := 33) G.1 G.2.1 d_Ma_howManyOn_26 (by decide) (fun c26 => ?_) (fun c26 => ?_)
    · skip
      have h := h.1 c26
      refine lv_iconst (v := 0) G.1 G.2.1 d_Ma_howManyOn_33 (by decide) ?_
      exact J_34 s_8 z0j17 0 H locs h hP hD hS ls (lv_sub hl [0] rfl)
    · skip
      have h := h.2 c26
      refine lv_iconst (v := 1) G.1 G.2.1 d_Ma_howManyOn_29 (by decide) ?_
      refine lv_goto (tgt := 34) G.1 G.2.1 d_Ma_howManyOn_30 (by decide) ?_
      exact J_34 s_8 z0j17 1 H locs h hP hD hS ls (lv_sub hl [0] rfl)
  refine lv_if_eq (tgt := 16) G.1 G.2.1 d_Ma_howManyOn_9 (by decide) (fun c9 => ?_) (fun c9 => ?_)
  · skip
    have h := h.1 c9
    refine lv_iconst (v := 0) G.1 G.2.1 d_Ma_howManyOn_16 (by decide) ?_
    exact J_17 s_4 0 H locs h hP hD hS ls (lv_sub hl [0] rfl)
  · skip
    have h := h.2 c9
    refine lv_iconst (v := 1) G.1 G.2.1 d_Ma_howManyOn_12 (by decide) ?_
    refine lv_goto (tgt := 17) G.1 G.2.1 d_Ma_howManyOn_13 (by decide) ?_
    exact J_17 s_4 1 H locs h hP hD hS ls (lv_sub hl [0] rfl)
def y_Hp_unlockAll : MethodName := ⟨"ClassWorks$Heap", "unlockAll", "()V"⟩
abbrev b_Hp_unlockAll : ByteArray := prog_4_method_14_code
theorem q927 : Cond.fieldLink "ClassWorks$Heap" 31 "ClassWorks$Heap" "lock" "[I" ∈ lw_ok := lw_okmem (List.mem_of_getElem? (i := 927) (by decide +kernel)) rfl
theorem q912 : Cond.methodLink "ClassWorks$Heap" 65 y_Ja_fill_aIIV ∈ lw_ok := lw_okmem (List.mem_of_getElem? (i := 912) (by decide +kernel)) rfl
theorem q382 : Cond.fieldLink "ClassWorks$Heap" 84 "ClassWorks$Ints" "row" "[I" ∈ lw_ok := lw_okmem (List.mem_of_getElem? (i := 382) (by decide +kernel)) rfl
theorem d_Hp_unlockAll_0 : decode b_Hp_unlockAll 0 = .ok (.aload_n 0, 1) := by decide +kernel
theorem d_Hp_unlockAll_1 : decode b_Hp_unlockAll 1 = .ok (.getfield 31, 3) := by decide +kernel
theorem d_Hp_unlockAll_4 : decode b_Hp_unlockAll 4 = .ok (.iconst 0, 1) := by decide +kernel
theorem d_Hp_unlockAll_5 : decode b_Hp_unlockAll 5 = .ok (.invokestatic 65, 3) := by decide +kernel
theorem d_Hp_unlockAll_8 : decode b_Hp_unlockAll 8 = .ok (.aload_n 0, 1) := by decide +kernel
theorem d_Hp_unlockAll_9 : decode b_Hp_unlockAll 9 = .ok (.getfield 52, 3) := by decide +kernel
theorem d_Hp_unlockAll_12 : decode b_Hp_unlockAll 12 = .ok (.getfield 84, 3) := by decide +kernel
theorem d_Hp_unlockAll_15 : decode b_Hp_unlockAll 15 = .ok (.iconst 0, 1) := by decide +kernel
theorem d_Hp_unlockAll_16 : decode b_Hp_unlockAll 16 = .ok (.invokestatic 65, 3) := by decide +kernel
theorem d_Hp_unlockAll_19 : decode b_Hp_unlockAll 19 = .ok (.return_, 1) := by decide +kernel
abbrev ru_Hp_unlockAll : Room := { frames := 1, cells := 0, slots := 0, locals := 23 }
def wu_Hp_unlockAll (y : Ly) (Post : St → Prop) (σ : St) (a0 : Nat) : Prop := wu_Ja_fill_aIIV y (fun (s_2 : St) => wu_Ja_fill_aIIV y (fun (s_4 : St) => Post s_4) s_2 (lk a0 11) 0 0) σ a0 6 0
set_option maxHeartbeats 4000000 in
set_option maxRecDepth 100000 in
theorem cu_Hp_unlockAll (l : Launch) (D : va_G) (g : Nat → ClassId) (ad : Nat → Nat) (y : Ly) (Post : St → Prop) (σ : St) (a0 : Nat) (sz : Nat) (h_a0 : cl a0 = 2) (h : wu_Hp_unlockAll y Post σ a0) : Met l y_Hp_unlockAll (mw y_Hp_unlockAll b_Hp_unlockAll 1 (none)) ru_Hp_unlockAll (PC g D [] [.ref (ad a0)] sz (ws g ad y σ)) (va_Qv (fun u : St => Post u) (QW D (va_A (ws g ad y σ) sz) (fun u => ws g ad y u)) (va_A (ws g ad y σ) sz)) 0 0 (va_A (ws g ad y σ) sz) := by
  refine ofV (by decide +kernel) (Nat.le_of_ble_eq_true rfl) ?_
  intro p e s m args below meth c A Q ls H locs G hsz hP hD hS hl hret
  subst hsz
  have hl : lv_has ls 1 [(0, .ref (ad a0))] := hl
  unfold wu_Hp_unlockAll at h
  refine lv_aload_n G.1 G.2.1 d_Hp_unlockAll_0 rfl (lv_at hl 0 rfl) ?_
  refine ugf (v := .ref (yP y a0 6)) G hP h_a0 iHp rfl 6 (by decide) rfl q927 rfl rfl d_Hp_unlockAll_1 ?_
  refine lv_iconst (v := 0) G.1 G.2.1 d_Hp_unlockAll_4 (by decide) ?_
  refine ucSv (As := [.ref (yP y a0 6), .int 0]) (rest := []) G hP hD hS (cu_Ja_fill_aIIV l D g ad y _ σ a0 6 0 H.size ⟨(kdp h_a0 rfl), (typ h_a0 rfl)⟩ h) w9_Ja_fill_aIIV q912 ⟨Nat.le_of_ble_eq_true rfl, Nat.le_of_ble_eq_true rfl⟩ rfl rfl hl.1 rfl (Nat.le_of_ble_eq_true rfl) rfl ⟨Nat.le_refl _, Nat.le_refl _⟩ d_Hp_unlockAll_5 (fun s_2 H locs h hP hD hS => ?_)
  refine lv_aload_n G.1 G.2.1 d_Hp_unlockAll_8 rfl (lv_at hl 0 rfl) ?_
  refine ugf (v := .ref (ad (lk a0 11))) G hP h_a0 iHp rfl 11 (by decide) rfl q932 rfl rfl d_Hp_unlockAll_9 ?_
  refine ugf (v := .ref (yP y (lk a0 11) 0)) G hP (lk_2_11 h_a0) iIn rfl 0 (by decide) rfl q382 rfl rfl d_Hp_unlockAll_12 ?_
  refine lv_iconst (v := 0) G.1 G.2.1 d_Hp_unlockAll_15 (by decide) ?_
  refine ucSv (As := [.ref (yP y (lk a0 11) 0), .int 0]) (rest := []) G hP hD hS (cu_Ja_fill_aIIV l D g ad y _ s_2 (lk a0 11) 0 0 H.size ⟨(kdp (lk_2_11 h_a0) rfl), (typ (lk_2_11 h_a0) rfl)⟩ h) w9_Ja_fill_aIIV q912 ⟨Nat.le_of_ble_eq_true rfl, Nat.le_of_ble_eq_true rfl⟩ rfl rfl hl.1 rfl (Nat.le_of_ble_eq_true rfl) rfl ⟨Nat.le_refl _, Nat.le_refl _⟩ d_Hp_unlockAll_16 (fun s_4 H locs h hP hD hS => ?_)
  exact hret _ _ _ _ _ _ ls h hP hD hS (Nat.le_refl _) (Nat.le_refl _) d_Hp_unlockAll_19
theorem q1765 : Cond.methodLink "ClassWorks$Machine" 112 y_Ma_howManyOn ∈ lw_ok := lw_okmem (List.mem_of_getElem? (i := 1765) (by decide +kernel)) rfl
theorem q1768 : Cond.code y_Ma_howManyOn b_Ma_howManyOn 1 (some .int) ∈ lw_ok := lw_okmem (List.mem_of_getElem? (i := 1768) (by decide +kernel)) rfl
theorem q1766 : Cond.instanceMethod y_Ma_howManyOn ∈ lw_ok := lw_okmem (List.mem_of_getElem? (i := 1766) (by decide +kernel)) rfl
theorem q1767 : Cond.selects y_Ma_howManyOn.cls y_Ma_howManyOn y_Ma_howManyOn ∈ lw_ok := lw_okmem (List.mem_of_getElem? (i := 1767) (by decide +kernel)) rfl
theorem w9_Ma_howManyOn : CWv y_Ma_howManyOn b_Ma_howManyOn 1 (some .int) 0 ∧ Cond.instanceMethod y_Ma_howManyOn ∈ lw_ok ∧ Cond.selects y_Ma_howManyOn.cls y_Ma_howManyOn y_Ma_howManyOn ∈ lw_ok := ⟨⟨q1768, q344, by decide +kernel, by decide +kernel, by decide +kernel⟩, q1766, q1767⟩
theorem q1771 : Cond.methodLink "ClassWorks$Machine" 126 y_Hp_unlockAll ∈ lw_ok := lw_okmem (List.mem_of_getElem? (i := 1771) (by decide +kernel)) rfl
theorem q1774 : Cond.code y_Hp_unlockAll b_Hp_unlockAll 1 (none) ∈ lw_ok := lw_okmem (List.mem_of_getElem? (i := 1774) (by decide +kernel)) rfl
theorem q1772 : Cond.instanceMethod y_Hp_unlockAll ∈ lw_ok := lw_okmem (List.mem_of_getElem? (i := 1772) (by decide +kernel)) rfl
theorem q1773 : Cond.selects y_Hp_unlockAll.cls y_Hp_unlockAll y_Hp_unlockAll ∈ lw_ok := lw_okmem (List.mem_of_getElem? (i := 1773) (by decide +kernel)) rfl
theorem w9_Hp_unlockAll : CWv y_Hp_unlockAll b_Hp_unlockAll 1 (none) 0 ∧ Cond.instanceMethod y_Hp_unlockAll ∈ lw_ok ∧ Cond.selects y_Hp_unlockAll.cls y_Hp_unlockAll y_Hp_unlockAll ∈ lw_ok := ⟨⟨q1774, q346, by decide +kernel, by decide +kernel, by decide +kernel⟩, q1772, q1773⟩
def y_Ma_stopAll : MethodName := ⟨"ClassWorks$Machine", "stopAll", "()I"⟩
abbrev b_Ma_stopAll : ByteArray := prog_6_method_7_code
theorem q1022 : Cond.fieldLink "ClassWorks$Machine" 116 "ClassWorks$Runner" "starts" "I" ∈ lw_ok := lw_okmem (List.mem_of_getElem? (i := 1022) (by decide +kernel)) rfl
theorem q1024 : Cond.fieldLink "ClassWorks$Machine" 119 "ClassWorks$Runner" "startClass" "[I" ∈ lw_ok := lw_okmem (List.mem_of_getElem? (i := 1024) (by decide +kernel)) rfl
theorem q1770 : Cond.methodLink "ClassWorks$Machine" 122 y_Wd_set ∈ lw_ok := lw_okmem (List.mem_of_getElem? (i := 1770) (by decide +kernel)) rfl
theorem d_Ma_stopAll_0 : decode b_Ma_stopAll 0 = .ok (.aload_n 0, 1) := by decide +kernel
theorem d_Ma_stopAll_1 : decode b_Ma_stopAll 1 = .ok (.invokevirtual 112, 3) := by decide +kernel
theorem d_Ma_stopAll_4 : decode b_Ma_stopAll 4 = .ok (.istore_n 1, 1) := by decide +kernel
theorem d_Ma_stopAll_5 : decode b_Ma_stopAll 5 = .ok (.iconst 0, 1) := by decide +kernel
theorem d_Ma_stopAll_6 : decode b_Ma_stopAll 6 = .ok (.istore_n 2, 1) := by decide +kernel
theorem d_Ma_stopAll_7 : decode b_Ma_stopAll 7 = .ok (.iload_n 2, 1) := by decide +kernel
theorem d_Ma_stopAll_8 : decode b_Ma_stopAll 8 = .ok (.iconst 3, 1) := by decide +kernel
theorem d_Ma_stopAll_9 : decode b_Ma_stopAll 9 = .ok (.if_icmp .ge 60, 3) := by decide +kernel
theorem d_Ma_stopAll_12 : decode b_Ma_stopAll 12 = .ok (.iconst 0, 1) := by decide +kernel
theorem d_Ma_stopAll_13 : decode b_Ma_stopAll 13 = .ok (.istore_n 3, 1) := by decide +kernel
theorem d_Ma_stopAll_14 : decode b_Ma_stopAll 14 = .ok (.iload_n 3, 1) := by decide +kernel
theorem d_Ma_stopAll_15 : decode b_Ma_stopAll 15 = .ok (.aload_n 0, 1) := by decide +kernel
theorem d_Ma_stopAll_16 : decode b_Ma_stopAll 16 = .ok (.getfield 20, 3) := by decide +kernel
theorem d_Ma_stopAll_19 : decode b_Ma_stopAll 19 = .ok (.iload_n 2, 1) := by decide +kernel
theorem d_Ma_stopAll_20 : decode b_Ma_stopAll 20 = .ok (.aaload, 1) := by decide +kernel
theorem d_Ma_stopAll_21 : decode b_Ma_stopAll 21 = .ok (.getfield 116, 3) := by decide +kernel
theorem d_Ma_stopAll_24 : decode b_Ma_stopAll 24 = .ok (.if_icmp .ge 30, 3) := by decide +kernel
theorem d_Ma_stopAll_27 : decode b_Ma_stopAll 27 = .ok (.aload_n 0, 1) := by decide +kernel
theorem d_Ma_stopAll_28 : decode b_Ma_stopAll 28 = .ok (.getfield 69, 3) := by decide +kernel
theorem d_Ma_stopAll_31 : decode b_Ma_stopAll 31 = .ok (.aload_n 0, 1) := by decide +kernel
theorem d_Ma_stopAll_32 : decode b_Ma_stopAll 32 = .ok (.getfield 20, 3) := by decide +kernel
theorem d_Ma_stopAll_35 : decode b_Ma_stopAll 35 = .ok (.iload_n 2, 1) := by decide +kernel
theorem d_Ma_stopAll_36 : decode b_Ma_stopAll 36 = .ok (.aaload, 1) := by decide +kernel
theorem d_Ma_stopAll_37 : decode b_Ma_stopAll 37 = .ok (.getfield 119, 3) := by decide +kernel
theorem d_Ma_stopAll_40 : decode b_Ma_stopAll 40 = .ok (.iload_n 3, 1) := by decide +kernel
theorem d_Ma_stopAll_41 : decode b_Ma_stopAll 41 = .ok (.iaload, 1) := by decide +kernel
theorem d_Ma_stopAll_42 : decode b_Ma_stopAll 42 = .ok (.bipush 13, 2) := by decide +kernel
theorem d_Ma_stopAll_44 : decode b_Ma_stopAll 44 = .ok (.iconst 3, 1) := by decide +kernel
theorem d_Ma_stopAll_45 : decode b_Ma_stopAll 45 = .ok (.invokevirtual 122, 3) := by decide +kernel
theorem d_Ma_stopAll_48 : decode b_Ma_stopAll 48 = .ok (.iinc 3 1, 3) := by decide +kernel
theorem d_Ma_stopAll_51 : decode b_Ma_stopAll 51 = .ok (.goto (-37), 3) := by decide +kernel
theorem d_Ma_stopAll_54 : decode b_Ma_stopAll 54 = .ok (.aload_n 0, 1) := by decide +kernel
theorem d_Ma_stopAll_55 : decode b_Ma_stopAll 55 = .ok (.getfield 20, 3) := by decide +kernel
theorem d_Ma_stopAll_58 : decode b_Ma_stopAll 58 = .ok (.iload_n 2, 1) := by decide +kernel
theorem d_Ma_stopAll_59 : decode b_Ma_stopAll 59 = .ok (.aaload, 1) := by decide +kernel
theorem d_Ma_stopAll_60 : decode b_Ma_stopAll 60 = .ok (.invokevirtual 96, 3) := by decide +kernel
theorem d_Ma_stopAll_63 : decode b_Ma_stopAll 63 = .ok (.iinc 2 1, 3) := by decide +kernel
theorem d_Ma_stopAll_66 : decode b_Ma_stopAll 66 = .ok (.goto (-59), 3) := by decide +kernel
theorem d_Ma_stopAll_69 : decode b_Ma_stopAll 69 = .ok (.aload_n 0, 1) := by decide +kernel
theorem d_Ma_stopAll_70 : decode b_Ma_stopAll 70 = .ok (.getfield 12, 3) := by decide +kernel
theorem d_Ma_stopAll_73 : decode b_Ma_stopAll 73 = .ok (.invokevirtual 126, 3) := by decide +kernel
theorem d_Ma_stopAll_76 : decode b_Ma_stopAll 76 = .ok (.aload_n 0, 1) := by decide +kernel
theorem d_Ma_stopAll_77 : decode b_Ma_stopAll 77 = .ok (.invokevirtual 99, 3) := by decide +kernel
theorem d_Ma_stopAll_80 : decode b_Ma_stopAll 80 = .ok (.iload_n 1, 1) := by decide +kernel
theorem d_Ma_stopAll_81 : decode b_Ma_stopAll 81 = .ok (.ireturn, 1) := by decide +kernel
abbrev ru_Ma_stopAll : Room := { frames := 2, cells := 0, slots := 0, locals := 43 }
def wb_Ma_stopAll_14 (y : Ly) (Post : St → Int32 → Prop) (K_7 : St → Int32 → Int32 → Prop) (K_14 : St → Int32 → Int32 → Int32 → Prop) (a0 : Nat) (s_h14 : St) (x1h14 : Int32) (x2h14 : Int32) (x3h14 : Int32) : Prop := xQ y a0 2 x2h14 (fun b_7 : Nat => (((sV s_h14 b_7 16) ≤ x3h14 → xQ y a0 2 x2h14 (fun b_9 : Nat => wu_Ru_clear y (fun (s_12 : St) => K_7 s_12 x1h14 (x2h14 + 1)) s_h14 b_9)) ∧ (¬ ((sV s_h14 b_7 16) ≤ x3h14) → xQ y a0 2 x2h14 (fun b_13 : Nat => xA y s_h14 b_13 17 x3h14 (fun x_15 : Int32 => wu_Wd_set y (fun (s_17 : St) => K_14 s_17 x1h14 x2h14 (x3h14 + 1)) s_h14 (lk a0 0) x_15 13 3)))))
def wl_Ma_stopAll_14 (y : Ly) (Post : St → Int32 → Prop) (K_7 : St → Int32 → Int32 → Prop) (a0 : Nat) (s_h14 : St) (x1h14 : Int32) (x2h14 : Int32) (x3h14 : Int32) : Prop := ∃ (I : St → Int32 → Int32 → Int32 → Prop) (μ : St → Int32 → Int32 → Int32 → Nat), I s_h14 x1h14 x2h14 x3h14 ∧ ∀ (u : St) (t0 : Int32) (t1 : Int32) (t2 : Int32), I u t0 t1 t2 → wb_Ma_stopAll_14 y Post K_7 (fun z t0q t1q t2q => I z t0q t1q t2q ∧ μ z t0q t1q t2q < μ u t0 t1 t2) a0 u t0 t1 t2
def wb_Ma_stopAll_7 (y : Ly) (Post : St → Int32 → Prop) (K_7 : St → Int32 → Int32 → Prop) (a0 : Nat) (s_h7 : St) (x1h7 : Int32) (x2h7 : Int32) : Prop := ((3 ≤ x2h7 → wu_Hp_unlockAll y (fun (s_4 : St) => wu_Ma_firstTurn y (fun (s_6 : St) => Post s_6 x1h7) s_4 a0) s_h7 (lk a0 1)) ∧ (¬ (3 ≤ x2h7) → wl_Ma_stopAll_14 y Post K_7 a0 s_h7 x1h7 x2h7 0))
def wl_Ma_stopAll_7 (y : Ly) (Post : St → Int32 → Prop) (a0 : Nat) (s_h7 : St) (x1h7 : Int32) (x2h7 : Int32) : Prop := ∃ (I : St → Int32 → Int32 → Prop) (μ : St → Int32 → Int32 → Nat), I s_h7 x1h7 x2h7 ∧ ∀ (u : St) (t0 : Int32) (t1 : Int32), I u t0 t1 → wb_Ma_stopAll_7 y Post (fun z t0q t1q => I z t0q t1q ∧ μ z t0q t1q < μ u t0 t1) a0 u t0 t1
def wu_Ma_stopAll (y : Ly) (Post : St → Int32 → Prop) (σ : St) (a0 : Nat) : Prop := wu_Ma_howManyOn y (fun (s_2 : St) (r_1 : Int32) => wl_Ma_stopAll_7 y Post a0 s_2 r_1 0) σ a0
set_option maxHeartbeats 4000000 in
set_option maxRecDepth 100000 in
theorem cu_Ma_stopAll (l : Launch) (D : va_G) (g : Nat → ClassId) (ad : Nat → Nat) (y : Ly) (Post : St → Int32 → Prop) (σ : St) (a0 : Nat) (sz : Nat) (h_a0 : cl a0 = 4) (h : wu_Ma_stopAll y Post σ a0) : Met l y_Ma_stopAll (mw y_Ma_stopAll b_Ma_stopAll 4 (some .int)) ru_Ma_stopAll (PC g D [] [.ref (ad a0)] sz (ws g ad y σ)) (va_Qi (fun (r : Int32) (u : St) => Post u r) (QW D (va_A (ws g ad y σ) sz) (fun u => ws g ad y u)) (va_A (ws g ad y σ) sz)) 0 0 (va_A (ws g ad y σ) sz) := by
  refine ofI (by decide +kernel) (Nat.le_of_ble_eq_true rfl) ?_
  intro p e s m args below meth c A Q ls H locs G hsz hP hD hS hl hret
  subst hsz
  have hl : lv_has ls 4 [(0, .ref (ad a0))] := hl
  unfold wu_Ma_stopAll at h
  refine lv_aload_n G.1 G.2.1 d_Ma_stopAll_0 rfl (lv_at hl 0 rfl) ?_
  refine ucVi (As := []) (rest := []) G hP hD hS (cu_Ma_howManyOn l D g ad y _ σ a0 H.size h_a0 h) w9_Ma_howManyOn q1765 ⟨Nat.le_of_ble_eq_true rfl, Nat.le_of_ble_eq_true rfl⟩ rfl rfl h_a0 (q := (RMa, TMa, 19)) rfl rfl hl.1 rfl (Nat.le_of_ble_eq_true rfl) rfl ⟨Nat.le_refl _, Nat.le_refl _⟩ d_Ma_stopAll_1 (fun r_1 s_2 H locs h hP hD hS => ?_)
  refine lv_istore_n (lv' := [(1, .int r_1), (0, .ref (ad a0))]) G.1 G.2.1 d_Ma_stopAll_4 rfl hl (by decide) rfl (fun ls hl => ?_)
  refine lv_iconst (v := 0) G.1 G.2.1 d_Ma_stopAll_5 (by decide) ?_
  refine lv_istore_n (lv' := [(2, .int 0), (1, .int r_1), (0, .ref (ad a0))]) G.1 G.2.1 d_Ma_stopAll_6 rfl hl (by decide) rfl (fun ls hl => ?_)
  unfold wl_Ma_stopAll_7 at h
  obtain ⟨I_7, μ_7, hI_7, hB_7⟩ := h
  have L_7 : ∀ (n_7 : Nat) (s_h7 : St) (x1h7 : Int32) (x2h7 : Int32), μ_7 s_h7 x1h7 x2h7 < n_7 → I_7 s_h7 x1h7 x2h7 → ∀ (H : Heap) (locs : List Loc), va_P D CL (ws g ad y s_h7) H → va_D A (ws g ad y s_h7) → va_S A s.heap H locs → ∀ ls, lv_has ls 4 [(0, .ref (ad a0)), (1, .int x1h7), (2, .int x2h7)] → W p l e ru_Ma_stopAll s m args below meth c H locs 0 0 Q (F0 m 7 ls []) := by
    intro n_7
    induction n_7 with
    | zero => intro s_h7 x1h7 x2h7 hμ; exact absurd hμ (Nat.not_lt_zero _)
    | succ n_7 ih_7 =>
      intro s_h7 x1h7 x2h7 hμ_7 hJ H locs hP hD hS ls hl
      obtain ⟨K_7, hK_7, h⟩ : ∃ K : St → Int32 → Int32 → Prop, (∀ z (t0 : Int32) (t1 : Int32), K z t0 t1 → I_7 z t0 t1 ∧ μ_7 z t0 t1 < μ_7 s_h7 x1h7 x2h7) ∧ wb_Ma_stopAll_7 y Post K a0 s_h7 x1h7 x2h7 := ⟨_, fun _ _ _ h => h, hB_7 s_h7 x1h7 x2h7 hJ⟩
      unfold wb_Ma_stopAll_7 at h
      refine lv_iload_n G.1 G.2.1 d_Ma_stopAll_7 rfl (lv_at hl 2 rfl) ?_
      refine lv_iconst (v := 3) G.1 G.2.1 d_Ma_stopAll_8 (by decide) ?_
      refine lv_icmp_ge (tgt := 69) G.1 G.2.1 d_Ma_stopAll_9 (by decide) (fun c9 => ?_) (fun c9 => ?_)
      · skip
        have h := h.1 c9
        refine lv_aload_n G.1 G.2.1 d_Ma_stopAll_69 rfl (lv_at hl 0 rfl) ?_
        refine ugf (v := .ref (ad (lk a0 1))) G hP h_a0 iMa rfl 1 (by decide) rfl q1067 rfl rfl d_Ma_stopAll_70 ?_
        refine ucVv (As := []) (rest := []) G hP hD hS (cu_Hp_unlockAll l D g ad y _ s_h7 (lk a0 1) H.size (lk_4_1 h_a0) h) w9_Hp_unlockAll q1771 ⟨Nat.le_of_ble_eq_true rfl, Nat.le_of_ble_eq_true rfl⟩ rfl rfl (lk_4_1 h_a0) (q := (RHp, THp, 15)) rfl rfl hl.1 rfl (Nat.le_of_ble_eq_true rfl) rfl ⟨Nat.le_refl _, Nat.le_refl _⟩ d_Ma_stopAll_73 (fun s_4 H locs h hP hD hS => ?_)
        refine lv_aload_n G.1 G.2.1 d_Ma_stopAll_76 rfl (lv_at hl 0 rfl) ?_
        refine ucVv (As := []) (rest := []) G hP hD hS (cu_Ma_firstTurn l D g ad y _ s_4 a0 H.size h_a0 h) w9_Ma_firstTurn q1232 ⟨Nat.le_of_ble_eq_true rfl, Nat.le_of_ble_eq_true rfl⟩ rfl rfl h_a0 (q := (RMa, TMa, 19)) rfl rfl hl.1 rfl (Nat.le_of_ble_eq_true rfl) rfl ⟨Nat.le_refl _, Nat.le_refl _⟩ d_Ma_stopAll_77 (fun s_6 H locs h hP hD hS => ?_)
        refine lv_iload_n G.1 G.2.1 d_Ma_stopAll_80 rfl (lv_at hl 1 rfl) ?_
        exact hret _ _ _ _ _ _ _ ls h hP hD hS (Nat.le_refl _) (Nat.le_refl _) d_Ma_stopAll_81
      · skip
        have h := h.2 c9
        refine lv_iconst (v := 0) G.1 G.2.1 d_Ma_stopAll_12 (by decide) ?_
        refine lv_istore_n (lv' := [(3, .int 0), (0, .ref (ad a0)), (1, .int x1h7), (2, .int x2h7)]) G.1 G.2.1 d_Ma_stopAll_13 rfl hl (by decide) rfl (fun ls hl => ?_)
        unfold wl_Ma_stopAll_14 at h
        obtain ⟨I_14, μ_14, hI_14, hB_14⟩ := h
        have L_14 : ∀ (n_14 : Nat) (s_h14 : St) (x1h14 : Int32) (x2h14 : Int32) (x3h14 : Int32), μ_14 s_h14 x1h14 x2h14 x3h14 < n_14 → I_14 s_h14 x1h14 x2h14 x3h14 → ∀ (H : Heap) (locs : List Loc), va_P D CL (ws g ad y s_h14) H → va_D A (ws g ad y s_h14) → va_S A s.heap H locs → ∀ ls, lv_has ls 4 [(0, .ref (ad a0)), (1, .int x1h14), (2, .int x2h14), (3, .int x3h14)] → W p l e ru_Ma_stopAll s m args below meth c H locs 0 0 Q (F0 m 14 ls []) := by
          intro n_14
          induction n_14 with
          | zero => intro s_h14 x1h14 x2h14 x3h14 hμ; exact absurd hμ (Nat.not_lt_zero _)
          | succ n_14 ih_14 =>
            intro s_h14 x1h14 x2h14 x3h14 hμ_14 hJ H locs hP hD hS ls hl
            obtain ⟨K_14, hK_14, h⟩ : ∃ K : St → Int32 → Int32 → Int32 → Prop, (∀ z (t0 : Int32) (t1 : Int32) (t2 : Int32), K z t0 t1 t2 → I_14 z t0 t1 t2 ∧ μ_14 z t0 t1 t2 < μ_14 s_h14 x1h14 x2h14 x3h14) ∧ wb_Ma_stopAll_14 y Post K_7 K a0 s_h14 x1h14 x2h14 x3h14 := ⟨_, fun _ _ _ _ h => h, hB_14 s_h14 x1h14 x2h14 x3h14 hJ⟩
            unfold wb_Ma_stopAll_14 at h
            refine lv_iload_n G.1 G.2.1 d_Ma_stopAll_14 rfl (lv_at hl 3 rfl) ?_
            refine lv_aload_n G.1 G.2.1 d_Ma_stopAll_15 rfl (lv_at hl 0 rfl) ?_
            refine ugf (v := .ref (yP y a0 2)) G hP h_a0 iMa rfl 2 (by decide) rfl q1069 rfl rfl d_Ma_stopAll_16 ?_
            refine lv_iload_n G.1 G.2.1 d_Ma_stopAll_19 rfl (lv_at hl 2 rfl) ?_
            refine uqald G hP (kdp h_a0 rfl) (typ h_a0 rfl) rfl h d_Ma_stopAll_20 (fun b_7 n_8 h => ?_)
            refine ugf (v := .int (sV s_h14 b_7 16)) G hP (oa_4 h_a0 n_8) iRu rfl 16 (by decide) rfl q1022 rfl rfl d_Ma_stopAll_21 ?_
            refine lv_icmp_ge (tgt := 54) G.1 G.2.1 d_Ma_stopAll_24 (by decide) (fun c24 => ?_) (fun c24 => ?_)
            · skip
              have h := h.1 c24
              refine lv_aload_n G.1 G.2.1 d_Ma_stopAll_54 rfl (lv_at hl 0 rfl) ?_
              refine ugf (v := .ref (yP y a0 2)) G hP h_a0 iMa rfl 2 (by decide) rfl q1069 rfl rfl d_Ma_stopAll_55 ?_
              refine lv_iload_n G.1 G.2.1 d_Ma_stopAll_58 rfl (lv_at hl 2 rfl) ?_
              refine uqald G hP (kdp h_a0 rfl) (typ h_a0 rfl) rfl h d_Ma_stopAll_59 (fun b_9 n_10 h => ?_)
              refine W.eq (g2 := F0 m 60 ls [.ref (ad b_9)]) rfl ?_
              refine ucVv (As := []) (rest := []) G hP hD hS (cu_Ru_clear l D g ad y _ s_h14 b_9 H.size (oa_4 h_a0 n_10) h) w9_Ru_clear q1228 ⟨Nat.le_of_ble_eq_true rfl, Nat.le_of_ble_eq_true rfl⟩ rfl rfl (oa_4 h_a0 n_10) (q := (RRu, TRu, 19)) rfl rfl hl.1 rfl (Nat.le_of_ble_eq_true rfl) rfl ⟨Nat.le_refl _, Nat.le_refl _⟩ d_Ma_stopAll_60 (fun s_12 H locs h hP hD hS => ?_)
              refine lv_iinc (v := x2h14 + 1) (lv' := [(2, .int (x2h14 + 1)), (0, .ref (ad a0)), (1, .int x1h14), (3, .int x3h14)]) G.1 G.2.1 d_Ma_stopAll_63 hl (k := 2) rfl rfl (by decide) rfl (fun ls hl => ?_)
              refine lv_goto (tgt := 7) G.1 G.2.1 d_Ma_stopAll_66 (by decide) ?_
              have h := hK_7 s_12 x1h14 (x2h14 + 1) h
              exact ih_7 s_12 x1h14 (x2h14 + 1) (Nat.lt_of_lt_of_le h.2 (Nat.le_of_lt_succ hμ_7)) h.1 H locs hP hD hS ls (lv_sub hl [1, 2, 0] rfl)
            · skip
              have h := h.2 c24
              refine lv_aload_n G.1 G.2.1 d_Ma_stopAll_27 rfl (lv_at hl 0 rfl) ?_
              refine ugf (v := .ref (ad (lk a0 0))) G hP h_a0 iMa rfl 0 (by decide) rfl q1065 rfl rfl d_Ma_stopAll_28 ?_
              refine lv_aload_n G.1 G.2.1 d_Ma_stopAll_31 rfl (lv_at hl 0 rfl) ?_
              refine ugf (v := .ref (yP y a0 2)) G hP h_a0 iMa rfl 2 (by decide) rfl q1069 rfl rfl d_Ma_stopAll_32 ?_
              refine W.eq (g2 := F0 m 35 ls [.ref (yP y a0 2), .ref (ad (lk a0 0))]) rfl ?_
              refine lv_iload_n G.1 G.2.1 d_Ma_stopAll_35 rfl (lv_at hl 2 rfl) ?_
              refine uqald G hP (kdp h_a0 rfl) (typ h_a0 rfl) rfl h d_Ma_stopAll_36 (fun b_13 n_14 h => ?_)
              refine ugf (v := .ref (yP y b_13 17)) G hP (oa_4 h_a0 n_14) iRu rfl 17 (by decide) rfl q1024 rfl rfl d_Ma_stopAll_37 ?_
              refine lv_iload_n G.1 G.2.1 d_Ma_stopAll_40 rfl (lv_at hl 3 rfl) ?_
              refine uiald G hP (kdp (oa_4 h_a0 n_14) rfl) (typ (oa_4 h_a0 n_14) rfl) h d_Ma_stopAll_41 (fun x_15 h => ?_)
              refine lv_bipush (v := 13) G.1 G.2.1 d_Ma_stopAll_42 (by decide) ?_
              refine lv_iconst (v := 3) G.1 G.2.1 d_Ma_stopAll_44 (by decide) ?_
              refine ucVv (As := [.int x_15, .int 13, .int 3]) (rest := []) G hP hD hS (cu_Wd_set l D g ad y _ s_h14 (lk a0 0) x_15 13 3 H.size (lk_4_0 h_a0) h) w9_Wd_set q1770 ⟨Nat.le_of_ble_eq_true rfl, Nat.le_of_ble_eq_true rfl⟩ rfl rfl (lk_4_0 h_a0) (q := (RWd, TWd, 17)) rfl rfl hl.1 rfl (Nat.le_of_ble_eq_true rfl) rfl ⟨Nat.le_refl _, Nat.le_refl _⟩ d_Ma_stopAll_45 (fun s_17 H locs h hP hD hS => ?_)
              refine lv_iinc (v := x3h14 + 1) (lv' := [(3, .int (x3h14 + 1)), (0, .ref (ad a0)), (1, .int x1h14), (2, .int x2h14)]) G.1 G.2.1 d_Ma_stopAll_48 hl (k := 3) rfl rfl (by decide) rfl (fun ls hl => ?_)
              refine lv_goto (tgt := 14) G.1 G.2.1 d_Ma_stopAll_51 (by decide) ?_
              have h := hK_14 s_17 x1h14 x2h14 (x3h14 + 1) h
              exact ih_14 s_17 x1h14 x2h14 (x3h14 + 1) (Nat.lt_of_lt_of_le h.2 (Nat.le_of_lt_succ hμ_14)) h.1 H locs hP hD hS ls (lv_sub hl [1, 2, 3, 0] rfl)
        exact L_14 _ s_h7 x1h7 x2h7 0 (Nat.lt_succ_self _) hI_14 H locs hP hD hS ls (lv_sub hl [1, 2, 3, 0] rfl)
  exact L_7 _ s_2 r_1 0 (Nat.lt_succ_self _) hI_7 H locs hP hD hS ls (lv_sub hl [2, 1, 0] rfl)
theorem q1761 : Cond.methodLink "ClassWorks" 229 y_Ma_stopAll ∈ lw_ok := lw_okmem (List.mem_of_getElem? (i := 1761) (by decide +kernel)) rfl
theorem q1764 : Cond.code y_Ma_stopAll b_Ma_stopAll 4 (some .int) ∈ lw_ok := lw_okmem (List.mem_of_getElem? (i := 1764) (by decide +kernel)) rfl
theorem q1762 : Cond.instanceMethod y_Ma_stopAll ∈ lw_ok := lw_okmem (List.mem_of_getElem? (i := 1762) (by decide +kernel)) rfl
theorem q1763 : Cond.selects y_Ma_stopAll.cls y_Ma_stopAll y_Ma_stopAll ∈ lw_ok := lw_okmem (List.mem_of_getElem? (i := 1763) (by decide +kernel)) rfl
theorem w9_Ma_stopAll : CWv y_Ma_stopAll b_Ma_stopAll 4 (some .int) 0 ∧ Cond.instanceMethod y_Ma_stopAll ∈ lw_ok ∧ Cond.selects y_Ma_stopAll.cls y_Ma_stopAll y_Ma_stopAll ∈ lw_ok := ⟨⟨q1764, q344, by decide +kernel, by decide +kernel, by decide +kernel⟩, q1762, q1763⟩
def y_Cw_halt : MethodName := ⟨"ClassWorks", "halt", "(I)I"⟩
abbrev b_Cw_halt : ByteArray := prog_1_method_22_code
theorem d_Cw_halt_0 : decode b_Cw_halt 0 = .ok (.aload_n 0, 1) := by decide +kernel
theorem d_Cw_halt_1 : decode b_Cw_halt 1 = .ok (.iload_n 1, 1) := by decide +kernel
theorem d_Cw_halt_2 : decode b_Cw_halt 2 = .ok (.invokevirtual 129, 3) := by decide +kernel
theorem d_Cw_halt_5 : decode b_Cw_halt 5 = .ok (.astore_n 2, 1) := by decide +kernel
theorem d_Cw_halt_6 : decode b_Cw_halt 6 = .ok (.aload_n 2, 1) := by decide +kernel
theorem d_Cw_halt_7 : decode b_Cw_halt 7 = .ok (.ifnonnull 7, 3) := by decide +kernel
theorem d_Cw_halt_10 : decode b_Cw_halt 10 = .ok (.iconst (-1), 1) := by decide +kernel
theorem d_Cw_halt_11 : decode b_Cw_halt 11 = .ok (.goto 7, 3) := by decide +kernel
theorem d_Cw_halt_14 : decode b_Cw_halt 14 = .ok (.aload_n 2, 1) := by decide +kernel
theorem d_Cw_halt_15 : decode b_Cw_halt 15 = .ok (.invokevirtual 229, 3) := by decide +kernel
theorem d_Cw_halt_18 : decode b_Cw_halt 18 = .ok (.ireturn, 1) := by decide +kernel
abbrev ru_Cw_halt : Room := { frames := 3, cells := 0, slots := 0, locals := 66 }
def wj_Cw_halt_18 (y : Ly) (Post : St → Int32 → Prop) (a0 : Nat) (s_j18 : St) (z0j18 : Int32) : Prop := Post s_j18 z0j18
def wu_Cw_halt (y : Ly) (Post : St → Int32 → Prop) (σ : St) (a0 : Nat) (v1 : Int32) : Prop := wu_Cw_machine y (fun (s_2 : St) (r_1 : Option Nat) => ((r_1 = none → wj_Cw_halt_18 y Post a0 s_2 (-1)) ∧ (∀ r_1b : Nat, r_1 = some r_1b → (cl r_1b = 4 ∧ wu_Ma_stopAll y (fun (s_4 : St) (r_3 : Int32) => wj_Cw_halt_18 y Post a0 s_4 r_3) s_2 r_1b)))) σ a0 v1
set_option maxHeartbeats 4000000 in
set_option maxRecDepth 100000 in
theorem cu_Cw_halt (l : Launch) (D : va_G) (g : Nat → ClassId) (ad : Nat → Nat) (y : Ly) (Post : St → Int32 → Prop) (σ : St) (a0 : Nat) (v1 : Int32) (sz : Nat) (h_a0 : cl a0 = 11) (h : wu_Cw_halt y Post σ a0 v1) : Met l y_Cw_halt (mw y_Cw_halt b_Cw_halt 3 (some .int)) ru_Cw_halt (PC g D [] [.ref (ad a0), .int v1] sz (ws g ad y σ)) (va_Qi (fun (r : Int32) (u : St) => Post u r) (QW D (va_A (ws g ad y σ) sz) (fun u => ws g ad y u)) (va_A (ws g ad y σ) sz)) 0 0 (va_A (ws g ad y σ) sz) := by
  refine ofI (by decide +kernel) (Nat.le_of_ble_eq_true rfl) ?_
  intro p e s m args below meth c A Q ls H locs G hsz hP hD hS hl hret
  subst hsz
  have hl : lv_has ls 3 [(0, .ref (ad a0)), (1, .int v1)] := hl
  unfold wu_Cw_halt at h
  refine lv_aload_n G.1 G.2.1 d_Cw_halt_0 rfl (lv_at hl 0 rfl) ?_
  refine lv_iload_n G.1 G.2.1 d_Cw_halt_1 rfl (lv_at hl 1 rfl) ?_
  refine ucVq (As := [.int v1]) (rest := []) G hP hD hS (cu_Cw_machine l D g ad y _ σ a0 v1 H.size h_a0 h) w9_Cw_machine q1248 ⟨Nat.le_of_ble_eq_true rfl, Nat.le_of_ble_eq_true rfl⟩ rfl rfl h_a0 (q := (RCw, TCw, 20)) rfl rfl hl.1 rfl (Nat.le_of_ble_eq_true rfl) rfl ⟨Nat.le_refl _, Nat.le_refl _⟩ d_Cw_halt_2 (fun r_1 s_2 H locs h hP hD hS => ?_)
  rcases r_1 with _ | r_1b
  · skip
    have h := h.1 rfl
    show W p l e ru_Cw_halt s m args below meth c H locs 0 0 Q (F0 m 5 ls [.null])
    refine lv_astore_nN (lv' := [(2, .null), (0, .ref (ad a0)), (1, .int v1)]) G.1 G.2.1 d_Cw_halt_5 rfl hl (by decide) rfl (fun ls hl => ?_)
    refine lv_aload_nN G.1 G.2.1 d_Cw_halt_6 rfl (lv_at hl 0 rfl) ?_
    have J_18 : ∀ (s_j18 : St) (z0j18 : Int32) (H : Heap) (locs : List Loc), wj_Cw_halt_18 y Post a0 s_j18 z0j18 → va_P D CL (ws g ad y s_j18) H → va_D A (ws g ad y s_j18) → va_S A s.heap H locs → ∀ ls, lv_has ls 3 [] → W p l e ru_Cw_halt s m args below meth c H locs 0 0 Q (F0 m 18 ls [.int z0j18]) := by
      intro s_j18 z0j18 H locs h hP hD hS ls hl
      unfold wj_Cw_halt_18 at h
      exact hret _ _ _ _ _ _ _ ls h hP hD hS (Nat.le_refl _) (Nat.le_refl _) d_Cw_halt_18
    refine lv_ifnonnullN G.1 G.2.1 d_Cw_halt_7 ?_
    refine lv_iconst (v := (-1)) G.1 G.2.1 d_Cw_halt_10 (by decide) ?_
    refine lv_goto (tgt := 18) G.1 G.2.1 d_Cw_halt_11 (by decide) ?_
    exact J_18 s_2 (-1) H locs h hP hD hS ls (lv_sub hl [] rfl)
  · skip
    obtain ⟨c_r_1b, h⟩ := h.2 _ rfl
    show W p l e ru_Cw_halt s m args below meth c H locs 0 0 Q (F0 m 5 ls [.ref (ad r_1b)])
    refine lv_astore_n (lv' := [(2, .ref (ad r_1b)), (0, .ref (ad a0)), (1, .int v1)]) G.1 G.2.1 d_Cw_halt_5 rfl hl (by decide) rfl (fun ls hl => ?_)
    refine lv_aload_n G.1 G.2.1 d_Cw_halt_6 rfl (lv_at hl 0 rfl) ?_
    have J_18 : ∀ (s_j18 : St) (z0j18 : Int32) (H : Heap) (locs : List Loc), wj_Cw_halt_18 y Post a0 s_j18 z0j18 → va_P D CL (ws g ad y s_j18) H → va_D A (ws g ad y s_j18) → va_S A s.heap H locs → ∀ ls, lv_has ls 3 [] → W p l e ru_Cw_halt s m args below meth c H locs 0 0 Q (F0 m 18 ls [.int z0j18]) := by
      intro s_j18 z0j18 H locs h hP hD hS ls hl
      unfold wj_Cw_halt_18 at h
      exact hret _ _ _ _ _ _ _ ls h hP hD hS (Nat.le_refl _) (Nat.le_refl _) d_Cw_halt_18
    refine lv_ifnonnull (tgt := 14) G.1 G.2.1 d_Cw_halt_7 (by decide) ?_
    refine lv_aload_n G.1 G.2.1 d_Cw_halt_14 rfl (lv_at hl 0 rfl) ?_
    refine ucVi (As := []) (rest := []) G hP hD hS (cu_Ma_stopAll l D g ad y _ s_2 r_1b H.size c_r_1b h) w9_Ma_stopAll q1761 ⟨Nat.le_of_ble_eq_true rfl, Nat.le_of_ble_eq_true rfl⟩ rfl rfl c_r_1b (q := (RMa, TMa, 19)) rfl rfl hl.1 rfl (Nat.le_of_ble_eq_true rfl) rfl ⟨Nat.le_refl _, Nat.le_refl _⟩ d_Cw_halt_15 (fun r_3 s_4 H locs h hP hD hS => ?_)
    exact J_18 s_4 r_3 H locs h hP hD hS ls (lv_sub hl [] rfl)
def y_Ma_anyRun : MethodName := ⟨"ClassWorks$Machine", "anyRun", "()Z"⟩
abbrev b_Ma_anyRun : ByteArray := prog_6_method_5_code
theorem q986 : Cond.fieldLink "ClassWorks$Machine" 105 "ClassWorks$Runner" "mode" "I" ∈ lw_ok := lw_okmem (List.mem_of_getElem? (i := 986) (by decide +kernel)) rfl
theorem d_Ma_anyRun_0 : decode b_Ma_anyRun 0 = .ok (.aload_n 0, 1) := by decide +kernel
theorem d_Ma_anyRun_1 : decode b_Ma_anyRun 1 = .ok (.getfield 20, 3) := by decide +kernel
theorem d_Ma_anyRun_4 : decode b_Ma_anyRun 4 = .ok (.iconst 0, 1) := by decide +kernel
theorem d_Ma_anyRun_5 : decode b_Ma_anyRun 5 = .ok (.aaload, 1) := by decide +kernel
theorem d_Ma_anyRun_6 : decode b_Ma_anyRun 6 = .ok (.getfield 105, 3) := by decide +kernel
theorem d_Ma_anyRun_9 : decode b_Ma_anyRun 9 = .ok (.ifCond .ne 27, 3) := by decide +kernel
theorem d_Ma_anyRun_12 : decode b_Ma_anyRun 12 = .ok (.aload_n 0, 1) := by decide +kernel
theorem d_Ma_anyRun_13 : decode b_Ma_anyRun 13 = .ok (.getfield 20, 3) := by decide +kernel
theorem d_Ma_anyRun_16 : decode b_Ma_anyRun 16 = .ok (.iconst 1, 1) := by decide +kernel
theorem d_Ma_anyRun_17 : decode b_Ma_anyRun 17 = .ok (.aaload, 1) := by decide +kernel
theorem d_Ma_anyRun_18 : decode b_Ma_anyRun 18 = .ok (.getfield 105, 3) := by decide +kernel
theorem d_Ma_anyRun_21 : decode b_Ma_anyRun 21 = .ok (.ifCond .ne 15, 3) := by decide +kernel
theorem d_Ma_anyRun_24 : decode b_Ma_anyRun 24 = .ok (.aload_n 0, 1) := by decide +kernel
theorem d_Ma_anyRun_25 : decode b_Ma_anyRun 25 = .ok (.getfield 20, 3) := by decide +kernel
theorem d_Ma_anyRun_28 : decode b_Ma_anyRun 28 = .ok (.iconst 2, 1) := by decide +kernel
theorem d_Ma_anyRun_29 : decode b_Ma_anyRun 29 = .ok (.aaload, 1) := by decide +kernel
theorem d_Ma_anyRun_30 : decode b_Ma_anyRun 30 = .ok (.getfield 105, 3) := by decide +kernel
theorem d_Ma_anyRun_33 : decode b_Ma_anyRun 33 = .ok (.ifCond .eq 7, 3) := by decide +kernel
theorem d_Ma_anyRun_36 : decode b_Ma_anyRun 36 = .ok (.iconst 1, 1) := by decide +kernel
theorem d_Ma_anyRun_37 : decode b_Ma_anyRun 37 = .ok (.goto 4, 3) := by decide +kernel
theorem d_Ma_anyRun_40 : decode b_Ma_anyRun 40 = .ok (.iconst 0, 1) := by decide +kernel
theorem d_Ma_anyRun_41 : decode b_Ma_anyRun 41 = .ok (.ireturn, 1) := by decide +kernel
abbrev ru_Ma_anyRun : Room := { frames := 0, cells := 0, slots := 0, locals := 0 }
def wj_Ma_anyRun_41 (y : Ly) (Post : St → Int32 → Prop) (a0 : Nat) (s_j41 : St) (z0j41 : Int32) : Prop := (nb z0j41 ∧ Post s_j41 z0j41)
def wj_Ma_anyRun_36 (y : Ly) (Post : St → Int32 → Prop) (a0 : Nat) (s_j36 : St) : Prop := wj_Ma_anyRun_41 y Post a0 s_j36 1
def wu_Ma_anyRun (y : Ly) (Post : St → Int32 → Prop) (σ : St) (a0 : Nat) : Prop := xQ y a0 2 0 (fun b_1 : Nat => ((¬ (sV σ b_1 3) = 0 → wj_Ma_anyRun_36 y Post a0 σ) ∧ ((sV σ b_1 3) = 0 → xQ y a0 2 1 (fun b_3 : Nat => ((¬ (sV σ b_3 3) = 0 → wj_Ma_anyRun_36 y Post a0 σ) ∧ ((sV σ b_3 3) = 0 → xQ y a0 2 2 (fun b_5 : Nat => (((sV σ b_5 3) = 0 → wj_Ma_anyRun_41 y Post a0 σ 0) ∧ (¬ ((sV σ b_5 3) = 0) → wj_Ma_anyRun_36 y Post a0 σ)))))))))
set_option maxHeartbeats 4000000 in
set_option maxRecDepth 100000 in
theorem cu_Ma_anyRun (l : Launch) (D : va_G) (g : Nat → ClassId) (ad : Nat → Nat) (y : Ly) (Post : St → Int32 → Prop) (σ : St) (a0 : Nat) (sz : Nat) (h_a0 : cl a0 = 4) (h : wu_Ma_anyRun y Post σ a0) : Met l y_Ma_anyRun (mw y_Ma_anyRun b_Ma_anyRun 1 (some (.boolean))) ru_Ma_anyRun (PC g D [] [.ref (ad a0)] sz (ws g ad y σ)) (va_Qi (fun (r : Int32) (u : St) => Post u r) (QW D (va_A (ws g ad y σ) sz) (fun u => ws g ad y u)) (va_A (ws g ad y σ) sz)) 0 0 (va_A (ws g ad y σ) sz) := by
  refine ofZ (by decide +kernel) (Nat.le_of_ble_eq_true rfl) ?_
  intro p e s m args below meth c A Q ls H locs G hsz hP hD hS hl hret
  subst hsz
  have hl : lv_has ls 1 [(0, .ref (ad a0))] := hl
  unfold wu_Ma_anyRun at h
  refine lv_aload_n G.1 G.2.1 d_Ma_anyRun_0 rfl (lv_at hl 0 rfl) ?_
  refine ugf (v := .ref (yP y a0 2)) G hP h_a0 iMa rfl 2 (by decide) rfl q1069 rfl rfl d_Ma_anyRun_1 ?_
  refine lv_iconst (v := 0) G.1 G.2.1 d_Ma_anyRun_4 (by decide) ?_
  refine uqald G hP (kdp h_a0 rfl) (typ h_a0 rfl) rfl h d_Ma_anyRun_5 (fun b_1 n_2 h => ?_)
  refine ugf (v := .int (sV σ b_1 3)) G hP (oa_4 h_a0 n_2) iRu rfl 3 (by decide) rfl q986 rfl rfl d_Ma_anyRun_6 ?_
  have J_41 : ∀ (s_j41 : St) (z0j41 : Int32) (H : Heap) (locs : List Loc), wj_Ma_anyRun_41 y Post a0 s_j41 z0j41 → va_P D CL (ws g ad y s_j41) H → va_D A (ws g ad y s_j41) → va_S A s.heap H locs → ∀ ls, lv_has ls 1 [] → W p l e ru_Ma_anyRun s m args below meth c H locs 0 0 Q (F0 m 41 ls [.int z0j41]) := by
    intro s_j41 z0j41 H locs h hP hD hS ls hl
    unfold wj_Ma_anyRun_41 at h
    exact hret _ _ _ _ _ _ _ ls (nb_n h.1) h.2 hP hD hS (Nat.le_refl _) (Nat.le_refl _) d_Ma_anyRun_41
  have J_36 : ∀ (s_j36 : St) (H : Heap) (locs : List Loc), wj_Ma_anyRun_36 y Post a0 s_j36 → va_P D CL (ws g ad y s_j36) H → va_D A (ws g ad y s_j36) → va_S A s.heap H locs → ∀ ls, lv_has ls 1 [] → W p l e ru_Ma_anyRun s m args below meth c H locs 0 0 Q (F0 m 36 ls []) := by
    intro s_j36 H locs h hP hD hS ls hl
    unfold wj_Ma_anyRun_36 at h
    refine lv_iconst (v := 1) G.1 G.2.1 d_Ma_anyRun_36 (by decide) ?_
    refine lv_goto (tgt := 41) G.1 G.2.1 d_Ma_anyRun_37 (by decide) ?_
    exact J_41 s_j36 1 H locs h hP hD hS ls (lv_sub hl [] rfl)
  refine lv_if_ne (tgt := 36) G.1 G.2.1 d_Ma_anyRun_9 (by decide) (fun c9 => ?_) (fun c9 => ?_)
  · skip
    have h := h.1 c9
    exact J_36 σ H locs h hP hD hS ls (lv_sub hl [] rfl)
  · skip
    have h := h.2 c9
    refine lv_aload_n G.1 G.2.1 d_Ma_anyRun_12 rfl (lv_at hl 0 rfl) ?_
    refine ugf (v := .ref (yP y a0 2)) G hP h_a0 iMa rfl 2 (by decide) rfl q1069 rfl rfl d_Ma_anyRun_13 ?_
    refine lv_iconst (v := 1) G.1 G.2.1 d_Ma_anyRun_16 (by decide) ?_
    refine uqald G hP (kdp h_a0 rfl) (typ h_a0 rfl) rfl h d_Ma_anyRun_17 (fun b_3 n_4 h => ?_)
    refine ugf (v := .int (sV σ b_3 3)) G hP (oa_4 h_a0 n_4) iRu rfl 3 (by decide) rfl q986 rfl rfl d_Ma_anyRun_18 ?_
    refine W.eq (g2 := F0 m 21 ls [.int (sV σ b_3 3)]) rfl ?_
    refine lv_if_ne (tgt := 36) G.1 G.2.1 d_Ma_anyRun_21 (by decide) (fun c21 => ?_) (fun c21 => ?_)
    · skip
      have h := h.1 c21
      exact J_36 σ H locs h hP hD hS ls (lv_sub hl [] rfl)
    · skip
      have h := h.2 c21
      refine lv_aload_n G.1 G.2.1 d_Ma_anyRun_24 rfl (lv_at hl 0 rfl) ?_
      refine ugf (v := .ref (yP y a0 2)) G hP h_a0 iMa rfl 2 (by decide) rfl q1069 rfl rfl d_Ma_anyRun_25 ?_
      refine lv_iconst (v := 2) G.1 G.2.1 d_Ma_anyRun_28 (by decide) ?_
      refine uqald G hP (kdp h_a0 rfl) (typ h_a0 rfl) rfl h d_Ma_anyRun_29 (fun b_5 n_6 h => ?_)
      refine ugf (v := .int (sV σ b_5 3)) G hP (oa_4 h_a0 n_6) iRu rfl 3 (by decide) rfl q986 rfl rfl d_Ma_anyRun_30 ?_
      refine lv_if_eq (tgt := 40) G.1 G.2.1 d_Ma_anyRun_33 (by decide) (fun c33 => ?_) (fun c33 => ?_)
      · skip
        have h := h.1 c33
        refine lv_iconst (v := 0) G.1 G.2.1 d_Ma_anyRun_40 (by decide) ?_
        exact J_41 σ 0 H locs h hP hD hS ls (lv_sub hl [] rfl)
      · skip
        have h := h.2 c33
        exact J_36 σ H locs h hP hD hS ls (lv_sub hl [] rfl)
def y_Ru_startIsOpen : MethodName := ⟨"ClassWorks$Runner", "startIsOpen", "()Z"⟩
abbrev b_Ru_startIsOpen : ByteArray := prog_9_method_5_code
theorem q1025 : Cond.fieldLink "ClassWorks$Runner" 69 "ClassWorks$Runner" "startFrames" "[I" ∈ lw_ok := lw_okmem (List.mem_of_getElem? (i := 1025) (by decide +kernel)) rfl
theorem d_Ru_startIsOpen_0 : decode b_Ru_startIsOpen 0 = .ok (.aload_n 0, 1) := by decide +kernel
theorem d_Ru_startIsOpen_1 : decode b_Ru_startIsOpen 1 = .ok (.getfield 63, 3) := by decide +kernel
theorem d_Ru_startIsOpen_4 : decode b_Ru_startIsOpen 4 = .ok (.ifCond .le 25, 3) := by decide +kernel
theorem d_Ru_startIsOpen_7 : decode b_Ru_startIsOpen 7 = .ok (.aload_n 0, 1) := by decide +kernel
theorem d_Ru_startIsOpen_8 : decode b_Ru_startIsOpen 8 = .ok (.getfield 69, 3) := by decide +kernel
theorem d_Ru_startIsOpen_11 : decode b_Ru_startIsOpen 11 = .ok (.aload_n 0, 1) := by decide +kernel
theorem d_Ru_startIsOpen_12 : decode b_Ru_startIsOpen 12 = .ok (.getfield 63, 3) := by decide +kernel
theorem d_Ru_startIsOpen_15 : decode b_Ru_startIsOpen 15 = .ok (.iconst 1, 1) := by decide +kernel
theorem d_Ru_startIsOpen_16 : decode b_Ru_startIsOpen 16 = .ok (.isub, 1) := by decide +kernel
theorem d_Ru_startIsOpen_17 : decode b_Ru_startIsOpen 17 = .ok (.iaload, 1) := by decide +kernel
theorem d_Ru_startIsOpen_18 : decode b_Ru_startIsOpen 18 = .ok (.aload_n 0, 1) := by decide +kernel
theorem d_Ru_startIsOpen_19 : decode b_Ru_startIsOpen 19 = .ok (.getfield 44, 3) := by decide +kernel
theorem d_Ru_startIsOpen_22 : decode b_Ru_startIsOpen 22 = .ok (.if_icmp .ne 7, 3) := by decide +kernel
theorem d_Ru_startIsOpen_25 : decode b_Ru_startIsOpen 25 = .ok (.iconst 1, 1) := by decide +kernel
theorem d_Ru_startIsOpen_26 : decode b_Ru_startIsOpen 26 = .ok (.goto 4, 3) := by decide +kernel
theorem d_Ru_startIsOpen_29 : decode b_Ru_startIsOpen 29 = .ok (.iconst 0, 1) := by decide +kernel
theorem d_Ru_startIsOpen_30 : decode b_Ru_startIsOpen 30 = .ok (.ireturn, 1) := by decide +kernel
abbrev ru_Ru_startIsOpen : Room := { frames := 0, cells := 0, slots := 0, locals := 0 }
def wj_Ru_startIsOpen_30 (y : Ly) (Post : St → Int32 → Prop) (a0 : Nat) (s_j30 : St) (z0j30 : Int32) : Prop := (nb z0j30 ∧ Post s_j30 z0j30)
def wj_Ru_startIsOpen_29 (y : Ly) (Post : St → Int32 → Prop) (a0 : Nat) (s_j29 : St) : Prop := wj_Ru_startIsOpen_30 y Post a0 s_j29 0
def wu_Ru_startIsOpen (y : Ly) (Post : St → Int32 → Prop) (σ : St) (a0 : Nat) : Prop := (((sV σ a0 16) ≤ 0 → wj_Ru_startIsOpen_29 y Post a0 σ) ∧ (¬ ((sV σ a0 16) ≤ 0) → xA y σ a0 18 ((sV σ a0 16) - 1) (fun x_1 : Int32 => ((¬ x_1 = (sV σ a0 10) → wj_Ru_startIsOpen_29 y Post a0 σ) ∧ (x_1 = (sV σ a0 10) → wj_Ru_startIsOpen_30 y Post a0 σ 1)))))
set_option maxHeartbeats 4000000 in
set_option maxRecDepth 100000 in
theorem cu_Ru_startIsOpen (l : Launch) (D : va_G) (g : Nat → ClassId) (ad : Nat → Nat) (y : Ly) (Post : St → Int32 → Prop) (σ : St) (a0 : Nat) (sz : Nat) (h_a0 : cl a0 = 7) (h : wu_Ru_startIsOpen y Post σ a0) : Met l y_Ru_startIsOpen (mw y_Ru_startIsOpen b_Ru_startIsOpen 1 (some (.boolean))) ru_Ru_startIsOpen (PC g D [] [.ref (ad a0)] sz (ws g ad y σ)) (va_Qi (fun (r : Int32) (u : St) => Post u r) (QW D (va_A (ws g ad y σ) sz) (fun u => ws g ad y u)) (va_A (ws g ad y σ) sz)) 0 0 (va_A (ws g ad y σ) sz) := by
  refine ofZ (by decide +kernel) (Nat.le_of_ble_eq_true rfl) ?_
  intro p e s m args below meth c A Q ls H locs G hsz hP hD hS hl hret
  subst hsz
  have hl : lv_has ls 1 [(0, .ref (ad a0))] := hl
  unfold wu_Ru_startIsOpen at h
  refine lv_aload_n G.1 G.2.1 d_Ru_startIsOpen_0 rfl (lv_at hl 0 rfl) ?_
  refine ugf (v := .int (sV σ a0 16)) G hP h_a0 iRu rfl 16 (by decide) rfl q1021 rfl rfl d_Ru_startIsOpen_1 ?_
  have J_30 : ∀ (s_j30 : St) (z0j30 : Int32) (H : Heap) (locs : List Loc), wj_Ru_startIsOpen_30 y Post a0 s_j30 z0j30 → va_P D CL (ws g ad y s_j30) H → va_D A (ws g ad y s_j30) → va_S A s.heap H locs → ∀ ls, lv_has ls 1 [] → W p l e ru_Ru_startIsOpen s m args below meth c H locs 0 0 Q (F0 m 30 ls [.int z0j30]) := by
    intro s_j30 z0j30 H locs h hP hD hS ls hl
    unfold wj_Ru_startIsOpen_30 at h
    exact hret _ _ _ _ _ _ _ ls (nb_n h.1) h.2 hP hD hS (Nat.le_refl _) (Nat.le_refl _) d_Ru_startIsOpen_30
  have J_29 : ∀ (s_j29 : St) (H : Heap) (locs : List Loc), wj_Ru_startIsOpen_29 y Post a0 s_j29 → va_P D CL (ws g ad y s_j29) H → va_D A (ws g ad y s_j29) → va_S A s.heap H locs → ∀ ls, lv_has ls 1 [] → W p l e ru_Ru_startIsOpen s m args below meth c H locs 0 0 Q (F0 m 29 ls []) := by
    intro s_j29 H locs h hP hD hS ls hl
    unfold wj_Ru_startIsOpen_29 at h
    refine lv_iconst (v := 0) G.1 G.2.1 d_Ru_startIsOpen_29 (by decide) ?_
    exact J_30 s_j29 0 H locs h hP hD hS ls (lv_sub hl [] rfl)
  refine lv_if_le (tgt := 29) G.1 G.2.1 d_Ru_startIsOpen_4 (by decide) (fun c4 => ?_) (fun c4 => ?_)
  · skip
    have h := h.1 c4
    exact J_29 σ H locs h hP hD hS ls (lv_sub hl [] rfl)
  · skip
    have h := h.2 c4
    refine lv_aload_n G.1 G.2.1 d_Ru_startIsOpen_7 rfl (lv_at hl 0 rfl) ?_
    refine ugf (v := .ref (yP y a0 18)) G hP h_a0 iRu rfl 18 (by decide) rfl q1025 rfl rfl d_Ru_startIsOpen_8 ?_
    refine lv_aload_n G.1 G.2.1 d_Ru_startIsOpen_11 rfl (lv_at hl 0 rfl) ?_
    refine ugf (v := .int (sV σ a0 16)) G hP h_a0 iRu rfl 16 (by decide) rfl q1021 rfl rfl d_Ru_startIsOpen_12 ?_
    refine lv_iconst (v := 1) G.1 G.2.1 d_Ru_startIsOpen_15 (by decide) ?_
    refine lv_isub G.1 G.2.1 d_Ru_startIsOpen_16 ?_
    refine uiald G hP (kdp h_a0 rfl) (typ h_a0 rfl) h d_Ru_startIsOpen_17 (fun x_1 h => ?_)
    refine lv_aload_n G.1 G.2.1 d_Ru_startIsOpen_18 rfl (lv_at hl 0 rfl) ?_
    refine W.eq (g2 := F0 m 19 ls [.ref (ad a0), .int x_1]) rfl ?_
    refine ugf (v := .int (sV σ a0 10)) G hP h_a0 iRu rfl 10 (by decide) rfl q1005 rfl rfl d_Ru_startIsOpen_19 ?_
    refine lv_icmp_ne (tgt := 29) G.1 G.2.1 d_Ru_startIsOpen_22 (by decide) (fun c22 => ?_) (fun c22 => ?_)
    · skip
      have h := h.1 c22
      exact J_29 σ H locs h hP hD hS ls (lv_sub hl [] rfl)
    · skip
      have h := h.2 c22
      refine lv_iconst (v := 1) G.1 G.2.1 d_Ru_startIsOpen_25 (by decide) ?_
      refine lv_goto (tgt := 30) G.1 G.2.1 d_Ru_startIsOpen_26 (by decide) ?_
      exact J_30 σ 1 H locs h hP hD hS ls (lv_sub hl [] rfl)
def y_Ma_planStartOf : MethodName := ⟨"ClassWorks$Machine", "planStartOf", "(IIII)I"⟩
abbrev b_Ma_planStartOf : ByteArray := prog_6_method_12_code
theorem q1810 : Cond.methodLink "ClassWorks$Machine" 192 y_Wd_of ∈ lw_ok := lw_okmem (List.mem_of_getElem? (i := 1810) (by decide +kernel)) rfl
theorem q1092 : Cond.fieldLink "ClassWorks$Machine" 60 "ClassWorks$Machine" "fault" "I" ∈ lw_ok := lw_okmem (List.mem_of_getElem? (i := 1092) (by decide +kernel)) rfl
theorem q1093 : Cond.fieldLink "ClassWorks$Machine" 63 "ClassWorks$Machine" "wanted" "I" ∈ lw_ok := lw_okmem (List.mem_of_getElem? (i := 1093) (by decide +kernel)) rfl
theorem d_Ma_planStartOf_0 : decode b_Ma_planStartOf 0 = .ok (.aload_n 0, 1) := by decide +kernel
theorem d_Ma_planStartOf_1 : decode b_Ma_planStartOf 1 = .ok (.getfield 69, 3) := by decide +kernel
theorem d_Ma_planStartOf_4 : decode b_Ma_planStartOf 4 = .ok (.iload_n 1, 1) := by decide +kernel
theorem d_Ma_planStartOf_5 : decode b_Ma_planStartOf 5 = .ok (.bipush 13, 2) := by decide +kernel
theorem d_Ma_planStartOf_7 : decode b_Ma_planStartOf 7 = .ok (.invokevirtual 192, 3) := by decide +kernel
theorem d_Ma_planStartOf_10 : decode b_Ma_planStartOf 10 = .ok (.istore 5, 2) := by decide +kernel
theorem d_Ma_planStartOf_12 : decode b_Ma_planStartOf 12 = .ok (.iload 5, 2) := by decide +kernel
theorem d_Ma_planStartOf_14 : decode b_Ma_planStartOf 14 = .ok (.ifCond .ne 10, 3) := by decide +kernel
theorem d_Ma_planStartOf_17 : decode b_Ma_planStartOf 17 = .ok (.aload_n 0, 1) := by decide +kernel
theorem d_Ma_planStartOf_18 : decode b_Ma_planStartOf 18 = .ok (.iload_n 1, 1) := by decide +kernel
theorem d_Ma_planStartOf_19 : decode b_Ma_planStartOf 19 = .ok (.putfield 63, 3) := by decide +kernel
theorem d_Ma_planStartOf_22 : decode b_Ma_planStartOf 22 = .ok (.iconst 2, 1) := by decide +kernel
theorem d_Ma_planStartOf_23 : decode b_Ma_planStartOf 23 = .ok (.ireturn, 1) := by decide +kernel
theorem d_Ma_planStartOf_24 : decode b_Ma_planStartOf 24 = .ok (.iload 5, 2) := by decide +kernel
theorem d_Ma_planStartOf_26 : decode b_Ma_planStartOf 26 = .ok (.iconst 1, 1) := by decide +kernel
theorem d_Ma_planStartOf_27 : decode b_Ma_planStartOf 27 = .ok (.if_icmp .ne 19, 3) := by decide +kernel
theorem d_Ma_planStartOf_30 : decode b_Ma_planStartOf 30 = .ok (.aload_n 0, 1) := by decide +kernel
theorem d_Ma_planStartOf_31 : decode b_Ma_planStartOf 31 = .ok (.getfield 69, 3) := by decide +kernel
theorem d_Ma_planStartOf_34 : decode b_Ma_planStartOf 34 = .ok (.iload_n 1, 1) := by decide +kernel
theorem d_Ma_planStartOf_35 : decode b_Ma_planStartOf 35 = .ok (.bipush 14, 2) := by decide +kernel
theorem d_Ma_planStartOf_37 : decode b_Ma_planStartOf 37 = .ok (.invokevirtual 192, 3) := by decide +kernel
theorem d_Ma_planStartOf_40 : decode b_Ma_planStartOf 40 = .ok (.iload_n 2, 1) := by decide +kernel
theorem d_Ma_planStartOf_41 : decode b_Ma_planStartOf 41 = .ok (.if_icmp .eq 5, 3) := by decide +kernel
theorem d_Ma_planStartOf_44 : decode b_Ma_planStartOf 44 = .ok (.iconst 0, 1) := by decide +kernel
theorem d_Ma_planStartOf_45 : decode b_Ma_planStartOf 45 = .ok (.ireturn, 1) := by decide +kernel
theorem d_Ma_planStartOf_46 : decode b_Ma_planStartOf 46 = .ok (.aload_n 0, 1) := by decide +kernel
theorem d_Ma_planStartOf_47 : decode b_Ma_planStartOf 47 = .ok (.iload 5, 2) := by decide +kernel
theorem d_Ma_planStartOf_49 : decode b_Ma_planStartOf 49 = .ok (.iconst 3, 1) := by decide +kernel
theorem d_Ma_planStartOf_50 : decode b_Ma_planStartOf 50 = .ok (.if_icmp .ne 8, 3) := by decide +kernel
theorem d_Ma_planStartOf_53 : decode b_Ma_planStartOf 53 = .ok (.bipush 11, 2) := by decide +kernel
theorem d_Ma_planStartOf_55 : decode b_Ma_planStartOf 55 = .ok (.goto 4, 3) := by decide +kernel
theorem d_Ma_planStartOf_58 : decode b_Ma_planStartOf 58 = .ok (.iconst 0, 1) := by decide +kernel
theorem d_Ma_planStartOf_59 : decode b_Ma_planStartOf 59 = .ok (.putfield 60, 3) := by decide +kernel
theorem d_Ma_planStartOf_62 : decode b_Ma_planStartOf 62 = .ok (.iload 5, 2) := by decide +kernel
theorem d_Ma_planStartOf_64 : decode b_Ma_planStartOf 64 = .ok (.iconst 3, 1) := by decide +kernel
theorem d_Ma_planStartOf_65 : decode b_Ma_planStartOf 65 = .ok (.if_icmp .ne 8, 3) := by decide +kernel
theorem d_Ma_planStartOf_68 : decode b_Ma_planStartOf 68 = .ok (.iload 4, 2) := by decide +kernel
theorem d_Ma_planStartOf_70 : decode b_Ma_planStartOf 70 = .ok (.goto 4, 3) := by decide +kernel
theorem d_Ma_planStartOf_73 : decode b_Ma_planStartOf 73 = .ok (.iload_n 3, 1) := by decide +kernel
theorem d_Ma_planStartOf_74 : decode b_Ma_planStartOf 74 = .ok (.ireturn, 1) := by decide +kernel
abbrev ru_Ma_planStartOf : Room := { frames := 1, cells := 0, slots := 0, locals := 22 }
def wj_Ma_planStartOf_74 (y : Ly) (Post : St → Int32 → Prop) (a0 : Nat) (s_j74 : St) (z0j74 : Int32) : Prop := Post s_j74 z0j74
def wj_Ma_planStartOf_59 (y : Ly) (Post : St → Int32 → Prop) (a0 : Nat) (s_j59 : St) (x3j59 : Int32) (x4j59 : Int32) (x5j59 : Int32) (z1j59 : Int32) : Prop := xP (uV s_j59 a0 16 z1j59) (fun s_3 : St => ((¬ x5j59 = 3 → wj_Ma_planStartOf_74 y Post a0 s_3 x3j59) ∧ (x5j59 = 3 → wj_Ma_planStartOf_74 y Post a0 s_3 x4j59)))
def wj_Ma_planStartOf_46 (y : Ly) (Post : St → Int32 → Prop) (a0 : Nat) (s_j46 : St) (x3j46 : Int32) (x4j46 : Int32) (x5j46 : Int32) : Prop := ((¬ x5j46 = 3 → wj_Ma_planStartOf_59 y Post a0 s_j46 x3j46 x4j46 x5j46 0) ∧ (x5j46 = 3 → wj_Ma_planStartOf_59 y Post a0 s_j46 x3j46 x4j46 x5j46 11))
def wu_Ma_planStartOf (y : Ly) (Post : St → Int32 → Prop) (σ : St) (a0 : Nat) (v1 : Int32) (v2 : Int32) (v3 : Int32) (v4 : Int32) : Prop := wu_Wd_of y (fun (s_2 : St) (r_1 : Int32) => ((¬ r_1 = 0 → ((¬ r_1 = 1 → wj_Ma_planStartOf_46 y Post a0 s_2 v3 v4 r_1) ∧ (r_1 = 1 → wu_Wd_of y (fun (s_5 : St) (r_4 : Int32) => ((r_4 = v2 → wj_Ma_planStartOf_46 y Post a0 s_5 v3 v4 r_1) ∧ (¬ (r_4 = v2) → Post s_5 0))) s_2 (lk a0 0) v1 14))) ∧ (r_1 = 0 → xP (uV s_2 a0 17 v1) (fun s_6 : St => Post s_6 2)))) σ (lk a0 0) v1 13
set_option maxHeartbeats 4000000 in
set_option maxRecDepth 100000 in
theorem cu_Ma_planStartOf (l : Launch) (D : va_G) (g : Nat → ClassId) (ad : Nat → Nat) (y : Ly) (Post : St → Int32 → Prop) (σ : St) (a0 : Nat) (v1 : Int32) (v2 : Int32) (v3 : Int32) (v4 : Int32) (sz : Nat) (h_a0 : cl a0 = 4) (h : wu_Ma_planStartOf y Post σ a0 v1 v2 v3 v4) : Met l y_Ma_planStartOf (mw y_Ma_planStartOf b_Ma_planStartOf 6 (some .int)) ru_Ma_planStartOf (PC g D [] [.ref (ad a0), .int v1, .int v2, .int v3, .int v4] sz (ws g ad y σ)) (va_Qi (fun (r : Int32) (u : St) => Post u r) (QW D (va_A (ws g ad y σ) sz) (fun u => ws g ad y u)) (va_A (ws g ad y σ) sz)) 0 0 (va_A (ws g ad y σ) sz) := by
  refine ofI (by decide +kernel) (Nat.le_of_ble_eq_true rfl) ?_
  intro p e s m args below meth c A Q ls H locs G hsz hP hD hS hl hret
  subst hsz
  have hl : lv_has ls 6 [(0, .ref (ad a0)), (1, .int v1), (2, .int v2), (3, .int v3), (4, .int v4)] := hl
  unfold wu_Ma_planStartOf at h
  refine lv_aload_n G.1 G.2.1 d_Ma_planStartOf_0 rfl (lv_at hl 0 rfl) ?_
  refine ugf (v := .ref (ad (lk a0 0))) G hP h_a0 iMa rfl 0 (by decide) rfl q1065 rfl rfl d_Ma_planStartOf_1 ?_
  refine lv_iload_n G.1 G.2.1 d_Ma_planStartOf_4 rfl (lv_at hl 1 rfl) ?_
  refine lv_bipush (v := 13) G.1 G.2.1 d_Ma_planStartOf_5 (by decide) ?_
  refine ucVi (As := [.int v1, .int 13]) (rest := []) G hP hD hS (cu_Wd_of l D g ad y _ σ (lk a0 0) v1 13 H.size (lk_4_0 h_a0) h) w9_Wd_of q1810 ⟨Nat.le_of_ble_eq_true rfl, Nat.le_of_ble_eq_true rfl⟩ rfl rfl (lk_4_0 h_a0) (q := (RWd, TWd, 17)) rfl rfl hl.1 rfl (Nat.le_of_ble_eq_true rfl) rfl ⟨Nat.le_refl _, Nat.le_refl _⟩ d_Ma_planStartOf_7 (fun r_1 s_2 H locs h hP hD hS => ?_)
  refine lv_istore (lv' := [(5, .int r_1), (0, .ref (ad a0)), (1, .int v1), (2, .int v2), (3, .int v3), (4, .int v4)]) G.1 G.2.1 d_Ma_planStartOf_10 hl (by decide) rfl (fun ls hl => ?_)
  refine lv_iload G.1 G.2.1 d_Ma_planStartOf_12 (lv_at hl 0 rfl) ?_
  refine lv_if_ne (tgt := 24) G.1 G.2.1 d_Ma_planStartOf_14 (by decide) (fun c14 => ?_) (fun c14 => ?_)
  · skip
    have h := h.1 c14
    refine lv_iload G.1 G.2.1 d_Ma_planStartOf_24 (lv_at hl 0 rfl) ?_
    refine lv_iconst (v := 1) G.1 G.2.1 d_Ma_planStartOf_26 (by decide) ?_
    have J_46 : ∀ (s_j46 : St) (x3j46 : Int32) (x4j46 : Int32) (x5j46 : Int32) (H : Heap) (locs : List Loc), wj_Ma_planStartOf_46 y Post a0 s_j46 x3j46 x4j46 x5j46 → va_P D CL (ws g ad y s_j46) H → va_D A (ws g ad y s_j46) → va_S A s.heap H locs → ∀ ls, lv_has ls 6 [(0, .ref (ad a0)), (3, .int x3j46), (4, .int x4j46), (5, .int x5j46)] → W p l e ru_Ma_planStartOf s m args below meth c H locs 0 0 Q (F0 m 46 ls []) := by
      intro s_j46 x3j46 x4j46 x5j46 H locs h hP hD hS ls hl
      unfold wj_Ma_planStartOf_46 at h
      refine lv_aload_n G.1 G.2.1 d_Ma_planStartOf_46 rfl (lv_at hl 0 rfl) ?_
      refine lv_iload G.1 G.2.1 d_Ma_planStartOf_47 (lv_at hl 3 rfl) ?_
      refine lv_iconst (v := 3) G.1 G.2.1 d_Ma_planStartOf_49 (by decide) ?_
      have J_59 : ∀ (s_j59 : St) (x3j59 : Int32) (x4j59 : Int32) (x5j59 : Int32) (z1j59 : Int32) (H : Heap) (locs : List Loc), wj_Ma_planStartOf_59 y Post a0 s_j59 x3j59 x4j59 x5j59 z1j59 → va_P D CL (ws g ad y s_j59) H → va_D A (ws g ad y s_j59) → va_S A s.heap H locs → ∀ ls, lv_has ls 6 [(3, .int x3j59), (4, .int x4j59), (5, .int x5j59)] → W p l e ru_Ma_planStartOf s m args below meth c H locs 0 0 Q (F0 m 59 ls [.int z1j59, .ref (ad a0)]) := by
        intro s_j59 x3j59 x4j59 x5j59 z1j59 H locs h hP hD hS ls hl
        unfold wj_Ma_planStartOf_59 at h
        refine upf G hP hD hS h 16 putV h_a0 iMa tMa tMa_ok nMa rfl (by decide) rfl q1092 rfl rfl fV rfl rfl d_Ma_planStartOf_59 (fun s_3 H locs h hP hD hS => ?_)
        refine lv_iload G.1 G.2.1 d_Ma_planStartOf_62 (lv_at hl 2 rfl) ?_
        refine lv_iconst (v := 3) G.1 G.2.1 d_Ma_planStartOf_64 (by decide) ?_
        have J_74 : ∀ (s_j74 : St) (z0j74 : Int32) (H : Heap) (locs : List Loc), wj_Ma_planStartOf_74 y Post a0 s_j74 z0j74 → va_P D CL (ws g ad y s_j74) H → va_D A (ws g ad y s_j74) → va_S A s.heap H locs → ∀ ls, lv_has ls 6 [] → W p l e ru_Ma_planStartOf s m args below meth c H locs 0 0 Q (F0 m 74 ls [.int z0j74]) := by
          intro s_j74 z0j74 H locs h hP hD hS ls hl
          unfold wj_Ma_planStartOf_74 at h
          exact hret _ _ _ _ _ _ _ ls h hP hD hS (Nat.le_refl _) (Nat.le_refl _) d_Ma_planStartOf_74
        refine lv_icmp_ne (tgt := 73) G.1 G.2.1 d_Ma_planStartOf_65 (by decide) (fun c65 => ?_) (fun c65 => ?_)
        · skip
          have h := h.1 c65
          refine lv_iload_n G.1 G.2.1 d_Ma_planStartOf_73 rfl (lv_at hl 0 rfl) ?_
          exact J_74 s_3 x3j59 H locs h hP hD hS ls (lv_sub hl [] rfl)
        · skip
          have h := h.2 c65
          refine lv_iload G.1 G.2.1 d_Ma_planStartOf_68 (lv_at hl 1 rfl) ?_
          refine lv_goto (tgt := 74) G.1 G.2.1 d_Ma_planStartOf_70 (by decide) ?_
          exact J_74 s_3 x4j59 H locs h hP hD hS ls (lv_sub hl [] rfl)
      refine lv_icmp_ne (tgt := 58) G.1 G.2.1 d_Ma_planStartOf_50 (by decide) (fun c50 => ?_) (fun c50 => ?_)
      · skip
        have h := h.1 c50
        refine lv_iconst (v := 0) G.1 G.2.1 d_Ma_planStartOf_58 (by decide) ?_
        exact J_59 s_j46 x3j46 x4j46 x5j46 0 H locs h hP hD hS ls (lv_sub hl [1, 2, 3] rfl)
      · skip
        have h := h.2 c50
        refine lv_bipush (v := 11) G.1 G.2.1 d_Ma_planStartOf_53 (by decide) ?_
        refine lv_goto (tgt := 59) G.1 G.2.1 d_Ma_planStartOf_55 (by decide) ?_
        exact J_59 s_j46 x3j46 x4j46 x5j46 11 H locs h hP hD hS ls (lv_sub hl [1, 2, 3] rfl)
    refine lv_icmp_ne (tgt := 46) G.1 G.2.1 d_Ma_planStartOf_27 (by decide) (fun c27 => ?_) (fun c27 => ?_)
    · skip
      have h := h.1 c27
      exact J_46 s_2 v3 v4 r_1 H locs h hP hD hS ls (lv_sub hl [1, 4, 5, 0] rfl)
    · skip
      have h := h.2 c27
      refine W.eq (g2 := F0 m 30 ls []) rfl ?_
      refine lv_aload_n G.1 G.2.1 d_Ma_planStartOf_30 rfl (lv_at hl 1 rfl) ?_
      refine ugf (v := .ref (ad (lk a0 0))) G hP h_a0 iMa rfl 0 (by decide) rfl q1065 rfl rfl d_Ma_planStartOf_31 ?_
      refine lv_iload_n G.1 G.2.1 d_Ma_planStartOf_34 rfl (lv_at hl 2 rfl) ?_
      refine lv_bipush (v := 14) G.1 G.2.1 d_Ma_planStartOf_35 (by decide) ?_
      refine ucVi (As := [.int v1, .int 14]) (rest := []) G hP hD hS (cu_Wd_of l D g ad y _ s_2 (lk a0 0) v1 14 H.size (lk_4_0 h_a0) h) w9_Wd_of q1810 ⟨Nat.le_of_ble_eq_true rfl, Nat.le_of_ble_eq_true rfl⟩ rfl rfl (lk_4_0 h_a0) (q := (RWd, TWd, 17)) rfl rfl hl.1 rfl (Nat.le_of_ble_eq_true rfl) rfl ⟨Nat.le_refl _, Nat.le_refl _⟩ d_Ma_planStartOf_37 (fun r_4 s_5 H locs h hP hD hS => ?_)
      refine lv_iload_n G.1 G.2.1 d_Ma_planStartOf_40 rfl (lv_at hl 3 rfl) ?_
      refine lv_icmp_eq (tgt := 46) G.1 G.2.1 d_Ma_planStartOf_41 (by decide) (fun c41 => ?_) (fun c41 => ?_)
      · skip
        have h := h.1 c41
        exact J_46 s_5 v3 v4 r_1 H locs h hP hD hS ls (lv_sub hl [1, 4, 5, 0] rfl)
      · skip
        have h := h.2 c41
        refine lv_iconst (v := 0) G.1 G.2.1 d_Ma_planStartOf_44 (by decide) ?_
        exact hret _ _ _ _ _ _ _ ls h hP hD hS (Nat.le_refl _) (Nat.le_refl _) d_Ma_planStartOf_45
  · skip
    have h := h.2 c14
    refine lv_aload_n G.1 G.2.1 d_Ma_planStartOf_17 rfl (lv_at hl 1 rfl) ?_
    refine lv_iload_n G.1 G.2.1 d_Ma_planStartOf_18 rfl (lv_at hl 2 rfl) ?_
    refine upf G hP hD hS h 17 putV h_a0 iMa tMa tMa_ok nMa rfl (by decide) rfl q1093 rfl rfl fV rfl rfl d_Ma_planStartOf_19 (fun s_6 H locs h hP hD hS => ?_)
    refine W.eq (g2 := F0 m 22 ls []) rfl ?_
    refine lv_iconst (v := 2) G.1 G.2.1 d_Ma_planStartOf_22 (by decide) ?_
    exact hret _ _ _ _ _ _ _ ls h hP hD hS (Nat.le_refl _) (Nat.le_refl _) d_Ma_planStartOf_23
theorem q1801 : Cond.methodLink "ClassWorks$Machine" 167 y_Wd_isFace ∈ lw_ok := lw_okmem (List.mem_of_getElem? (i := 1801) (by decide +kernel)) rfl
theorem q1806 : Cond.methodLink "ClassWorks$Machine" 180 y_Ma_planStartOf ∈ lw_ok := lw_okmem (List.mem_of_getElem? (i := 1806) (by decide +kernel)) rfl
theorem q1809 : Cond.code y_Ma_planStartOf b_Ma_planStartOf 6 (some .int) ∈ lw_ok := lw_okmem (List.mem_of_getElem? (i := 1809) (by decide +kernel)) rfl
theorem q1808 : Cond.instanceMethod y_Ma_planStartOf ∈ lw_ok := lw_okmem (List.mem_of_getElem? (i := 1808) (by decide +kernel)) rfl
theorem q81 : Cond.selects y_Ma_planStartOf.cls y_Ma_planStartOf y_Ma_planStartOf ∈ lw_ok := lw_okmem (List.mem_of_getElem? (i := 81) (by decide +kernel)) rfl
theorem w9_Ma_planStartOf : CWv y_Ma_planStartOf b_Ma_planStartOf 6 (some .int) 4 ∧ Cond.instanceMethod y_Ma_planStartOf ∈ lw_ok ∧ Cond.selects y_Ma_planStartOf.cls y_Ma_planStartOf y_Ma_planStartOf ∈ lw_ok := ⟨⟨q1809, q344, by decide +kernel, by decide +kernel, by decide +kernel⟩, q1808, q81⟩
def y_Ma_planStart : MethodName := ⟨"ClassWorks$Machine", "planStart", "(LClassWorks$Runner;I)I"⟩
abbrev b_Ma_planStart : ByteArray := prog_6_method_11_code
theorem q1006 : Cond.fieldLink "ClassWorks$Machine" 158 "ClassWorks$Runner" "frames" "I" ∈ lw_ok := lw_okmem (List.mem_of_getElem? (i := 1006) (by decide +kernel)) rfl
theorem q1091 : Cond.fieldLink "ClassWorks$Machine" 77 "ClassWorks$Machine" "names" "LClassWorks$Names;" ∈ lw_ok := lw_okmem (List.mem_of_getElem? (i := 1091) (by decide +kernel)) rfl
theorem q516 : Cond.fieldLink "ClassWorks$Machine" 184 "ClassWorks$Names" "startSign" "I" ∈ lw_ok := lw_okmem (List.mem_of_getElem? (i := 516) (by decide +kernel)) rfl
theorem q1811 : Cond.methodLink "ClassWorks$Machine" 189 y_Wd_methodWith ∈ lw_ok := lw_okmem (List.mem_of_getElem? (i := 1811) (by decide +kernel)) rfl
theorem q1802 : Cond.methodLink "ClassWorks$Machine" 171 y_Wd_up ∈ lw_ok := lw_okmem (List.mem_of_getElem? (i := 1802) (by decide +kernel)) rfl
theorem q1803 : Cond.methodLink "ClassWorks$Machine" 174 Lib.Math.max.name ∈ lw_ok := lw_okmem (List.mem_of_getElem? (i := 1803) (by decide +kernel)) rfl
theorem q1804 : Cond.static Lib.Math.max.name ∈ lw_ok := lw_okmem (List.mem_of_getElem? (i := 1804) (by decide +kernel)) rfl
theorem q1805 : Cond.code Lib.Math.max.name Lib.Math.max.code 2 (some .int) ∈ lw_ok := lw_okmem (List.mem_of_getElem? (i := 1805) (by decide +kernel)) rfl
theorem d_Ma_planStart_0 : decode b_Ma_planStart 0 = .ok (.aload_n 1, 1) := by decide +kernel
theorem d_Ma_planStart_1 : decode b_Ma_planStart 1 = .ok (.getfield 119, 3) := by decide +kernel
theorem d_Ma_planStart_4 : decode b_Ma_planStart 4 = .ok (.aload_n 1, 1) := by decide +kernel
theorem d_Ma_planStart_5 : decode b_Ma_planStart 5 = .ok (.getfield 116, 3) := by decide +kernel
theorem d_Ma_planStart_8 : decode b_Ma_planStart 8 = .ok (.iconst 1, 1) := by decide +kernel
theorem d_Ma_planStart_9 : decode b_Ma_planStart 9 = .ok (.isub, 1) := by decide +kernel
theorem d_Ma_planStart_10 : decode b_Ma_planStart 10 = .ok (.iaload, 1) := by decide +kernel
theorem d_Ma_planStart_11 : decode b_Ma_planStart 11 = .ok (.istore_n 3, 1) := by decide +kernel
theorem d_Ma_planStart_12 : decode b_Ma_planStart 12 = .ok (.aload_n 0, 1) := by decide +kernel
theorem d_Ma_planStart_13 : decode b_Ma_planStart 13 = .ok (.getfield 69, 3) := by decide +kernel
theorem d_Ma_planStart_16 : decode b_Ma_planStart 16 = .ok (.iload_n 3, 1) := by decide +kernel
theorem d_Ma_planStart_17 : decode b_Ma_planStart 17 = .ok (.invokevirtual 167, 3) := by decide +kernel
theorem d_Ma_planStart_20 : decode b_Ma_planStart 20 = .ok (.ifCond .eq 7, 3) := by decide +kernel
theorem d_Ma_planStart_23 : decode b_Ma_planStart 23 = .ok (.iconst 0, 1) := by decide +kernel
theorem d_Ma_planStart_24 : decode b_Ma_planStart 24 = .ok (.goto 15, 3) := by decide +kernel
theorem d_Ma_planStart_27 : decode b_Ma_planStart 27 = .ok (.aload_n 0, 1) := by decide +kernel
theorem d_Ma_planStart_28 : decode b_Ma_planStart 28 = .ok (.getfield 69, 3) := by decide +kernel
theorem d_Ma_planStart_31 : decode b_Ma_planStart 31 = .ok (.iload_n 3, 1) := by decide +kernel
theorem d_Ma_planStart_32 : decode b_Ma_planStart 32 = .ok (.invokevirtual 171, 3) := by decide +kernel
theorem d_Ma_planStart_35 : decode b_Ma_planStart 35 = .ok (.iconst 0, 1) := by decide +kernel
theorem d_Ma_planStart_36 : decode b_Ma_planStart 36 = .ok (.invokestatic 174, 3) := by decide +kernel
theorem d_Ma_planStart_39 : decode b_Ma_planStart 39 = .ok (.istore 4, 2) := by decide +kernel
theorem d_Ma_planStart_41 : decode b_Ma_planStart 41 = .ok (.aload_n 0, 1) := by decide +kernel
theorem d_Ma_planStart_42 : decode b_Ma_planStart 42 = .ok (.iload 4, 2) := by decide +kernel
theorem d_Ma_planStart_44 : decode b_Ma_planStart 44 = .ok (.iload_n 2, 1) := by decide +kernel
theorem d_Ma_planStart_45 : decode b_Ma_planStart 45 = .ok (.iconst 3, 1) := by decide +kernel
theorem d_Ma_planStart_46 : decode b_Ma_planStart 46 = .ok (.iconst 4, 1) := by decide +kernel
theorem d_Ma_planStart_47 : decode b_Ma_planStart 47 = .ok (.invokevirtual 180, 3) := by decide +kernel
theorem d_Ma_planStart_50 : decode b_Ma_planStart 50 = .ok (.istore 5, 2) := by decide +kernel
theorem d_Ma_planStart_52 : decode b_Ma_planStart 52 = .ok (.iload 5, 2) := by decide +kernel
theorem d_Ma_planStart_54 : decode b_Ma_planStart 54 = .ok (.iconst 3, 1) := by decide +kernel
theorem d_Ma_planStart_55 : decode b_Ma_planStart 55 = .ok (.if_icmp .ne 38, 3) := by decide +kernel
theorem d_Ma_planStart_58 : decode b_Ma_planStart 58 = .ok (.aload_n 1, 1) := by decide +kernel
theorem d_Ma_planStart_59 : decode b_Ma_planStart 59 = .ok (.getfield 158, 3) := by decide +kernel
theorem d_Ma_planStart_62 : decode b_Ma_planStart 62 = .ok (.bipush 40, 2) := by decide +kernel
theorem d_Ma_planStart_64 : decode b_Ma_planStart 64 = .ok (.if_icmp .ne 29, 3) := by decide +kernel
theorem d_Ma_planStart_67 : decode b_Ma_planStart 67 = .ok (.aload_n 0, 1) := by decide +kernel
theorem d_Ma_planStart_68 : decode b_Ma_planStart 68 = .ok (.getfield 69, 3) := by decide +kernel
theorem d_Ma_planStart_71 : decode b_Ma_planStart 71 = .ok (.iload_n 3, 1) := by decide +kernel
theorem d_Ma_planStart_72 : decode b_Ma_planStart 72 = .ok (.aload_n 0, 1) := by decide +kernel
theorem d_Ma_planStart_73 : decode b_Ma_planStart 73 = .ok (.getfield 77, 3) := by decide +kernel
theorem d_Ma_planStart_76 : decode b_Ma_planStart 76 = .ok (.getfield 184, 3) := by decide +kernel
theorem d_Ma_planStart_79 : decode b_Ma_planStart 79 = .ok (.invokevirtual 189, 3) := by decide +kernel
theorem d_Ma_planStart_82 : decode b_Ma_planStart 82 = .ok (.ifCond .lt 11, 3) := by decide +kernel
theorem d_Ma_planStart_85 : decode b_Ma_planStart 85 = .ok (.aload_n 0, 1) := by decide +kernel
theorem d_Ma_planStart_86 : decode b_Ma_planStart 86 = .ok (.bipush 20, 2) := by decide +kernel
theorem d_Ma_planStart_88 : decode b_Ma_planStart 88 = .ok (.putfield 60, 3) := by decide +kernel
theorem d_Ma_planStart_91 : decode b_Ma_planStart 91 = .ok (.iconst 4, 1) := by decide +kernel
theorem d_Ma_planStart_92 : decode b_Ma_planStart 92 = .ok (.ireturn, 1) := by decide +kernel
theorem d_Ma_planStart_93 : decode b_Ma_planStart 93 = .ok (.iload 5, 2) := by decide +kernel
theorem d_Ma_planStart_95 : decode b_Ma_planStart 95 = .ok (.ireturn, 1) := by decide +kernel
abbrev ru_Ma_planStart : Room := { frames := 2, cells := 0, slots := 0, locals := 47 }
def wj_Ma_planStart_93 (y : Ly) (Post : St → Int32 → Prop) (a0 : Nat) (a1 : Nat) (s_j93 : St) (x5j93 : Int32) : Prop := Post s_j93 x5j93
def wj_Ma_planStart_39 (y : Ly) (Post : St → Int32 → Prop) (a0 : Nat) (a1 : Nat) (s_j39 : St) (x2j39 : Int32) (x3j39 : Int32) (z0j39 : Int32) : Prop := wu_Ma_planStartOf y (fun (s_5 : St) (r_4 : Int32) => ((¬ r_4 = 3 → wj_Ma_planStart_93 y Post a0 a1 s_5 r_4) ∧ (r_4 = 3 → ((¬ (sV s_5 a1 10) = 40 → wj_Ma_planStart_93 y Post a0 a1 s_5 r_4) ∧ ((sV s_5 a1 10) = 40 → wu_Wd_methodWith y (fun (s_7 : St) (r_6 : Int32) => ((r_6 < 0 → wj_Ma_planStart_93 y Post a0 a1 s_7 r_4) ∧ (¬ (r_6 < 0) → xP (uV s_7 a0 16 20) (fun s_8 : St => Post s_8 4)))) s_5 (lk a0 0) x3j39 (sV s_5 (lk a0 15) 10)))))) s_j39 a0 z0j39 x2j39 3 4
def wu_Ma_planStart (y : Ly) (Post : St → Int32 → Prop) (σ : St) (a0 : Nat) (a1 : Nat) (v2 : Int32) : Prop := xA y σ a1 17 ((sV σ a1 16) - 1) (fun x_1 : Int32 => wu_Wd_isFace y (fun (s_3 : St) (r_2 : Int32) => ((r_2 = 0 → wu_Wd_up y (fun (s_10 : St) (r_9 : Int32) => wj_Ma_planStart_39 y Post a0 a1 s_10 v2 x_1 (if r_9 < 0 then 0 else r_9)) s_3 (lk a0 0) x_1) ∧ (¬ (r_2 = 0) → wj_Ma_planStart_39 y Post a0 a1 s_3 v2 x_1 0))) σ (lk a0 0) x_1)
set_option maxHeartbeats 4000000 in
set_option maxRecDepth 100000 in
theorem cu_Ma_planStart (l : Launch) (D : va_G) (g : Nat → ClassId) (ad : Nat → Nat) (y : Ly) (Post : St → Int32 → Prop) (σ : St) (a0 : Nat) (a1 : Nat) (v2 : Int32) (sz : Nat) (h_a0 : cl a0 = 4) (h_a1 : cl a1 = 7) (h : wu_Ma_planStart y Post σ a0 a1 v2) : Met l y_Ma_planStart (mw y_Ma_planStart b_Ma_planStart 6 (some .int)) ru_Ma_planStart (PC g D [] [.ref (ad a0), .ref (ad a1), .int v2] sz (ws g ad y σ)) (va_Qi (fun (r : Int32) (u : St) => Post u r) (QW D (va_A (ws g ad y σ) sz) (fun u => ws g ad y u)) (va_A (ws g ad y σ) sz)) 0 0 (va_A (ws g ad y σ) sz) := by
  refine ofI (by decide +kernel) (Nat.le_of_ble_eq_true rfl) ?_
  intro p e s m args below meth c A Q ls H locs G hsz hP hD hS hl hret
  subst hsz
  have hl : lv_has ls 6 [(0, .ref (ad a0)), (1, .ref (ad a1)), (2, .int v2)] := hl
  unfold wu_Ma_planStart at h
  refine lv_aload_n G.1 G.2.1 d_Ma_planStart_0 rfl (lv_at hl 1 rfl) ?_
  refine ugf (v := .ref (yP y a1 17)) G hP h_a1 iRu rfl 17 (by decide) rfl q1024 rfl rfl d_Ma_planStart_1 ?_
  refine lv_aload_n G.1 G.2.1 d_Ma_planStart_4 rfl (lv_at hl 1 rfl) ?_
  refine ugf (v := .int (sV σ a1 16)) G hP h_a1 iRu rfl 16 (by decide) rfl q1022 rfl rfl d_Ma_planStart_5 ?_
  refine lv_iconst (v := 1) G.1 G.2.1 d_Ma_planStart_8 (by decide) ?_
  refine lv_isub G.1 G.2.1 d_Ma_planStart_9 ?_
  refine uiald G hP (kdp h_a1 rfl) (typ h_a1 rfl) h d_Ma_planStart_10 (fun x_1 h => ?_)
  refine lv_istore_n (lv' := [(3, .int x_1), (0, .ref (ad a0)), (1, .ref (ad a1)), (2, .int v2)]) G.1 G.2.1 d_Ma_planStart_11 rfl hl (by decide) rfl (fun ls hl => ?_)
  refine lv_aload_n G.1 G.2.1 d_Ma_planStart_12 rfl (lv_at hl 1 rfl) ?_
  refine ugf (v := .ref (ad (lk a0 0))) G hP h_a0 iMa rfl 0 (by decide) rfl q1065 rfl rfl d_Ma_planStart_13 ?_
  refine lv_iload_n G.1 G.2.1 d_Ma_planStart_16 rfl (lv_at hl 0 rfl) ?_
  refine W.eq (g2 := F0 m 17 ls [.int x_1, .ref (ad (lk a0 0))]) rfl ?_
  refine ucVi (As := [.int x_1]) (rest := []) G hP hD hS (cu_Wd_isFace l D g ad y _ σ (lk a0 0) x_1 H.size (lk_4_0 h_a0) h) w9_Wd_isFace q1801 ⟨Nat.le_of_ble_eq_true rfl, Nat.le_of_ble_eq_true rfl⟩ rfl rfl (lk_4_0 h_a0) (q := (RWd, TWd, 17)) rfl rfl hl.1 rfl (Nat.le_of_ble_eq_true rfl) rfl ⟨Nat.le_refl _, Nat.le_refl _⟩ d_Ma_planStart_17 (fun r_2 s_3 H locs h hP hD hS => ?_)
  have J_39 : ∀ (s_j39 : St) (x2j39 : Int32) (x3j39 : Int32) (z0j39 : Int32) (H : Heap) (locs : List Loc), wj_Ma_planStart_39 y Post a0 a1 s_j39 x2j39 x3j39 z0j39 → va_P D CL (ws g ad y s_j39) H → va_D A (ws g ad y s_j39) → va_S A s.heap H locs → ∀ ls, lv_has ls 6 [(0, .ref (ad a0)), (1, .ref (ad a1)), (2, .int x2j39), (3, .int x3j39)] → W p l e ru_Ma_planStart s m args below meth c H locs 0 0 Q (F0 m 39 ls [.int z0j39]) := by
    intro s_j39 x2j39 x3j39 z0j39 H locs h hP hD hS ls hl
    unfold wj_Ma_planStart_39 at h
    refine lv_istore (lv' := [(4, .int z0j39), (0, .ref (ad a0)), (1, .ref (ad a1)), (2, .int x2j39), (3, .int x3j39)]) G.1 G.2.1 d_Ma_planStart_39 hl (by decide) rfl (fun ls hl => ?_)
    refine lv_aload_n G.1 G.2.1 d_Ma_planStart_41 rfl (lv_at hl 1 rfl) ?_
    refine lv_iload G.1 G.2.1 d_Ma_planStart_42 (lv_at hl 0 rfl) ?_
    refine lv_iload_n G.1 G.2.1 d_Ma_planStart_44 rfl (lv_at hl 3 rfl) ?_
    refine lv_iconst (v := 3) G.1 G.2.1 d_Ma_planStart_45 (by decide) ?_
    refine lv_iconst (v := 4) G.1 G.2.1 d_Ma_planStart_46 (by decide) ?_
    refine ucVi (As := [.int z0j39, .int x2j39, .int 3, .int 4]) (rest := []) G hP hD hS (cu_Ma_planStartOf l D g ad y _ s_j39 a0 z0j39 x2j39 3 4 H.size h_a0 h) w9_Ma_planStartOf q1806 ⟨Nat.le_of_ble_eq_true rfl, Nat.le_of_ble_eq_true rfl⟩ rfl rfl h_a0 (q := (RMa, TMa, 19)) rfl rfl hl.1 rfl (Nat.le_of_ble_eq_true rfl) rfl ⟨Nat.le_refl _, Nat.le_refl _⟩ d_Ma_planStart_47 (fun r_4 s_5 H locs h hP hD hS => ?_)
    refine lv_istore (lv' := [(5, .int r_4), (4, .int z0j39), (0, .ref (ad a0)), (1, .ref (ad a1)), (2, .int x2j39), (3, .int x3j39)]) G.1 G.2.1 d_Ma_planStart_50 hl (by decide) rfl (fun ls hl => ?_)
    refine lv_iload G.1 G.2.1 d_Ma_planStart_52 (lv_at hl 0 rfl) ?_
    refine lv_iconst (v := 3) G.1 G.2.1 d_Ma_planStart_54 (by decide) ?_
    have J_93 : ∀ (s_j93 : St) (x5j93 : Int32) (H : Heap) (locs : List Loc), wj_Ma_planStart_93 y Post a0 a1 s_j93 x5j93 → va_P D CL (ws g ad y s_j93) H → va_D A (ws g ad y s_j93) → va_S A s.heap H locs → ∀ ls, lv_has ls 6 [(5, .int x5j93)] → W p l e ru_Ma_planStart s m args below meth c H locs 0 0 Q (F0 m 93 ls []) := by
      intro s_j93 x5j93 H locs h hP hD hS ls hl
      unfold wj_Ma_planStart_93 at h
      refine lv_iload G.1 G.2.1 d_Ma_planStart_93 (lv_at hl 0 rfl) ?_
      exact hret _ _ _ _ _ _ _ ls h hP hD hS (Nat.le_refl _) (Nat.le_refl _) d_Ma_planStart_95
    refine lv_icmp_ne (tgt := 93) G.1 G.2.1 d_Ma_planStart_55 (by decide) (fun c55 => ?_) (fun c55 => ?_)
    · skip
      have h := h.1 c55
      exact J_93 s_5 r_4 H locs h hP hD hS ls (lv_sub hl [0] rfl)
    · skip
      have h := h.2 c55
      refine W.eq (g2 := F0 m 58 ls []) rfl ?_
      refine lv_aload_n G.1 G.2.1 d_Ma_planStart_58 rfl (lv_at hl 3 rfl) ?_
      refine ugf (v := .int (sV s_5 a1 10)) G hP h_a1 iRu rfl 10 (by decide) rfl q1006 rfl rfl d_Ma_planStart_59 ?_
      refine lv_bipush (v := 40) G.1 G.2.1 d_Ma_planStart_62 (by decide) ?_
      refine lv_icmp_ne (tgt := 93) G.1 G.2.1 d_Ma_planStart_64 (by decide) (fun c64 => ?_) (fun c64 => ?_)
      · skip
        have h := h.1 c64
        exact J_93 s_5 r_4 H locs h hP hD hS ls (lv_sub hl [0] rfl)
      · skip
        have h := h.2 c64
        refine lv_aload_n G.1 G.2.1 d_Ma_planStart_67 rfl (lv_at hl 2 rfl) ?_
        refine ugf (v := .ref (ad (lk a0 0))) G hP h_a0 iMa rfl 0 (by decide) rfl q1065 rfl rfl d_Ma_planStart_68 ?_
        refine lv_iload_n G.1 G.2.1 d_Ma_planStart_71 rfl (lv_at hl 5 rfl) ?_
        refine lv_aload_n G.1 G.2.1 d_Ma_planStart_72 rfl (lv_at hl 2 rfl) ?_
        refine ugf (v := .ref (ad (lk a0 15))) G hP h_a0 iMa rfl 15 (by decide) rfl q1091 rfl rfl d_Ma_planStart_73 ?_
        refine ugf (v := .int (sV s_5 (lk a0 15) 10)) G hP (lk_4_15 h_a0) iNa rfl 10 (by decide) rfl q516 rfl rfl d_Ma_planStart_76 ?_
        refine ucVi (As := [.int x3j39, .int (sV s_5 (lk a0 15) 10)]) (rest := []) G hP hD hS (cu_Wd_methodWith l D g ad y _ s_5 (lk a0 0) x3j39 (sV s_5 (lk a0 15) 10) H.size (lk_4_0 h_a0) h) w9_Wd_methodWith q1811 ⟨Nat.le_of_ble_eq_true rfl, Nat.le_of_ble_eq_true rfl⟩ rfl rfl (lk_4_0 h_a0) (q := (RWd, TWd, 17)) rfl rfl hl.1 rfl (Nat.le_of_ble_eq_true rfl) rfl ⟨Nat.le_refl _, Nat.le_refl _⟩ d_Ma_planStart_79 (fun r_6 s_7 H locs h hP hD hS => ?_)
        refine lv_if_lt (tgt := 93) G.1 G.2.1 d_Ma_planStart_82 (by decide) (fun c82 => ?_) (fun c82 => ?_)
        · skip
          have h := h.1 c82
          exact J_93 s_7 r_4 H locs h hP hD hS ls (lv_sub hl [0] rfl)
        · skip
          have h := h.2 c82
          refine W.eq (g2 := F0 m 85 ls []) rfl ?_
          refine lv_aload_n G.1 G.2.1 d_Ma_planStart_85 rfl (lv_at hl 2 rfl) ?_
          refine lv_bipush (v := 20) G.1 G.2.1 d_Ma_planStart_86 (by decide) ?_
          refine upf G hP hD hS h 16 putV h_a0 iMa tMa tMa_ok nMa rfl (by decide) rfl q1092 rfl rfl fV rfl rfl d_Ma_planStart_88 (fun s_8 H locs h hP hD hS => ?_)
          refine lv_iconst (v := 4) G.1 G.2.1 d_Ma_planStart_91 (by decide) ?_
          exact hret _ _ _ _ _ _ _ ls h hP hD hS (Nat.le_refl _) (Nat.le_refl _) d_Ma_planStart_92
  refine lv_if_eq (tgt := 27) G.1 G.2.1 d_Ma_planStart_20 (by decide) (fun c20 => ?_) (fun c20 => ?_)
  · skip
    have h := h.1 c20
    refine lv_aload_n G.1 G.2.1 d_Ma_planStart_27 rfl (lv_at hl 1 rfl) ?_
    refine ugf (v := .ref (ad (lk a0 0))) G hP h_a0 iMa rfl 0 (by decide) rfl q1065 rfl rfl d_Ma_planStart_28 ?_
    refine lv_iload_n G.1 G.2.1 d_Ma_planStart_31 rfl (lv_at hl 0 rfl) ?_
    refine ucVi (As := [.int x_1]) (rest := []) G hP hD hS (cu_Wd_up l D g ad y _ s_3 (lk a0 0) x_1 H.size (lk_4_0 h_a0) h) w9_Wd_up q1802 ⟨Nat.le_of_ble_eq_true rfl, Nat.le_of_ble_eq_true rfl⟩ rfl rfl (lk_4_0 h_a0) (q := (RWd, TWd, 17)) rfl rfl hl.1 rfl (Nat.le_of_ble_eq_true rfl) rfl ⟨Nat.le_refl _, Nat.le_refl _⟩ d_Ma_planStart_32 (fun r_9 s_10 H locs h hP hD hS => ?_)
    refine lv_iconst (v := 0) G.1 G.2.1 d_Ma_planStart_35 (by decide) ?_
    refine va_mmax G.1 G.2.1 (G.2.2.1.trans hl.1.symm) G.2.2.2.2.2.2.1 (G.2.2.2.2.2.1 _ q1803) (G.2.2.2.2.2.1 _ q1804) (G.2.2.2.2.2.1 _ q337) (G.2.2.2.2.2.1 _ q1805) (Nat.le_of_ble_eq_true rfl) (Nat.le_of_ble_eq_true rfl) (Nat.zero_le _) (Nat.zero_le _) d_Ma_planStart_36 ?_
    exact J_39 s_10 v2 x_1 (if r_9 < 0 then 0 else r_9) H locs h hP hD hS ls (lv_sub hl [1, 2, 3, 0] rfl)
  · skip
    have h := h.2 c20
    refine lv_iconst (v := 0) G.1 G.2.1 d_Ma_planStart_23 (by decide) ?_
    refine lv_goto (tgt := 39) G.1 G.2.1 d_Ma_planStart_24 (by decide) ?_
    exact J_39 s_3 v2 x_1 0 H locs h hP hD hS ls (lv_sub hl [1, 2, 3, 0] rfl)
def y_Fi_nameClass : MethodName := ⟨"ClassWorks$Finder", "nameClass", "(LClassWorks$World;I)I"⟩
abbrev b_Fi_nameClass : ByteArray := prog_3_method_10_code
theorem q1824 : Cond.methodLink "ClassWorks$Finder" 166 y_Wd_number ∈ lw_ok := lw_okmem (List.mem_of_getElem? (i := 1824) (by decide +kernel)) rfl
theorem q732 : Cond.fieldLink "ClassWorks$Finder" 18 "ClassWorks$Finder" "named" "I" ∈ lw_ok := lw_okmem (List.mem_of_getElem? (i := 732) (by decide +kernel)) rfl
theorem d_Fi_nameClass_0 : decode b_Fi_nameClass 0 = .ok (.aload_n 0, 1) := by decide +kernel
theorem d_Fi_nameClass_1 : decode b_Fi_nameClass 1 = .ok (.aload_n 1, 1) := by decide +kernel
theorem d_Fi_nameClass_2 : decode b_Fi_nameClass 2 = .ok (.iload_n 2, 1) := by decide +kernel
theorem d_Fi_nameClass_3 : decode b_Fi_nameClass 3 = .ok (.invokevirtual 166, 3) := by decide +kernel
theorem d_Fi_nameClass_6 : decode b_Fi_nameClass 6 = .ok (.putfield 18, 3) := by decide +kernel
theorem d_Fi_nameClass_9 : decode b_Fi_nameClass 9 = .ok (.aload_n 0, 1) := by decide +kernel
theorem d_Fi_nameClass_10 : decode b_Fi_nameClass 10 = .ok (.getfield 18, 3) := by decide +kernel
theorem d_Fi_nameClass_13 : decode b_Fi_nameClass 13 = .ok (.ifCond .ge 7, 3) := by decide +kernel
theorem d_Fi_nameClass_16 : decode b_Fi_nameClass 16 = .ok (.sipush 5011, 3) := by decide +kernel
theorem d_Fi_nameClass_19 : decode b_Fi_nameClass 19 = .ok (.ireturn, 1) := by decide +kernel
theorem d_Fi_nameClass_20 : decode b_Fi_nameClass 20 = .ok (.aload_n 1, 1) := by decide +kernel
theorem d_Fi_nameClass_21 : decode b_Fi_nameClass 21 = .ok (.aload_n 0, 1) := by decide +kernel
theorem d_Fi_nameClass_22 : decode b_Fi_nameClass 22 = .ok (.getfield 18, 3) := by decide +kernel
theorem d_Fi_nameClass_25 : decode b_Fi_nameClass 25 = .ok (.bipush 12, 2) := by decide +kernel
theorem d_Fi_nameClass_27 : decode b_Fi_nameClass 27 = .ok (.invokevirtual 51, 3) := by decide +kernel
theorem d_Fi_nameClass_30 : decode b_Fi_nameClass 30 = .ok (.istore_n 3, 1) := by decide +kernel
theorem d_Fi_nameClass_31 : decode b_Fi_nameClass 31 = .ok (.iload_n 3, 1) := by decide +kernel
theorem d_Fi_nameClass_32 : decode b_Fi_nameClass 32 = .ok (.ifCond .ne 7, 3) := by decide +kernel
theorem d_Fi_nameClass_35 : decode b_Fi_nameClass 35 = .ok (.iconst (-1), 1) := by decide +kernel
theorem d_Fi_nameClass_36 : decode b_Fi_nameClass 36 = .ok (.goto 13, 3) := by decide +kernel
theorem d_Fi_nameClass_39 : decode b_Fi_nameClass 39 = .ok (.iload_n 3, 1) := by decide +kernel
theorem d_Fi_nameClass_40 : decode b_Fi_nameClass 40 = .ok (.iconst 1, 1) := by decide +kernel
theorem d_Fi_nameClass_41 : decode b_Fi_nameClass 41 = .ok (.if_icmp .ne 7, 3) := by decide +kernel
theorem d_Fi_nameClass_44 : decode b_Fi_nameClass 44 = .ok (.iconst 0, 1) := by decide +kernel
theorem d_Fi_nameClass_45 : decode b_Fi_nameClass 45 = .ok (.goto 4, 3) := by decide +kernel
theorem d_Fi_nameClass_48 : decode b_Fi_nameClass 48 = .ok (.iload_n 3, 1) := by decide +kernel
theorem d_Fi_nameClass_49 : decode b_Fi_nameClass 49 = .ok (.ireturn, 1) := by decide +kernel
abbrev ru_Fi_nameClass : Room := { frames := 1, cells := 0, slots := 0, locals := 22 }
def wj_Fi_nameClass_49 (y : Ly) (Post : St → Int32 → Prop) (a0 : Nat) (a1 : Nat) (s_j49 : St) (z0j49 : Int32) : Prop := Post s_j49 z0j49
def wu_Fi_nameClass (y : Ly) (Post : St → Int32 → Prop) (σ : St) (a0 : Nat) (a1 : Nat) (v2 : Int32) : Prop := wu_Wd_number y (fun (s_2 : St) (r_1 : Int32) => xP (uV s_2 a0 2 r_1) (fun s_3 : St => ((0 ≤ (sV s_3 a0 2) → wu_Wd_of y (fun (s_5 : St) (r_4 : Int32) => ((¬ r_4 = 0 → ((¬ r_4 = 1 → wj_Fi_nameClass_49 y Post a0 a1 s_5 r_4) ∧ (r_4 = 1 → wj_Fi_nameClass_49 y Post a0 a1 s_5 0))) ∧ (r_4 = 0 → wj_Fi_nameClass_49 y Post a0 a1 s_5 (-1)))) s_3 a1 (sV s_3 a0 2) 12) ∧ (¬ (0 ≤ (sV s_3 a0 2)) → Post s_3 5011)))) σ a1 v2
set_option maxHeartbeats 4000000 in
set_option maxRecDepth 100000 in
theorem cu_Fi_nameClass (l : Launch) (D : va_G) (g : Nat → ClassId) (ad : Nat → Nat) (y : Ly) (Post : St → Int32 → Prop) (σ : St) (a0 : Nat) (a1 : Nat) (v2 : Int32) (sz : Nat) (h_a0 : cl a0 = 1) (h_a1 : cl a1 = 9) (h : wu_Fi_nameClass y Post σ a0 a1 v2) : Met l y_Fi_nameClass (mw y_Fi_nameClass b_Fi_nameClass 4 (some .int)) ru_Fi_nameClass (PC g D [] [.ref (ad a0), .ref (ad a1), .int v2] sz (ws g ad y σ)) (va_Qi (fun (r : Int32) (u : St) => Post u r) (QW D (va_A (ws g ad y σ) sz) (fun u => ws g ad y u)) (va_A (ws g ad y σ) sz)) 0 0 (va_A (ws g ad y σ) sz) := by
  refine ofI (by decide +kernel) (Nat.le_of_ble_eq_true rfl) ?_
  intro p e s m args below meth c A Q ls H locs G hsz hP hD hS hl hret
  subst hsz
  have hl : lv_has ls 4 [(0, .ref (ad a0)), (1, .ref (ad a1)), (2, .int v2)] := hl
  unfold wu_Fi_nameClass at h
  refine lv_aload_n G.1 G.2.1 d_Fi_nameClass_0 rfl (lv_at hl 0 rfl) ?_
  refine lv_aload_n G.1 G.2.1 d_Fi_nameClass_1 rfl (lv_at hl 1 rfl) ?_
  refine lv_iload_n G.1 G.2.1 d_Fi_nameClass_2 rfl (lv_at hl 2 rfl) ?_
  refine ucVi (As := [.int v2]) (rest := [.ref (ad a0)]) G hP hD hS (cu_Wd_number l D g ad y _ σ a1 v2 H.size h_a1 h) w9_Wd_number q1824 ⟨Nat.le_of_ble_eq_true rfl, Nat.le_of_ble_eq_true rfl⟩ rfl rfl h_a1 (q := (RWd, TWd, 17)) rfl rfl hl.1 rfl (Nat.le_of_ble_eq_true rfl) rfl ⟨Nat.le_refl _, Nat.le_refl _⟩ d_Fi_nameClass_3 (fun r_1 s_2 H locs h hP hD hS => ?_)
  refine upf G hP hD hS h 2 putV h_a0 iFi tFi tFi_ok nFi rfl (by decide) rfl q732 rfl rfl fV rfl rfl d_Fi_nameClass_6 (fun s_3 H locs h hP hD hS => ?_)
  refine lv_aload_n G.1 G.2.1 d_Fi_nameClass_9 rfl (lv_at hl 0 rfl) ?_
  refine ugf (v := .int (sV s_3 a0 2)) G hP h_a0 iFi rfl 2 (by decide) rfl q732 rfl rfl d_Fi_nameClass_10 ?_
  refine lv_if_ge (tgt := 20) G.1 G.2.1 d_Fi_nameClass_13 (by decide) (fun c13 => ?_) (fun c13 => ?_)
  · skip
    have h := h.1 c13
    refine lv_aload_n G.1 G.2.1 d_Fi_nameClass_20 rfl (lv_at hl 1 rfl) ?_
    refine lv_aload_n G.1 G.2.1 d_Fi_nameClass_21 rfl (lv_at hl 0 rfl) ?_
    refine ugf (v := .int (sV s_3 a0 2)) G hP h_a0 iFi rfl 2 (by decide) rfl q732 rfl rfl d_Fi_nameClass_22 ?_
    refine W.eq (g2 := F0 m 25 ls [.int (sV s_3 a0 2), .ref (ad a1)]) rfl ?_
    refine lv_bipush (v := 12) G.1 G.2.1 d_Fi_nameClass_25 (by decide) ?_
    refine ucVi (As := [.int (sV s_3 a0 2), .int 12]) (rest := []) G hP hD hS (cu_Wd_of l D g ad y _ s_3 a1 (sV s_3 a0 2) 12 H.size h_a1 h) w9_Wd_of q1532 ⟨Nat.le_of_ble_eq_true rfl, Nat.le_of_ble_eq_true rfl⟩ rfl rfl h_a1 (q := (RWd, TWd, 17)) rfl rfl hl.1 rfl (Nat.le_of_ble_eq_true rfl) rfl ⟨Nat.le_refl _, Nat.le_refl _⟩ d_Fi_nameClass_27 (fun r_4 s_5 H locs h hP hD hS => ?_)
    refine lv_istore_n (lv' := [(3, .int r_4), (0, .ref (ad a0)), (1, .ref (ad a1)), (2, .int v2)]) G.1 G.2.1 d_Fi_nameClass_30 rfl hl (by decide) rfl (fun ls hl => ?_)
    refine lv_iload_n G.1 G.2.1 d_Fi_nameClass_31 rfl (lv_at hl 0 rfl) ?_
    have J_49 : ∀ (s_j49 : St) (z0j49 : Int32) (H : Heap) (locs : List Loc), wj_Fi_nameClass_49 y Post a0 a1 s_j49 z0j49 → va_P D CL (ws g ad y s_j49) H → va_D A (ws g ad y s_j49) → va_S A s.heap H locs → ∀ ls, lv_has ls 4 [] → W p l e ru_Fi_nameClass s m args below meth c H locs 0 0 Q (F0 m 49 ls [.int z0j49]) := by
      intro s_j49 z0j49 H locs h hP hD hS ls hl
      unfold wj_Fi_nameClass_49 at h
      exact hret _ _ _ _ _ _ _ ls h hP hD hS (Nat.le_refl _) (Nat.le_refl _) d_Fi_nameClass_49
    refine lv_if_ne (tgt := 39) G.1 G.2.1 d_Fi_nameClass_32 (by decide) (fun c32 => ?_) (fun c32 => ?_)
    · skip
      have h := h.1 c32
      refine lv_iload_n G.1 G.2.1 d_Fi_nameClass_39 rfl (lv_at hl 0 rfl) ?_
      refine lv_iconst (v := 1) G.1 G.2.1 d_Fi_nameClass_40 (by decide) ?_
      refine lv_icmp_ne (tgt := 48) G.1 G.2.1 d_Fi_nameClass_41 (by decide) (fun c41 => ?_) (fun c41 => ?_)
      · skip
        have h := h.1 c41
        refine lv_iload_n G.1 G.2.1 d_Fi_nameClass_48 rfl (lv_at hl 0 rfl) ?_
        exact J_49 s_5 r_4 H locs h hP hD hS ls (lv_sub hl [] rfl)
      · skip
        have h := h.2 c41
        refine lv_iconst (v := 0) G.1 G.2.1 d_Fi_nameClass_44 (by decide) ?_
        refine lv_goto (tgt := 49) G.1 G.2.1 d_Fi_nameClass_45 (by decide) ?_
        exact J_49 s_5 0 H locs h hP hD hS ls (lv_sub hl [] rfl)
    · skip
      have h := h.2 c32
      refine lv_iconst (v := (-1)) G.1 G.2.1 d_Fi_nameClass_35 (by decide) ?_
      refine lv_goto (tgt := 49) G.1 G.2.1 d_Fi_nameClass_36 (by decide) ?_
      exact J_49 s_5 (-1) H locs h hP hD hS ls (lv_sub hl [] rfl)
  · skip
    have h := h.2 c13
    refine lv_sipush (v := 5011) G.1 G.2.1 d_Fi_nameClass_16 (by decide) ?_
    exact hret _ _ _ _ _ _ _ ls h hP hD hS (Nat.le_refl _) (Nat.le_refl _) d_Fi_nameClass_19
def y_Fi_seekMethod : MethodName := ⟨"ClassWorks$Finder", "seekMethod", "(LClassWorks$World;IZ)Z"⟩
abbrev b_Fi_seekMethod : ByteArray := prog_3_method_18_code
theorem q726 : Cond.fieldLink "ClassWorks$Finder" 9 "ClassWorks$Finder" "cls" "I" ∈ lw_ok := lw_okmem (List.mem_of_getElem? (i := 726) (by decide +kernel)) rfl
theorem q729 : Cond.fieldLink "ClassWorks$Finder" 15 "ClassWorks$Finder" "member" "I" ∈ lw_ok := lw_okmem (List.mem_of_getElem? (i := 729) (by decide +kernel)) rfl
theorem d_Fi_seekMethod_0 : decode b_Fi_seekMethod 0 = .ok (.aload_n 0, 1) := by decide +kernel
theorem d_Fi_seekMethod_1 : decode b_Fi_seekMethod 1 = .ok (.getfield 18, 3) := by decide +kernel
theorem d_Fi_seekMethod_4 : decode b_Fi_seekMethod 4 = .ok (.istore 4, 2) := by decide +kernel
theorem d_Fi_seekMethod_6 : decode b_Fi_seekMethod 6 = .ok (.iconst 0, 1) := by decide +kernel
theorem d_Fi_seekMethod_7 : decode b_Fi_seekMethod 7 = .ok (.istore 5, 2) := by decide +kernel
theorem d_Fi_seekMethod_9 : decode b_Fi_seekMethod 9 = .ok (.iload 5, 2) := by decide +kernel
theorem d_Fi_seekMethod_11 : decode b_Fi_seekMethod 11 = .ok (.bipush 51, 2) := by decide +kernel
theorem d_Fi_seekMethod_13 : decode b_Fi_seekMethod 13 = .ok (.if_icmp .ge 56, 3) := by decide +kernel
theorem d_Fi_seekMethod_16 : decode b_Fi_seekMethod 16 = .ok (.iload 4, 2) := by decide +kernel
theorem d_Fi_seekMethod_18 : decode b_Fi_seekMethod 18 = .ok (.ifCond .lt 51, 3) := by decide +kernel
theorem d_Fi_seekMethod_21 : decode b_Fi_seekMethod 21 = .ok (.aload_n 0, 1) := by decide +kernel
theorem d_Fi_seekMethod_22 : decode b_Fi_seekMethod 22 = .ok (.iload 4, 2) := by decide +kernel
theorem d_Fi_seekMethod_24 : decode b_Fi_seekMethod 24 = .ok (.putfield 9, 3) := by decide +kernel
theorem d_Fi_seekMethod_27 : decode b_Fi_seekMethod 27 = .ok (.aload_n 0, 1) := by decide +kernel
theorem d_Fi_seekMethod_28 : decode b_Fi_seekMethod 28 = .ok (.aload_n 1, 1) := by decide +kernel
theorem d_Fi_seekMethod_29 : decode b_Fi_seekMethod 29 = .ok (.iload 4, 2) := by decide +kernel
theorem d_Fi_seekMethod_31 : decode b_Fi_seekMethod 31 = .ok (.iload_n 2, 1) := by decide +kernel
theorem d_Fi_seekMethod_32 : decode b_Fi_seekMethod 32 = .ok (.invokevirtual 112, 3) := by decide +kernel
theorem d_Fi_seekMethod_35 : decode b_Fi_seekMethod 35 = .ok (.putfield 15, 3) := by decide +kernel
theorem d_Fi_seekMethod_38 : decode b_Fi_seekMethod 38 = .ok (.aload_n 0, 1) := by decide +kernel
theorem d_Fi_seekMethod_39 : decode b_Fi_seekMethod 39 = .ok (.getfield 15, 3) := by decide +kernel
theorem d_Fi_seekMethod_42 : decode b_Fi_seekMethod 42 = .ok (.ifCond .lt 5, 3) := by decide +kernel
theorem d_Fi_seekMethod_45 : decode b_Fi_seekMethod 45 = .ok (.iconst 1, 1) := by decide +kernel
theorem d_Fi_seekMethod_46 : decode b_Fi_seekMethod 46 = .ok (.ireturn, 1) := by decide +kernel
theorem d_Fi_seekMethod_47 : decode b_Fi_seekMethod 47 = .ok (.iload_n 3, 1) := by decide +kernel
theorem d_Fi_seekMethod_48 : decode b_Fi_seekMethod 48 = .ok (.ifCond .eq 7, 3) := by decide +kernel
theorem d_Fi_seekMethod_51 : decode b_Fi_seekMethod 51 = .ok (.iconst (-1), 1) := by decide +kernel
theorem d_Fi_seekMethod_52 : decode b_Fi_seekMethod 52 = .ok (.goto 9, 3) := by decide +kernel
theorem d_Fi_seekMethod_55 : decode b_Fi_seekMethod 55 = .ok (.aload_n 1, 1) := by decide +kernel
theorem d_Fi_seekMethod_56 : decode b_Fi_seekMethod 56 = .ok (.iload 4, 2) := by decide +kernel
theorem d_Fi_seekMethod_58 : decode b_Fi_seekMethod 58 = .ok (.invokevirtual 109, 3) := by decide +kernel
theorem d_Fi_seekMethod_61 : decode b_Fi_seekMethod 61 = .ok (.istore 4, 2) := by decide +kernel
theorem d_Fi_seekMethod_63 : decode b_Fi_seekMethod 63 = .ok (.iinc 5 1, 3) := by decide +kernel
theorem d_Fi_seekMethod_66 : decode b_Fi_seekMethod 66 = .ok (.goto (-57), 3) := by decide +kernel
theorem d_Fi_seekMethod_69 : decode b_Fi_seekMethod 69 = .ok (.iconst 0, 1) := by decide +kernel
theorem d_Fi_seekMethod_70 : decode b_Fi_seekMethod 70 = .ok (.ireturn, 1) := by decide +kernel
abbrev ru_Fi_seekMethod : Room := { frames := 1, cells := 0, slots := 0, locals := 25 }
def wj_Fi_seekMethod_69 (y : Ly) (Post : St → Int32 → Prop) (a0 : Nat) (a1 : Nat) (s_j69 : St) : Prop := (nb 0 ∧ Post s_j69 0)
def wj_Fi_seekMethod_61 (y : Ly) (Post : St → Int32 → Prop) (K_9 : St → Int32 → Int32 → Int32 → Int32 → Prop) (a0 : Nat) (a1 : Nat) (s_j61 : St) (x2j61 : Int32) (x3j61 : Int32) (x5j61 : Int32) (z0j61 : Int32) : Prop := K_9 s_j61 x2j61 x3j61 z0j61 (x5j61 + 1)
def wb_Fi_seekMethod_9 (y : Ly) (Post : St → Int32 → Prop) (K_9 : St → Int32 → Int32 → Int32 → Int32 → Prop) (a0 : Nat) (a1 : Nat) (s_h9 : St) (x2h9 : Int32) (x3h9 : Int32) (x4h9 : Int32) (x5h9 : Int32) : Prop := ((51 ≤ x5h9 → wj_Fi_seekMethod_69 y Post a0 a1 s_h9) ∧ (¬ (51 ≤ x5h9) → ((x4h9 < 0 → wj_Fi_seekMethod_69 y Post a0 a1 s_h9) ∧ (¬ (x4h9 < 0) → xP (uV s_h9 a0 0 x4h9) (fun s_1 : St => wu_Wd_methodWith y (fun (s_3 : St) (r_2 : Int32) => xP (uV s_3 a0 1 r_2) (fun s_4 : St => (((sV s_4 a0 1) < 0 → ((x3h9 = 0 → wu_Wd_up y (fun (s_6 : St) (r_5 : Int32) => wj_Fi_seekMethod_61 y Post K_9 a0 a1 s_6 x2h9 x3h9 x5h9 r_5) s_4 a1 x4h9) ∧ (¬ (x3h9 = 0) → wj_Fi_seekMethod_61 y Post K_9 a0 a1 s_4 x2h9 x3h9 x5h9 (-1)))) ∧ (¬ ((sV s_4 a0 1) < 0) → (nb 1 ∧ Post s_4 1))))) s_1 a1 x4h9 x2h9)))))
def wl_Fi_seekMethod_9 (y : Ly) (Post : St → Int32 → Prop) (a0 : Nat) (a1 : Nat) (s_h9 : St) (x2h9 : Int32) (x3h9 : Int32) (x4h9 : Int32) (x5h9 : Int32) : Prop := ∃ (I : St → Int32 → Int32 → Int32 → Int32 → Prop) (μ : St → Int32 → Int32 → Int32 → Int32 → Nat), I s_h9 x2h9 x3h9 x4h9 x5h9 ∧ ∀ (u : St) (t0 : Int32) (t1 : Int32) (t2 : Int32) (t3 : Int32), I u t0 t1 t2 t3 → wb_Fi_seekMethod_9 y Post (fun z t0q t1q t2q t3q => I z t0q t1q t2q t3q ∧ μ z t0q t1q t2q t3q < μ u t0 t1 t2 t3) a0 a1 u t0 t1 t2 t3
def wu_Fi_seekMethod (y : Ly) (Post : St → Int32 → Prop) (σ : St) (a0 : Nat) (a1 : Nat) (v2 : Int32) (v3 : Int32) : Prop := wl_Fi_seekMethod_9 y Post a0 a1 σ v2 v3 (sV σ a0 2) 0
set_option maxHeartbeats 4000000 in
set_option maxRecDepth 100000 in
theorem cu_Fi_seekMethod (l : Launch) (D : va_G) (g : Nat → ClassId) (ad : Nat → Nat) (y : Ly) (Post : St → Int32 → Prop) (σ : St) (a0 : Nat) (a1 : Nat) (v2 : Int32) (v3 : Int32) (sz : Nat) (h_a0 : cl a0 = 1) (h_a1 : cl a1 = 9) (h : wu_Fi_seekMethod y Post σ a0 a1 v2 v3) : Met l y_Fi_seekMethod (mw y_Fi_seekMethod b_Fi_seekMethod 6 (some (.boolean))) ru_Fi_seekMethod (PC g D [] [.ref (ad a0), .ref (ad a1), .int v2, .int v3] sz (ws g ad y σ)) (va_Qi (fun (r : Int32) (u : St) => Post u r) (QW D (va_A (ws g ad y σ) sz) (fun u => ws g ad y u)) (va_A (ws g ad y σ) sz)) 0 0 (va_A (ws g ad y σ) sz) := by
  refine ofZ (by decide +kernel) (Nat.le_of_ble_eq_true rfl) ?_
  intro p e s m args below meth c A Q ls H locs G hsz hP hD hS hl hret
  subst hsz
  have hl : lv_has ls 6 [(0, .ref (ad a0)), (1, .ref (ad a1)), (2, .int v2), (3, .int v3)] := hl
  unfold wu_Fi_seekMethod at h
  refine lv_aload_n G.1 G.2.1 d_Fi_seekMethod_0 rfl (lv_at hl 0 rfl) ?_
  refine ugf (v := .int (sV σ a0 2)) G hP h_a0 iFi rfl 2 (by decide) rfl q732 rfl rfl d_Fi_seekMethod_1 ?_
  refine lv_istore (lv' := [(4, .int (sV σ a0 2)), (0, .ref (ad a0)), (1, .ref (ad a1)), (2, .int v2), (3, .int v3)]) G.1 G.2.1 d_Fi_seekMethod_4 hl (by decide) rfl (fun ls hl => ?_)
  refine lv_iconst (v := 0) G.1 G.2.1 d_Fi_seekMethod_6 (by decide) ?_
  refine lv_istore (lv' := [(5, .int 0), (4, .int (sV σ a0 2)), (0, .ref (ad a0)), (1, .ref (ad a1)), (2, .int v2), (3, .int v3)]) G.1 G.2.1 d_Fi_seekMethod_7 hl (by decide) rfl (fun ls hl => ?_)
  unfold wl_Fi_seekMethod_9 at h
  obtain ⟨I_9, μ_9, hI_9, hB_9⟩ := h
  have L_9 : ∀ (n_9 : Nat) (s_h9 : St) (x2h9 : Int32) (x3h9 : Int32) (x4h9 : Int32) (x5h9 : Int32), μ_9 s_h9 x2h9 x3h9 x4h9 x5h9 < n_9 → I_9 s_h9 x2h9 x3h9 x4h9 x5h9 → ∀ (H : Heap) (locs : List Loc), va_P D CL (ws g ad y s_h9) H → va_D A (ws g ad y s_h9) → va_S A s.heap H locs → ∀ ls, lv_has ls 6 [(0, .ref (ad a0)), (1, .ref (ad a1)), (2, .int x2h9), (3, .int x3h9), (4, .int x4h9), (5, .int x5h9)] → W p l e ru_Fi_seekMethod s m args below meth c H locs 0 0 Q (F0 m 9 ls []) := by
    intro n_9
    induction n_9 with
    | zero => intro s_h9 x2h9 x3h9 x4h9 x5h9 hμ; exact absurd hμ (Nat.not_lt_zero _)
    | succ n_9 ih_9 =>
      intro s_h9 x2h9 x3h9 x4h9 x5h9 hμ_9 hJ H locs hP hD hS ls hl
      obtain ⟨K_9, hK_9, h⟩ : ∃ K : St → Int32 → Int32 → Int32 → Int32 → Prop, (∀ z (t0 : Int32) (t1 : Int32) (t2 : Int32) (t3 : Int32), K z t0 t1 t2 t3 → I_9 z t0 t1 t2 t3 ∧ μ_9 z t0 t1 t2 t3 < μ_9 s_h9 x2h9 x3h9 x4h9 x5h9) ∧ wb_Fi_seekMethod_9 y Post K a0 a1 s_h9 x2h9 x3h9 x4h9 x5h9 := ⟨_, fun _ _ _ _ _ h => h, hB_9 s_h9 x2h9 x3h9 x4h9 x5h9 hJ⟩
      unfold wb_Fi_seekMethod_9 at h
      refine lv_iload G.1 G.2.1 d_Fi_seekMethod_9 (lv_at hl 5 rfl) ?_
      refine lv_bipush (v := 51) G.1 G.2.1 d_Fi_seekMethod_11 (by decide) ?_
      have J_69 : ∀ (s_j69 : St) (H : Heap) (locs : List Loc), wj_Fi_seekMethod_69 y Post a0 a1 s_j69 → va_P D CL (ws g ad y s_j69) H → va_D A (ws g ad y s_j69) → va_S A s.heap H locs → ∀ ls, lv_has ls 6 [] → W p l e ru_Fi_seekMethod s m args below meth c H locs 0 0 Q (F0 m 69 ls []) := by
        intro s_j69 H locs h hP hD hS ls hl
        unfold wj_Fi_seekMethod_69 at h
        refine lv_iconst (v := 0) G.1 G.2.1 d_Fi_seekMethod_69 (by decide) ?_
        exact hret _ _ _ _ _ _ _ ls (nb_n h.1) h.2 hP hD hS (Nat.le_refl _) (Nat.le_refl _) d_Fi_seekMethod_70
      refine lv_icmp_ge (tgt := 69) G.1 G.2.1 d_Fi_seekMethod_13 (by decide) (fun c13 => ?_) (fun c13 => ?_)
      · skip
        have h := h.1 c13
        exact J_69 s_h9 H locs h hP hD hS ls (lv_sub hl [] rfl)
      · skip
        have h := h.2 c13
        refine lv_iload G.1 G.2.1 d_Fi_seekMethod_16 (lv_at hl 4 rfl) ?_
        refine lv_if_lt (tgt := 69) G.1 G.2.1 d_Fi_seekMethod_18 (by decide) (fun c18 => ?_) (fun c18 => ?_)
        · skip
          have h := h.1 c18
          exact J_69 s_h9 H locs h hP hD hS ls (lv_sub hl [] rfl)
        · skip
          have h := h.2 c18
          refine lv_aload_n G.1 G.2.1 d_Fi_seekMethod_21 rfl (lv_at hl 0 rfl) ?_
          refine lv_iload G.1 G.2.1 d_Fi_seekMethod_22 (lv_at hl 4 rfl) ?_
          refine upf G hP hD hS h 0 putV h_a0 iFi tFi tFi_ok nFi rfl (by decide) rfl q726 rfl rfl fV rfl rfl d_Fi_seekMethod_24 (fun s_1 H locs h hP hD hS => ?_)
          refine lv_aload_n G.1 G.2.1 d_Fi_seekMethod_27 rfl (lv_at hl 0 rfl) ?_
          refine lv_aload_n G.1 G.2.1 d_Fi_seekMethod_28 rfl (lv_at hl 1 rfl) ?_
          refine lv_iload G.1 G.2.1 d_Fi_seekMethod_29 (lv_at hl 4 rfl) ?_
          refine W.eq (g2 := F0 m 31 ls [.int x4h9, .ref (ad a1), .ref (ad a0)]) rfl ?_
          refine lv_iload_n G.1 G.2.1 d_Fi_seekMethod_31 rfl (lv_at hl 2 rfl) ?_
          refine ucVi (As := [.int x4h9, .int x2h9]) (rest := [.ref (ad a0)]) G hP hD hS (cu_Wd_methodWith l D g ad y _ s_1 a1 x4h9 x2h9 H.size h_a1 h) w9_Wd_methodWith q1571 ⟨Nat.le_of_ble_eq_true rfl, Nat.le_of_ble_eq_true rfl⟩ rfl rfl h_a1 (q := (RWd, TWd, 17)) rfl rfl hl.1 rfl (Nat.le_of_ble_eq_true rfl) rfl ⟨Nat.le_refl _, Nat.le_refl _⟩ d_Fi_seekMethod_32 (fun r_2 s_3 H locs h hP hD hS => ?_)
          refine upf G hP hD hS h 1 putV h_a0 iFi tFi tFi_ok nFi rfl (by decide) rfl q729 rfl rfl fV rfl rfl d_Fi_seekMethod_35 (fun s_4 H locs h hP hD hS => ?_)
          refine lv_aload_n G.1 G.2.1 d_Fi_seekMethod_38 rfl (lv_at hl 0 rfl) ?_
          refine ugf (v := .int (sV s_4 a0 1)) G hP h_a0 iFi rfl 1 (by decide) rfl q729 rfl rfl d_Fi_seekMethod_39 ?_
          refine lv_if_lt (tgt := 47) G.1 G.2.1 d_Fi_seekMethod_42 (by decide) (fun c42 => ?_) (fun c42 => ?_)
          · skip
            have h := h.1 c42
            refine lv_iload_n G.1 G.2.1 d_Fi_seekMethod_47 rfl (lv_at hl 3 rfl) ?_
            have J_61 : ∀ (s_j61 : St) (x2j61 : Int32) (x3j61 : Int32) (x5j61 : Int32) (z0j61 : Int32) (H : Heap) (locs : List Loc), wj_Fi_seekMethod_61 y Post K_9 a0 a1 s_j61 x2j61 x3j61 x5j61 z0j61 → va_P D CL (ws g ad y s_j61) H → va_D A (ws g ad y s_j61) → va_S A s.heap H locs → ∀ ls, lv_has ls 6 [(0, .ref (ad a0)), (1, .ref (ad a1)), (2, .int x2j61), (3, .int x3j61), (5, .int x5j61)] → W p l e ru_Fi_seekMethod s m args below meth c H locs 0 0 Q (F0 m 61 ls [.int z0j61]) := by
              intro s_j61 x2j61 x3j61 x5j61 z0j61 H locs h hP hD hS ls hl
              unfold wj_Fi_seekMethod_61 at h
              refine lv_istore (lv' := [(4, .int z0j61), (0, .ref (ad a0)), (1, .ref (ad a1)), (2, .int x2j61), (3, .int x3j61), (5, .int x5j61)]) G.1 G.2.1 d_Fi_seekMethod_61 hl (by decide) rfl (fun ls hl => ?_)
              refine lv_iinc (v := x5j61 + 1) (lv' := [(5, .int (x5j61 + 1)), (4, .int z0j61), (0, .ref (ad a0)), (1, .ref (ad a1)), (2, .int x2j61), (3, .int x3j61)]) G.1 G.2.1 d_Fi_seekMethod_63 hl (k := 5) rfl rfl (by decide) rfl (fun ls hl => ?_)
              refine lv_goto (tgt := 9) G.1 G.2.1 d_Fi_seekMethod_66 (by decide) ?_
              have h := hK_9 s_j61 x2j61 x3j61 z0j61 (x5j61 + 1) h
              exact ih_9 s_j61 x2j61 x3j61 z0j61 (x5j61 + 1) (Nat.lt_of_lt_of_le h.2 (Nat.le_of_lt_succ hμ_9)) h.1 H locs hP hD hS ls (lv_sub hl [2, 3, 4, 5, 1, 0] rfl)
            refine lv_if_eq (tgt := 55) G.1 G.2.1 d_Fi_seekMethod_48 (by decide) (fun c48 => ?_) (fun c48 => ?_)
            · skip
              have h := h.1 c48
              refine lv_aload_n G.1 G.2.1 d_Fi_seekMethod_55 rfl (lv_at hl 1 rfl) ?_
              refine lv_iload G.1 G.2.1 d_Fi_seekMethod_56 (lv_at hl 4 rfl) ?_
              refine ucVi (As := [.int x4h9]) (rest := []) G hP hD hS (cu_Wd_up l D g ad y _ s_4 a1 x4h9 H.size h_a1 h) w9_Wd_up q1570 ⟨Nat.le_of_ble_eq_true rfl, Nat.le_of_ble_eq_true rfl⟩ rfl rfl h_a1 (q := (RWd, TWd, 17)) rfl rfl hl.1 rfl (Nat.le_of_ble_eq_true rfl) rfl ⟨Nat.le_refl _, Nat.le_refl _⟩ d_Fi_seekMethod_58 (fun r_5 s_6 H locs h hP hD hS => ?_)
              exact J_61 s_6 x2h9 x3h9 x5h9 r_5 H locs h hP hD hS ls (lv_sub hl [0, 1, 2, 3, 5] rfl)
            · skip
              have h := h.2 c48
              refine lv_iconst (v := (-1)) G.1 G.2.1 d_Fi_seekMethod_51 (by decide) ?_
              refine lv_goto (tgt := 61) G.1 G.2.1 d_Fi_seekMethod_52 (by decide) ?_
              exact J_61 s_4 x2h9 x3h9 x5h9 (-1) H locs h hP hD hS ls (lv_sub hl [0, 1, 2, 3, 5] rfl)
          · skip
            have h := h.2 c42
            refine lv_iconst (v := 1) G.1 G.2.1 d_Fi_seekMethod_45 (by decide) ?_
            exact hret _ _ _ _ _ _ _ ls (nb_n h.1) h.2 hP hD hS (Nat.le_refl _) (Nat.le_refl _) d_Fi_seekMethod_46
  exact L_9 _ σ v2 v3 (sV σ a0 2) 0 (Nat.lt_succ_self _) hI_9 H locs hP hD hS ls (lv_sub hl [2, 3, 4, 5, 1, 0] rfl)
def y_Fi_seekInFaces : MethodName := ⟨"ClassWorks$Finder", "seekInFaces", "(LClassWorks$World;III)Z"⟩
abbrev b_Fi_seekInFaces : ByteArray := prog_3_method_19_code
theorem q859 : Cond.fieldLink "ClassWorks$Finder" 151 "ClassWorks$World" "orders" "LClassWorks$Ints;" ∈ lw_ok := lw_okmem (List.mem_of_getElem? (i := 859) (by decide +kernel)) rfl
theorem q383 : Cond.fieldLink "ClassWorks$Finder" 163 "ClassWorks$Ints" "row" "[I" ∈ lw_ok := lw_okmem (List.mem_of_getElem? (i := 383) (by decide +kernel)) rfl
theorem d_Fi_seekInFaces_0 : decode b_Fi_seekInFaces 0 = .ok (.aload_n 0, 1) := by decide +kernel
theorem d_Fi_seekInFaces_1 : decode b_Fi_seekInFaces 1 = .ok (.iconst (-1), 1) := by decide +kernel
theorem d_Fi_seekInFaces_2 : decode b_Fi_seekInFaces 2 = .ok (.putfield 15, 3) := by decide +kernel
theorem d_Fi_seekInFaces_5 : decode b_Fi_seekInFaces 5 = .ok (.iconst 0, 1) := by decide +kernel
theorem d_Fi_seekInFaces_6 : decode b_Fi_seekInFaces 6 = .ok (.istore 5, 2) := by decide +kernel
theorem d_Fi_seekInFaces_8 : decode b_Fi_seekInFaces 8 = .ok (.iload 5, 2) := by decide +kernel
theorem d_Fi_seekInFaces_10 : decode b_Fi_seekInFaces 10 = .ok (.aload_n 1, 1) := by decide +kernel
theorem d_Fi_seekInFaces_11 : decode b_Fi_seekInFaces 11 = .ok (.iload_n 2, 1) := by decide +kernel
theorem d_Fi_seekInFaces_12 : decode b_Fi_seekInFaces 12 = .ok (.bipush 17, 2) := by decide +kernel
theorem d_Fi_seekInFaces_14 : decode b_Fi_seekInFaces 14 = .ok (.invokevirtual 51, 3) := by decide +kernel
theorem d_Fi_seekInFaces_17 : decode b_Fi_seekInFaces 17 = .ok (.if_icmp .ge 117, 3) := by decide +kernel
theorem d_Fi_seekInFaces_20 : decode b_Fi_seekInFaces 20 = .ok (.aload_n 1, 1) := by decide +kernel
theorem d_Fi_seekInFaces_21 : decode b_Fi_seekInFaces 21 = .ok (.getfield 151, 3) := by decide +kernel
theorem d_Fi_seekInFaces_24 : decode b_Fi_seekInFaces 24 = .ok (.getfield 163, 3) := by decide +kernel
theorem d_Fi_seekInFaces_27 : decode b_Fi_seekInFaces 27 = .ok (.aload_n 1, 1) := by decide +kernel
theorem d_Fi_seekInFaces_28 : decode b_Fi_seekInFaces 28 = .ok (.iload_n 2, 1) := by decide +kernel
theorem d_Fi_seekInFaces_29 : decode b_Fi_seekInFaces 29 = .ok (.bipush 16, 2) := by decide +kernel
theorem d_Fi_seekInFaces_31 : decode b_Fi_seekInFaces 31 = .ok (.invokevirtual 51, 3) := by decide +kernel
theorem d_Fi_seekInFaces_34 : decode b_Fi_seekInFaces 34 = .ok (.iload 5, 2) := by decide +kernel
theorem d_Fi_seekInFaces_36 : decode b_Fi_seekInFaces 36 = .ok (.iadd, 1) := by decide +kernel
theorem d_Fi_seekInFaces_37 : decode b_Fi_seekInFaces 37 = .ok (.iaload, 1) := by decide +kernel
theorem d_Fi_seekInFaces_38 : decode b_Fi_seekInFaces 38 = .ok (.istore 6, 2) := by decide +kernel
theorem d_Fi_seekInFaces_40 : decode b_Fi_seekInFaces 40 = .ok (.aload_n 1, 1) := by decide +kernel
theorem d_Fi_seekInFaces_41 : decode b_Fi_seekInFaces 41 = .ok (.iload 6, 2) := by decide +kernel
theorem d_Fi_seekInFaces_43 : decode b_Fi_seekInFaces 43 = .ok (.iload_n 3, 1) := by decide +kernel
theorem d_Fi_seekInFaces_44 : decode b_Fi_seekInFaces 44 = .ok (.invokevirtual 112, 3) := by decide +kernel
theorem d_Fi_seekInFaces_47 : decode b_Fi_seekInFaces 47 = .ok (.istore 7, 2) := by decide +kernel
theorem d_Fi_seekInFaces_49 : decode b_Fi_seekInFaces 49 = .ok (.iload 7, 2) := by decide +kernel
theorem d_Fi_seekInFaces_51 : decode b_Fi_seekInFaces 51 = .ok (.ifCond .ge 7, 3) := by decide +kernel
theorem d_Fi_seekInFaces_54 : decode b_Fi_seekInFaces 54 = .ok (.iconst 0, 1) := by decide +kernel
theorem d_Fi_seekInFaces_55 : decode b_Fi_seekInFaces 55 = .ok (.goto 12, 3) := by decide +kernel
theorem d_Fi_seekInFaces_58 : decode b_Fi_seekInFaces 58 = .ok (.aload_n 1, 1) := by decide +kernel
theorem d_Fi_seekInFaces_59 : decode b_Fi_seekInFaces 59 = .ok (.iload 6, 2) := by decide +kernel
theorem d_Fi_seekInFaces_61 : decode b_Fi_seekInFaces 61 = .ok (.iload 7, 2) := by decide +kernel
theorem d_Fi_seekInFaces_63 : decode b_Fi_seekInFaces 63 = .ok (.iconst 1, 1) := by decide +kernel
theorem d_Fi_seekInFaces_64 : decode b_Fi_seekInFaces 64 = .ok (.invokevirtual 100, 3) := by decide +kernel
theorem d_Fi_seekInFaces_67 : decode b_Fi_seekInFaces 67 = .ok (.istore 8, 2) := by decide +kernel
theorem d_Fi_seekInFaces_69 : decode b_Fi_seekInFaces 69 = .ok (.iload 8, 2) := by decide +kernel
theorem d_Fi_seekInFaces_71 : decode b_Fi_seekInFaces 71 = .ok (.bipush 8, 2) := by decide +kernel
theorem d_Fi_seekInFaces_73 : decode b_Fi_seekInFaces 73 = .ok (.iand, 1) := by decide +kernel
theorem d_Fi_seekInFaces_74 : decode b_Fi_seekInFaces 74 = .ok (.ifCond .ne 7, 3) := by decide +kernel
theorem d_Fi_seekInFaces_77 : decode b_Fi_seekInFaces 77 = .ok (.iconst 1, 1) := by decide +kernel
theorem d_Fi_seekInFaces_78 : decode b_Fi_seekInFaces 78 = .ok (.goto 4, 3) := by decide +kernel
theorem d_Fi_seekInFaces_81 : decode b_Fi_seekInFaces 81 = .ok (.iconst 0, 1) := by decide +kernel
theorem d_Fi_seekInFaces_82 : decode b_Fi_seekInFaces 82 = .ok (.istore 9, 2) := by decide +kernel
theorem d_Fi_seekInFaces_84 : decode b_Fi_seekInFaces 84 = .ok (.iload 7, 2) := by decide +kernel
theorem d_Fi_seekInFaces_86 : decode b_Fi_seekInFaces 86 = .ok (.ifCond .lt 42, 3) := by decide +kernel
theorem d_Fi_seekInFaces_89 : decode b_Fi_seekInFaces 89 = .ok (.iload 8, 2) := by decide +kernel
theorem d_Fi_seekInFaces_91 : decode b_Fi_seekInFaces 91 = .ok (.iload 4, 2) := by decide +kernel
theorem d_Fi_seekInFaces_93 : decode b_Fi_seekInFaces 93 = .ok (.iand, 1) := by decide +kernel
theorem d_Fi_seekInFaces_94 : decode b_Fi_seekInFaces 94 = .ok (.ifCond .ne 34, 3) := by decide +kernel
theorem d_Fi_seekInFaces_97 : decode b_Fi_seekInFaces 97 = .ok (.aload_n 0, 1) := by decide +kernel
theorem d_Fi_seekInFaces_98 : decode b_Fi_seekInFaces 98 = .ok (.getfield 15, 3) := by decide +kernel
theorem d_Fi_seekInFaces_101 : decode b_Fi_seekInFaces 101 = .ok (.ifCond .lt 8, 3) := by decide +kernel
theorem d_Fi_seekInFaces_104 : decode b_Fi_seekInFaces 104 = .ok (.iload 9, 2) := by decide +kernel
theorem d_Fi_seekInFaces_106 : decode b_Fi_seekInFaces 106 = .ok (.ifCond .eq 22, 3) := by decide +kernel
theorem d_Fi_seekInFaces_109 : decode b_Fi_seekInFaces 109 = .ok (.aload_n 0, 1) := by decide +kernel
theorem d_Fi_seekInFaces_110 : decode b_Fi_seekInFaces 110 = .ok (.iload 6, 2) := by decide +kernel
theorem d_Fi_seekInFaces_112 : decode b_Fi_seekInFaces 112 = .ok (.putfield 9, 3) := by decide +kernel
theorem d_Fi_seekInFaces_115 : decode b_Fi_seekInFaces 115 = .ok (.aload_n 0, 1) := by decide +kernel
theorem d_Fi_seekInFaces_116 : decode b_Fi_seekInFaces 116 = .ok (.iload 7, 2) := by decide +kernel
theorem d_Fi_seekInFaces_118 : decode b_Fi_seekInFaces 118 = .ok (.putfield 15, 3) := by decide +kernel
theorem d_Fi_seekInFaces_121 : decode b_Fi_seekInFaces 121 = .ok (.iload 9, 2) := by decide +kernel
theorem d_Fi_seekInFaces_123 : decode b_Fi_seekInFaces 123 = .ok (.ifCond .eq 5, 3) := by decide +kernel
theorem d_Fi_seekInFaces_126 : decode b_Fi_seekInFaces 126 = .ok (.iconst 1, 1) := by decide +kernel
theorem d_Fi_seekInFaces_127 : decode b_Fi_seekInFaces 127 = .ok (.ireturn, 1) := by decide +kernel
theorem d_Fi_seekInFaces_128 : decode b_Fi_seekInFaces 128 = .ok (.iinc 5 1, 3) := by decide +kernel
theorem d_Fi_seekInFaces_131 : decode b_Fi_seekInFaces 131 = .ok (.goto (-123), 3) := by decide +kernel
theorem d_Fi_seekInFaces_134 : decode b_Fi_seekInFaces 134 = .ok (.aload_n 0, 1) := by decide +kernel
theorem d_Fi_seekInFaces_135 : decode b_Fi_seekInFaces 135 = .ok (.getfield 15, 3) := by decide +kernel
theorem d_Fi_seekInFaces_138 : decode b_Fi_seekInFaces 138 = .ok (.ifCond .lt 7, 3) := by decide +kernel
theorem d_Fi_seekInFaces_141 : decode b_Fi_seekInFaces 141 = .ok (.iconst 1, 1) := by decide +kernel
theorem d_Fi_seekInFaces_142 : decode b_Fi_seekInFaces 142 = .ok (.goto 4, 3) := by decide +kernel
theorem d_Fi_seekInFaces_145 : decode b_Fi_seekInFaces 145 = .ok (.iconst 0, 1) := by decide +kernel
theorem d_Fi_seekInFaces_146 : decode b_Fi_seekInFaces 146 = .ok (.ireturn, 1) := by decide +kernel
abbrev ru_Fi_seekInFaces : Room := { frames := 1, cells := 0, slots := 0, locals := 25 }
def wj_Fi_seekInFaces_146 (y : Ly) (Post : St → Int32 → Prop) (a0 : Nat) (a1 : Nat) (s_j146 : St) (z0j146 : Int32) : Prop := (nb z0j146 ∧ Post s_j146 z0j146)
def wj_Fi_seekInFaces_128 (y : Ly) (Post : St → Int32 → Prop) (K_8 : St → Int32 → Int32 → Int32 → Int32 → Prop) (a0 : Nat) (a1 : Nat) (s_j128 : St) (x2j128 : Int32) (x3j128 : Int32) (x4j128 : Int32) (x5j128 : Int32) : Prop := K_8 s_j128 x2j128 x3j128 x4j128 (x5j128 + 1)
def wj_Fi_seekInFaces_109 (y : Ly) (Post : St → Int32 → Prop) (K_8 : St → Int32 → Int32 → Int32 → Int32 → Prop) (a0 : Nat) (a1 : Nat) (s_j109 : St) (x2j109 : Int32) (x3j109 : Int32) (x4j109 : Int32) (x5j109 : Int32) (x6j109 : Int32) (x7j109 : Int32) (x9j109 : Int32) : Prop := xP (uV s_j109 a0 0 x6j109) (fun s_9 : St => xP (uV s_9 a0 1 x7j109) (fun s_10 : St => ((x9j109 = 0 → wj_Fi_seekInFaces_128 y Post K_8 a0 a1 s_10 x2j109 x3j109 x4j109 x5j109) ∧ (¬ (x9j109 = 0) → (nb 1 ∧ Post s_10 1)))))
def wj_Fi_seekInFaces_82 (y : Ly) (Post : St → Int32 → Prop) (K_8 : St → Int32 → Int32 → Int32 → Int32 → Prop) (a0 : Nat) (a1 : Nat) (s_j82 : St) (x2j82 : Int32) (x3j82 : Int32) (x4j82 : Int32) (x5j82 : Int32) (x6j82 : Int32) (x7j82 : Int32) (x8j82 : Int32) (z0j82 : Int32) : Prop := ((x7j82 < 0 → wj_Fi_seekInFaces_128 y Post K_8 a0 a1 s_j82 x2j82 x3j82 x4j82 x5j82) ∧ (¬ (x7j82 < 0) → ((¬ (x8j82 &&& x4j82) = 0 → wj_Fi_seekInFaces_128 y Post K_8 a0 a1 s_j82 x2j82 x3j82 x4j82 x5j82) ∧ ((x8j82 &&& x4j82) = 0 → (((sV s_j82 a0 1) < 0 → wj_Fi_seekInFaces_109 y Post K_8 a0 a1 s_j82 x2j82 x3j82 x4j82 x5j82 x6j82 x7j82 z0j82) ∧ (¬ ((sV s_j82 a0 1) < 0) → ((z0j82 = 0 → wj_Fi_seekInFaces_128 y Post K_8 a0 a1 s_j82 x2j82 x3j82 x4j82 x5j82) ∧ (¬ (z0j82 = 0) → wj_Fi_seekInFaces_109 y Post K_8 a0 a1 s_j82 x2j82 x3j82 x4j82 x5j82 x6j82 x7j82 z0j82))))))))
def wj_Fi_seekInFaces_67 (y : Ly) (Post : St → Int32 → Prop) (K_8 : St → Int32 → Int32 → Int32 → Int32 → Prop) (a0 : Nat) (a1 : Nat) (s_j67 : St) (x2j67 : Int32) (x3j67 : Int32) (x4j67 : Int32) (x5j67 : Int32) (x6j67 : Int32) (x7j67 : Int32) (z0j67 : Int32) : Prop := ((¬ (z0j67 &&& 8) = 0 → wj_Fi_seekInFaces_82 y Post K_8 a0 a1 s_j67 x2j67 x3j67 x4j67 x5j67 x6j67 x7j67 z0j67 0) ∧ ((z0j67 &&& 8) = 0 → wj_Fi_seekInFaces_82 y Post K_8 a0 a1 s_j67 x2j67 x3j67 x4j67 x5j67 x6j67 x7j67 z0j67 1))
def wb_Fi_seekInFaces_8 (y : Ly) (Post : St → Int32 → Prop) (K_8 : St → Int32 → Int32 → Int32 → Int32 → Prop) (a0 : Nat) (a1 : Nat) (s_h8 : St) (x2h8 : Int32) (x3h8 : Int32) (x4h8 : Int32) (x5h8 : Int32) : Prop := wu_Wd_of y (fun (s_3 : St) (r_2 : Int32) => ((r_2 ≤ x5h8 → (((sV s_3 a0 1) < 0 → wj_Fi_seekInFaces_146 y Post a0 a1 s_3 0) ∧ (¬ ((sV s_3 a0 1) < 0) → wj_Fi_seekInFaces_146 y Post a0 a1 s_3 1))) ∧ (¬ (r_2 ≤ x5h8) → wu_Wd_of y (fun (s_5 : St) (r_4 : Int32) => xA y s_5 (lk a1 13) 0 (r_4 + x5h8) (fun x_6 : Int32 => wu_Wd_methodWith y (fun (s_8 : St) (r_7 : Int32) => ((0 ≤ r_7 → wu_Wd_method y (fun (s_12 : St) (r_11 : Int32) => wj_Fi_seekInFaces_67 y Post K_8 a0 a1 s_12 x2h8 x3h8 x4h8 x5h8 x_6 r_7 r_11) s_8 a1 x_6 r_7 1) ∧ (¬ (0 ≤ r_7) → wj_Fi_seekInFaces_67 y Post K_8 a0 a1 s_8 x2h8 x3h8 x4h8 x5h8 x_6 r_7 0))) s_5 a1 x_6 x3h8)) s_3 a1 x2h8 16))) s_h8 a1 x2h8 17
def wl_Fi_seekInFaces_8 (y : Ly) (Post : St → Int32 → Prop) (a0 : Nat) (a1 : Nat) (s_h8 : St) (x2h8 : Int32) (x3h8 : Int32) (x4h8 : Int32) (x5h8 : Int32) : Prop := ∃ (I : St → Int32 → Int32 → Int32 → Int32 → Prop) (μ : St → Int32 → Int32 → Int32 → Int32 → Nat), I s_h8 x2h8 x3h8 x4h8 x5h8 ∧ ∀ (u : St) (t0 : Int32) (t1 : Int32) (t2 : Int32) (t3 : Int32), I u t0 t1 t2 t3 → wb_Fi_seekInFaces_8 y Post (fun z t0q t1q t2q t3q => I z t0q t1q t2q t3q ∧ μ z t0q t1q t2q t3q < μ u t0 t1 t2 t3) a0 a1 u t0 t1 t2 t3
def wu_Fi_seekInFaces (y : Ly) (Post : St → Int32 → Prop) (σ : St) (a0 : Nat) (a1 : Nat) (v2 : Int32) (v3 : Int32) (v4 : Int32) : Prop := xP (uV σ a0 1 (-1)) (fun s_1 : St => wl_Fi_seekInFaces_8 y Post a0 a1 s_1 v2 v3 v4 0)
set_option maxHeartbeats 4000000 in
set_option maxRecDepth 100000 in
theorem cu_Fi_seekInFaces (l : Launch) (D : va_G) (g : Nat → ClassId) (ad : Nat → Nat) (y : Ly) (Post : St → Int32 → Prop) (σ : St) (a0 : Nat) (a1 : Nat) (v2 : Int32) (v3 : Int32) (v4 : Int32) (sz : Nat) (h_a0 : cl a0 = 1) (h_a1 : cl a1 = 9) (h : wu_Fi_seekInFaces y Post σ a0 a1 v2 v3 v4) : Met l y_Fi_seekInFaces (mw y_Fi_seekInFaces b_Fi_seekInFaces 10 (some (.boolean))) ru_Fi_seekInFaces (PC g D [] [.ref (ad a0), .ref (ad a1), .int v2, .int v3, .int v4] sz (ws g ad y σ)) (va_Qi (fun (r : Int32) (u : St) => Post u r) (QW D (va_A (ws g ad y σ) sz) (fun u => ws g ad y u)) (va_A (ws g ad y σ) sz)) 0 0 (va_A (ws g ad y σ) sz) := by
  refine ofZ (by decide +kernel) (Nat.le_of_ble_eq_true rfl) ?_
  intro p e s m args below meth c A Q ls H locs G hsz hP hD hS hl hret
  subst hsz
  have hl : lv_has ls 10 [(0, .ref (ad a0)), (1, .ref (ad a1)), (2, .int v2), (3, .int v3), (4, .int v4)] := hl
  unfold wu_Fi_seekInFaces at h
  refine lv_aload_n G.1 G.2.1 d_Fi_seekInFaces_0 rfl (lv_at hl 0 rfl) ?_
  refine lv_iconst (v := (-1)) G.1 G.2.1 d_Fi_seekInFaces_1 (by decide) ?_
  refine upf G hP hD hS h 1 putV h_a0 iFi tFi tFi_ok nFi rfl (by decide) rfl q729 rfl rfl fV rfl rfl d_Fi_seekInFaces_2 (fun s_1 H locs h hP hD hS => ?_)
  refine lv_iconst (v := 0) G.1 G.2.1 d_Fi_seekInFaces_5 (by decide) ?_
  refine lv_istore (lv' := [(5, .int 0), (0, .ref (ad a0)), (1, .ref (ad a1)), (2, .int v2), (3, .int v3), (4, .int v4)]) G.1 G.2.1 d_Fi_seekInFaces_6 hl (by decide) rfl (fun ls hl => ?_)
  unfold wl_Fi_seekInFaces_8 at h
  obtain ⟨I_8, μ_8, hI_8, hB_8⟩ := h
  have L_8 : ∀ (n_8 : Nat) (s_h8 : St) (x2h8 : Int32) (x3h8 : Int32) (x4h8 : Int32) (x5h8 : Int32), μ_8 s_h8 x2h8 x3h8 x4h8 x5h8 < n_8 → I_8 s_h8 x2h8 x3h8 x4h8 x5h8 → ∀ (H : Heap) (locs : List Loc), va_P D CL (ws g ad y s_h8) H → va_D A (ws g ad y s_h8) → va_S A s.heap H locs → ∀ ls, lv_has ls 10 [(0, .ref (ad a0)), (1, .ref (ad a1)), (2, .int x2h8), (3, .int x3h8), (4, .int x4h8), (5, .int x5h8)] → W p l e ru_Fi_seekInFaces s m args below meth c H locs 0 0 Q (F0 m 8 ls []) := by
    intro n_8
    induction n_8 with
    | zero => intro s_h8 x2h8 x3h8 x4h8 x5h8 hμ; exact absurd hμ (Nat.not_lt_zero _)
    | succ n_8 ih_8 =>
      intro s_h8 x2h8 x3h8 x4h8 x5h8 hμ_8 hJ H locs hP hD hS ls hl
      obtain ⟨K_8, hK_8, h⟩ : ∃ K : St → Int32 → Int32 → Int32 → Int32 → Prop, (∀ z (t0 : Int32) (t1 : Int32) (t2 : Int32) (t3 : Int32), K z t0 t1 t2 t3 → I_8 z t0 t1 t2 t3 ∧ μ_8 z t0 t1 t2 t3 < μ_8 s_h8 x2h8 x3h8 x4h8 x5h8) ∧ wb_Fi_seekInFaces_8 y Post K a0 a1 s_h8 x2h8 x3h8 x4h8 x5h8 := ⟨_, fun _ _ _ _ _ h => h, hB_8 s_h8 x2h8 x3h8 x4h8 x5h8 hJ⟩
      unfold wb_Fi_seekInFaces_8 at h
      refine lv_iload G.1 G.2.1 d_Fi_seekInFaces_8 (lv_at hl 5 rfl) ?_
      refine lv_aload_n G.1 G.2.1 d_Fi_seekInFaces_10 rfl (lv_at hl 1 rfl) ?_
      refine lv_iload_n G.1 G.2.1 d_Fi_seekInFaces_11 rfl (lv_at hl 2 rfl) ?_
      refine lv_bipush (v := 17) G.1 G.2.1 d_Fi_seekInFaces_12 (by decide) ?_
      refine ucVi (As := [.int x2h8, .int 17]) (rest := [.int x5h8]) G hP hD hS (cu_Wd_of l D g ad y _ s_h8 a1 x2h8 17 H.size h_a1 h) w9_Wd_of q1532 ⟨Nat.le_of_ble_eq_true rfl, Nat.le_of_ble_eq_true rfl⟩ rfl rfl h_a1 (q := (RWd, TWd, 17)) rfl rfl hl.1 rfl (Nat.le_of_ble_eq_true rfl) rfl ⟨Nat.le_refl _, Nat.le_refl _⟩ d_Fi_seekInFaces_14 (fun r_2 s_3 H locs h hP hD hS => ?_)
      refine lv_icmp_ge (tgt := 134) G.1 G.2.1 d_Fi_seekInFaces_17 (by decide) (fun c17 => ?_) (fun c17 => ?_)
      · skip
        have h := h.1 c17
        refine lv_aload_n G.1 G.2.1 d_Fi_seekInFaces_134 rfl (lv_at hl 0 rfl) ?_
        refine ugf (v := .int (sV s_3 a0 1)) G hP h_a0 iFi rfl 1 (by decide) rfl q729 rfl rfl d_Fi_seekInFaces_135 ?_
        have J_146 : ∀ (s_j146 : St) (z0j146 : Int32) (H : Heap) (locs : List Loc), wj_Fi_seekInFaces_146 y Post a0 a1 s_j146 z0j146 → va_P D CL (ws g ad y s_j146) H → va_D A (ws g ad y s_j146) → va_S A s.heap H locs → ∀ ls, lv_has ls 10 [] → W p l e ru_Fi_seekInFaces s m args below meth c H locs 0 0 Q (F0 m 146 ls [.int z0j146]) := by
          intro s_j146 z0j146 H locs h hP hD hS ls hl
          unfold wj_Fi_seekInFaces_146 at h
          exact hret _ _ _ _ _ _ _ ls (nb_n h.1) h.2 hP hD hS (Nat.le_refl _) (Nat.le_refl _) d_Fi_seekInFaces_146
        refine lv_if_lt (tgt := 145) G.1 G.2.1 d_Fi_seekInFaces_138 (by decide) (fun c138 => ?_) (fun c138 => ?_)
        · skip
          have h := h.1 c138
          refine lv_iconst (v := 0) G.1 G.2.1 d_Fi_seekInFaces_145 (by decide) ?_
          exact J_146 s_3 0 H locs h hP hD hS ls (lv_sub hl [] rfl)
        · skip
          have h := h.2 c138
          refine lv_iconst (v := 1) G.1 G.2.1 d_Fi_seekInFaces_141 (by decide) ?_
          refine lv_goto (tgt := 146) G.1 G.2.1 d_Fi_seekInFaces_142 (by decide) ?_
          exact J_146 s_3 1 H locs h hP hD hS ls (lv_sub hl [] rfl)
      · skip
        have h := h.2 c17
        refine lv_aload_n G.1 G.2.1 d_Fi_seekInFaces_20 rfl (lv_at hl 1 rfl) ?_
        refine ugf (v := .ref (ad (lk a1 13))) G hP h_a1 iWd rfl 13 (by decide) rfl q859 rfl rfl d_Fi_seekInFaces_21 ?_
        refine ugf (v := .ref (yP y (lk a1 13) 0)) G hP (lk_9_13 h_a1) iIn rfl 0 (by decide) rfl q383 rfl rfl d_Fi_seekInFaces_24 ?_
        refine lv_aload_n G.1 G.2.1 d_Fi_seekInFaces_27 rfl (lv_at hl 1 rfl) ?_
        refine lv_iload_n G.1 G.2.1 d_Fi_seekInFaces_28 rfl (lv_at hl 2 rfl) ?_
        refine W.eq (g2 := F0 m 29 ls [.int x2h8, .ref (ad a1), .ref (yP y (lk a1 13) 0)]) rfl ?_
        refine lv_bipush (v := 16) G.1 G.2.1 d_Fi_seekInFaces_29 (by decide) ?_
        refine ucVi (As := [.int x2h8, .int 16]) (rest := [.ref (yP y (lk a1 13) 0)]) G hP hD hS (cu_Wd_of l D g ad y _ s_3 a1 x2h8 16 H.size h_a1 h) w9_Wd_of q1532 ⟨Nat.le_of_ble_eq_true rfl, Nat.le_of_ble_eq_true rfl⟩ rfl rfl h_a1 (q := (RWd, TWd, 17)) rfl rfl hl.1 rfl (Nat.le_of_ble_eq_true rfl) rfl ⟨Nat.le_refl _, Nat.le_refl _⟩ d_Fi_seekInFaces_31 (fun r_4 s_5 H locs h hP hD hS => ?_)
        refine lv_iload G.1 G.2.1 d_Fi_seekInFaces_34 (lv_at hl 5 rfl) ?_
        refine lv_iadd G.1 G.2.1 d_Fi_seekInFaces_36 ?_
        refine uiald G hP (kdp (lk_9_13 h_a1) rfl) (typ (lk_9_13 h_a1) rfl) h d_Fi_seekInFaces_37 (fun x_6 h => ?_)
        refine lv_istore (lv' := [(6, .int x_6), (0, .ref (ad a0)), (1, .ref (ad a1)), (2, .int x2h8), (3, .int x3h8), (4, .int x4h8), (5, .int x5h8)]) G.1 G.2.1 d_Fi_seekInFaces_38 hl (by decide) rfl (fun ls hl => ?_)
        refine lv_aload_n G.1 G.2.1 d_Fi_seekInFaces_40 rfl (lv_at hl 2 rfl) ?_
        refine lv_iload G.1 G.2.1 d_Fi_seekInFaces_41 (lv_at hl 0 rfl) ?_
        refine lv_iload_n G.1 G.2.1 d_Fi_seekInFaces_43 rfl (lv_at hl 4 rfl) ?_
        refine ucVi (As := [.int x_6, .int x3h8]) (rest := []) G hP hD hS (cu_Wd_methodWith l D g ad y _ s_5 a1 x_6 x3h8 H.size h_a1 h) w9_Wd_methodWith q1571 ⟨Nat.le_of_ble_eq_true rfl, Nat.le_of_ble_eq_true rfl⟩ rfl rfl h_a1 (q := (RWd, TWd, 17)) rfl rfl hl.1 rfl (Nat.le_of_ble_eq_true rfl) rfl ⟨Nat.le_refl _, Nat.le_refl _⟩ d_Fi_seekInFaces_44 (fun r_7 s_8 H locs h hP hD hS => ?_)
        refine lv_istore (lv' := [(7, .int r_7), (6, .int x_6), (0, .ref (ad a0)), (1, .ref (ad a1)), (2, .int x2h8), (3, .int x3h8), (4, .int x4h8), (5, .int x5h8)]) G.1 G.2.1 d_Fi_seekInFaces_47 hl (by decide) rfl (fun ls hl => ?_)
        refine lv_iload G.1 G.2.1 d_Fi_seekInFaces_49 (lv_at hl 0 rfl) ?_
        have J_67 : ∀ (s_j67 : St) (x2j67 : Int32) (x3j67 : Int32) (x4j67 : Int32) (x5j67 : Int32) (x6j67 : Int32) (x7j67 : Int32) (z0j67 : Int32) (H : Heap) (locs : List Loc), wj_Fi_seekInFaces_67 y Post K_8 a0 a1 s_j67 x2j67 x3j67 x4j67 x5j67 x6j67 x7j67 z0j67 → va_P D CL (ws g ad y s_j67) H → va_D A (ws g ad y s_j67) → va_S A s.heap H locs → ∀ ls, lv_has ls 10 [(0, .ref (ad a0)), (1, .ref (ad a1)), (2, .int x2j67), (3, .int x3j67), (4, .int x4j67), (5, .int x5j67), (6, .int x6j67), (7, .int x7j67)] → W p l e ru_Fi_seekInFaces s m args below meth c H locs 0 0 Q (F0 m 67 ls [.int z0j67]) := by
          intro s_j67 x2j67 x3j67 x4j67 x5j67 x6j67 x7j67 z0j67 H locs h hP hD hS ls hl
          unfold wj_Fi_seekInFaces_67 at h
          refine lv_istore (lv' := [(8, .int z0j67), (0, .ref (ad a0)), (1, .ref (ad a1)), (2, .int x2j67), (3, .int x3j67), (4, .int x4j67), (5, .int x5j67), (6, .int x6j67), (7, .int x7j67)]) G.1 G.2.1 d_Fi_seekInFaces_67 hl (by decide) rfl (fun ls hl => ?_)
          refine lv_iload G.1 G.2.1 d_Fi_seekInFaces_69 (lv_at hl 0 rfl) ?_
          refine lv_bipush (v := 8) G.1 G.2.1 d_Fi_seekInFaces_71 (by decide) ?_
          refine lv_iand G.1 G.2.1 d_Fi_seekInFaces_73 ?_
          have J_82 : ∀ (s_j82 : St) (x2j82 : Int32) (x3j82 : Int32) (x4j82 : Int32) (x5j82 : Int32) (x6j82 : Int32) (x7j82 : Int32) (x8j82 : Int32) (z0j82 : Int32) (H : Heap) (locs : List Loc), wj_Fi_seekInFaces_82 y Post K_8 a0 a1 s_j82 x2j82 x3j82 x4j82 x5j82 x6j82 x7j82 x8j82 z0j82 → va_P D CL (ws g ad y s_j82) H → va_D A (ws g ad y s_j82) → va_S A s.heap H locs → ∀ ls, lv_has ls 10 [(0, .ref (ad a0)), (1, .ref (ad a1)), (2, .int x2j82), (3, .int x3j82), (4, .int x4j82), (5, .int x5j82), (6, .int x6j82), (7, .int x7j82), (8, .int x8j82)] → W p l e ru_Fi_seekInFaces s m args below meth c H locs 0 0 Q (F0 m 82 ls [.int z0j82]) := by
            intro s_j82 x2j82 x3j82 x4j82 x5j82 x6j82 x7j82 x8j82 z0j82 H locs h hP hD hS ls hl
            unfold wj_Fi_seekInFaces_82 at h
            refine lv_istore (lv' := [(9, .int z0j82), (0, .ref (ad a0)), (1, .ref (ad a1)), (2, .int x2j82), (3, .int x3j82), (4, .int x4j82), (5, .int x5j82), (6, .int x6j82), (7, .int x7j82), (8, .int x8j82)]) G.1 G.2.1 d_Fi_seekInFaces_82 hl (by decide) rfl (fun ls hl => ?_)
            refine lv_iload G.1 G.2.1 d_Fi_seekInFaces_84 (lv_at hl 8 rfl) ?_
            have J_128 : ∀ (s_j128 : St) (x2j128 : Int32) (x3j128 : Int32) (x4j128 : Int32) (x5j128 : Int32) (H : Heap) (locs : List Loc), wj_Fi_seekInFaces_128 y Post K_8 a0 a1 s_j128 x2j128 x3j128 x4j128 x5j128 → va_P D CL (ws g ad y s_j128) H → va_D A (ws g ad y s_j128) → va_S A s.heap H locs → ∀ ls, lv_has ls 10 [(0, .ref (ad a0)), (1, .ref (ad a1)), (2, .int x2j128), (3, .int x3j128), (4, .int x4j128), (5, .int x5j128)] → W p l e ru_Fi_seekInFaces s m args below meth c H locs 0 0 Q (F0 m 128 ls []) := by
              intro s_j128 x2j128 x3j128 x4j128 x5j128 H locs h hP hD hS ls hl
              unfold wj_Fi_seekInFaces_128 at h
              refine lv_iinc (v := x5j128 + 1) (lv' := [(5, .int (x5j128 + 1)), (0, .ref (ad a0)), (1, .ref (ad a1)), (2, .int x2j128), (3, .int x3j128), (4, .int x4j128)]) G.1 G.2.1 d_Fi_seekInFaces_128 hl (k := 5) rfl rfl (by decide) rfl (fun ls hl => ?_)
              refine lv_goto (tgt := 8) G.1 G.2.1 d_Fi_seekInFaces_131 (by decide) ?_
              have h := hK_8 s_j128 x2j128 x3j128 x4j128 (x5j128 + 1) h
              exact ih_8 s_j128 x2j128 x3j128 x4j128 (x5j128 + 1) (Nat.lt_of_lt_of_le h.2 (Nat.le_of_lt_succ hμ_8)) h.1 H locs hP hD hS ls (lv_sub hl [1, 2, 3, 4, 5, 0] rfl)
            refine lv_if_lt (tgt := 128) G.1 G.2.1 d_Fi_seekInFaces_86 (by decide) (fun c86 => ?_) (fun c86 => ?_)
            · skip
              have h := h.1 c86
              exact J_128 s_j82 x2j82 x3j82 x4j82 x5j82 H locs h hP hD hS ls (lv_sub hl [1, 2, 3, 4, 5, 6] rfl)
            · skip
              have h := h.2 c86
              refine lv_iload G.1 G.2.1 d_Fi_seekInFaces_89 (lv_at hl 9 rfl) ?_
              refine lv_iload G.1 G.2.1 d_Fi_seekInFaces_91 (lv_at hl 5 rfl) ?_
              refine lv_iand G.1 G.2.1 d_Fi_seekInFaces_93 ?_
              refine lv_if_ne (tgt := 128) G.1 G.2.1 d_Fi_seekInFaces_94 (by decide) (fun c94 => ?_) (fun c94 => ?_)
              · skip
                have h := h.1 c94
                exact J_128 s_j82 x2j82 x3j82 x4j82 x5j82 H locs h hP hD hS ls (lv_sub hl [1, 2, 3, 4, 5, 6] rfl)
              · skip
                have h := h.2 c94
                refine lv_aload_n G.1 G.2.1 d_Fi_seekInFaces_97 rfl (lv_at hl 1 rfl) ?_
                refine ugf (v := .int (sV s_j82 a0 1)) G hP h_a0 iFi rfl 1 (by decide) rfl q729 rfl rfl d_Fi_seekInFaces_98 ?_
                have J_109 : ∀ (s_j109 : St) (x2j109 : Int32) (x3j109 : Int32) (x4j109 : Int32) (x5j109 : Int32) (x6j109 : Int32) (x7j109 : Int32) (x9j109 : Int32) (H : Heap) (locs : List Loc), wj_Fi_seekInFaces_109 y Post K_8 a0 a1 s_j109 x2j109 x3j109 x4j109 x5j109 x6j109 x7j109 x9j109 → va_P D CL (ws g ad y s_j109) H → va_D A (ws g ad y s_j109) → va_S A s.heap H locs → ∀ ls, lv_has ls 10 [(0, .ref (ad a0)), (1, .ref (ad a1)), (2, .int x2j109), (3, .int x3j109), (4, .int x4j109), (5, .int x5j109), (6, .int x6j109), (7, .int x7j109), (9, .int x9j109)] → W p l e ru_Fi_seekInFaces s m args below meth c H locs 0 0 Q (F0 m 109 ls []) := by
                  intro s_j109 x2j109 x3j109 x4j109 x5j109 x6j109 x7j109 x9j109 H locs h hP hD hS ls hl
                  unfold wj_Fi_seekInFaces_109 at h
                  refine lv_aload_n G.1 G.2.1 d_Fi_seekInFaces_109 rfl (lv_at hl 0 rfl) ?_
                  refine lv_iload G.1 G.2.1 d_Fi_seekInFaces_110 (lv_at hl 6 rfl) ?_
                  refine upf G hP hD hS h 0 putV h_a0 iFi tFi tFi_ok nFi rfl (by decide) rfl q726 rfl rfl fV rfl rfl d_Fi_seekInFaces_112 (fun s_9 H locs h hP hD hS => ?_)
                  refine lv_aload_n G.1 G.2.1 d_Fi_seekInFaces_115 rfl (lv_at hl 0 rfl) ?_
                  refine lv_iload G.1 G.2.1 d_Fi_seekInFaces_116 (lv_at hl 7 rfl) ?_
                  refine upf G hP hD hS h 1 putV h_a0 iFi tFi tFi_ok nFi rfl (by decide) rfl q729 rfl rfl fV rfl rfl d_Fi_seekInFaces_118 (fun s_10 H locs h hP hD hS => ?_)
                  refine lv_iload G.1 G.2.1 d_Fi_seekInFaces_121 (lv_at hl 8 rfl) ?_
                  refine lv_if_eq (tgt := 128) G.1 G.2.1 d_Fi_seekInFaces_123 (by decide) (fun c123 => ?_) (fun c123 => ?_)
                  · skip
                    have h := h.1 c123
                    exact J_128 s_10 x2j109 x3j109 x4j109 x5j109 H locs h hP hD hS ls (lv_sub hl [0, 1, 2, 3, 4, 5] rfl)
                  · skip
                    have h := h.2 c123
                    refine lv_iconst (v := 1) G.1 G.2.1 d_Fi_seekInFaces_126 (by decide) ?_
                    exact hret _ _ _ _ _ _ _ ls (nb_n h.1) h.2 hP hD hS (Nat.le_refl _) (Nat.le_refl _) d_Fi_seekInFaces_127
                refine lv_if_lt (tgt := 109) G.1 G.2.1 d_Fi_seekInFaces_101 (by decide) (fun c101 => ?_) (fun c101 => ?_)
                · skip
                  have h := h.1 c101
                  exact J_109 s_j82 x2j82 x3j82 x4j82 x5j82 x6j82 x7j82 z0j82 H locs h hP hD hS ls (lv_sub hl [1, 2, 3, 4, 5, 6, 7, 8, 0] rfl)
                · skip
                  have h := h.2 c101
                  refine lv_iload G.1 G.2.1 d_Fi_seekInFaces_104 (lv_at hl 0 rfl) ?_
                  refine W.eq (g2 := F0 m 106 ls [.int z0j82]) rfl ?_
                  refine lv_if_eq (tgt := 128) G.1 G.2.1 d_Fi_seekInFaces_106 (by decide) (fun c106 => ?_) (fun c106 => ?_)
                  · skip
                    have h := h.1 c106
                    exact J_128 s_j82 x2j82 x3j82 x4j82 x5j82 H locs h hP hD hS ls (lv_sub hl [1, 2, 3, 4, 5, 6] rfl)
                  · skip
                    have h := h.2 c106
                    exact J_109 s_j82 x2j82 x3j82 x4j82 x5j82 x6j82 x7j82 z0j82 H locs h hP hD hS ls (lv_sub hl [1, 2, 3, 4, 5, 6, 7, 8, 0] rfl)
          refine lv_if_ne (tgt := 81) G.1 G.2.1 d_Fi_seekInFaces_74 (by decide) (fun c74 => ?_) (fun c74 => ?_)
          · skip
            have h := h.1 c74
            refine lv_iconst (v := 0) G.1 G.2.1 d_Fi_seekInFaces_81 (by decide) ?_
            exact J_82 s_j67 x2j67 x3j67 x4j67 x5j67 x6j67 x7j67 z0j67 0 H locs h hP hD hS ls (lv_sub hl [1, 2, 3, 4, 5, 6, 7, 8, 0] rfl)
          · skip
            have h := h.2 c74
            refine lv_iconst (v := 1) G.1 G.2.1 d_Fi_seekInFaces_77 (by decide) ?_
            refine lv_goto (tgt := 82) G.1 G.2.1 d_Fi_seekInFaces_78 (by decide) ?_
            exact J_82 s_j67 x2j67 x3j67 x4j67 x5j67 x6j67 x7j67 z0j67 1 H locs h hP hD hS ls (lv_sub hl [1, 2, 3, 4, 5, 6, 7, 8, 0] rfl)
        refine W.eq (g2 := F0 m 51 ls [.int r_7]) rfl ?_
        refine lv_if_ge (tgt := 58) G.1 G.2.1 d_Fi_seekInFaces_51 (by decide) (fun c51 => ?_) (fun c51 => ?_)
        · skip
          have h := h.1 c51
          refine lv_aload_n G.1 G.2.1 d_Fi_seekInFaces_58 rfl (lv_at hl 3 rfl) ?_
          refine lv_iload G.1 G.2.1 d_Fi_seekInFaces_59 (lv_at hl 1 rfl) ?_
          refine lv_iload G.1 G.2.1 d_Fi_seekInFaces_61 (lv_at hl 0 rfl) ?_
          refine lv_iconst (v := 1) G.1 G.2.1 d_Fi_seekInFaces_63 (by decide) ?_
          refine ucVi (As := [.int x_6, .int r_7, .int 1]) (rest := []) G hP hD hS (cu_Wd_method l D g ad y _ s_8 a1 x_6 r_7 1 H.size h_a1 h) w9_Wd_method q1568 ⟨Nat.le_of_ble_eq_true rfl, Nat.le_of_ble_eq_true rfl⟩ rfl rfl h_a1 (q := (RWd, TWd, 17)) rfl rfl hl.1 rfl (Nat.le_of_ble_eq_true rfl) rfl ⟨Nat.le_refl _, Nat.le_refl _⟩ d_Fi_seekInFaces_64 (fun r_11 s_12 H locs h hP hD hS => ?_)
          exact J_67 s_12 x2h8 x3h8 x4h8 x5h8 x_6 r_7 r_11 H locs h hP hD hS ls (lv_sub hl [2, 3, 4, 5, 6, 7, 1, 0] rfl)
        · skip
          have h := h.2 c51
          refine lv_iconst (v := 0) G.1 G.2.1 d_Fi_seekInFaces_54 (by decide) ?_
          refine lv_goto (tgt := 67) G.1 G.2.1 d_Fi_seekInFaces_55 (by decide) ?_
          exact J_67 s_8 x2h8 x3h8 x4h8 x5h8 x_6 r_7 0 H locs h hP hD hS ls (lv_sub hl [2, 3, 4, 5, 6, 7, 1, 0] rfl)
  exact L_8 _ s_1 v2 v3 v4 0 (Nat.lt_succ_self _) hI_8 H locs hP hD hS ls (lv_sub hl [1, 2, 3, 4, 5, 0] rfl)
theorem q1820 : Cond.methodLink "ClassWorks$Finder" 192 y_Fi_nameClass ∈ lw_ok := lw_okmem (List.mem_of_getElem? (i := 1820) (by decide +kernel)) rfl
theorem q1823 : Cond.code y_Fi_nameClass b_Fi_nameClass 4 (some .int) ∈ lw_ok := lw_okmem (List.mem_of_getElem? (i := 1823) (by decide +kernel)) rfl
theorem q342 : Cond.initialized "ClassWorks$Finder" ∈ lw_ok := lw_okmem (List.mem_of_getElem? (i := 342) (by decide +kernel)) rfl
theorem q1822 : Cond.instanceMethod y_Fi_nameClass ∈ lw_ok := lw_okmem (List.mem_of_getElem? (i := 1822) (by decide +kernel)) rfl
theorem q83 : Cond.selects y_Fi_nameClass.cls y_Fi_nameClass y_Fi_nameClass ∈ lw_ok := lw_okmem (List.mem_of_getElem? (i := 83) (by decide +kernel)) rfl
theorem w9_Fi_nameClass : CWv y_Fi_nameClass b_Fi_nameClass 4 (some .int) 2 ∧ Cond.instanceMethod y_Fi_nameClass ∈ lw_ok ∧ Cond.selects y_Fi_nameClass.cls y_Fi_nameClass y_Fi_nameClass ∈ lw_ok := ⟨⟨q1823, q342, by decide +kernel, by decide +kernel, by decide +kernel⟩, q1822, q83⟩
theorem q1825 : Cond.methodLink "ClassWorks$Finder" 202 y_Fi_seekMethod ∈ lw_ok := lw_okmem (List.mem_of_getElem? (i := 1825) (by decide +kernel)) rfl
theorem q1828 : Cond.code y_Fi_seekMethod b_Fi_seekMethod 6 (some (.boolean)) ∈ lw_ok := lw_okmem (List.mem_of_getElem? (i := 1828) (by decide +kernel)) rfl
theorem q1827 : Cond.instanceMethod y_Fi_seekMethod ∈ lw_ok := lw_okmem (List.mem_of_getElem? (i := 1827) (by decide +kernel)) rfl
theorem q84 : Cond.selects y_Fi_seekMethod.cls y_Fi_seekMethod y_Fi_seekMethod ∈ lw_ok := lw_okmem (List.mem_of_getElem? (i := 84) (by decide +kernel)) rfl
theorem w9_Fi_seekMethod : CWv y_Fi_seekMethod b_Fi_seekMethod 6 (some (.boolean)) 3 ∧ Cond.instanceMethod y_Fi_seekMethod ∈ lw_ok ∧ Cond.selects y_Fi_seekMethod.cls y_Fi_seekMethod y_Fi_seekMethod ∈ lw_ok := ⟨⟨q1828, q342, by decide +kernel, by decide +kernel, by decide +kernel⟩, q1827, q84⟩
theorem q1829 : Cond.methodLink "ClassWorks$Finder" 206 y_Fi_seekInFaces ∈ lw_ok := lw_okmem (List.mem_of_getElem? (i := 1829) (by decide +kernel)) rfl
theorem q1832 : Cond.code y_Fi_seekInFaces b_Fi_seekInFaces 10 (some (.boolean)) ∈ lw_ok := lw_okmem (List.mem_of_getElem? (i := 1832) (by decide +kernel)) rfl
theorem q1830 : Cond.instanceMethod y_Fi_seekInFaces ∈ lw_ok := lw_okmem (List.mem_of_getElem? (i := 1830) (by decide +kernel)) rfl
theorem q1831 : Cond.selects y_Fi_seekInFaces.cls y_Fi_seekInFaces y_Fi_seekInFaces ∈ lw_ok := lw_okmem (List.mem_of_getElem? (i := 1831) (by decide +kernel)) rfl
theorem w9_Fi_seekInFaces : CWv y_Fi_seekInFaces b_Fi_seekInFaces 10 (some (.boolean)) 4 ∧ Cond.instanceMethod y_Fi_seekInFaces ∈ lw_ok ∧ Cond.selects y_Fi_seekInFaces.cls y_Fi_seekInFaces y_Fi_seekInFaces ∈ lw_ok := ⟨⟨q1832, q342, by decide +kernel, by decide +kernel, by decide +kernel⟩, q1830, q1831⟩
def y_Fi_findMethod : MethodName := ⟨"ClassWorks$Finder", "findMethod", "(LClassWorks$World;IIII)I"⟩
abbrev b_Fi_findMethod : ByteArray := prog_3_method_16_code
theorem d_Fi_findMethod_0 : decode b_Fi_findMethod 0 = .ok (.aload_n 0, 1) := by decide +kernel
theorem d_Fi_findMethod_1 : decode b_Fi_findMethod 1 = .ok (.aload_n 1, 1) := by decide +kernel
theorem d_Fi_findMethod_2 : decode b_Fi_findMethod 2 = .ok (.iload 4, 2) := by decide +kernel
theorem d_Fi_findMethod_4 : decode b_Fi_findMethod 4 = .ok (.invokevirtual 192, 3) := by decide +kernel
theorem d_Fi_findMethod_7 : decode b_Fi_findMethod 7 = .ok (.istore 6, 2) := by decide +kernel
theorem d_Fi_findMethod_9 : decode b_Fi_findMethod 9 = .ok (.iload 6, 2) := by decide +kernel
theorem d_Fi_findMethod_11 : decode b_Fi_findMethod 11 = .ok (.ifCond .eq 6, 3) := by decide +kernel
theorem d_Fi_findMethod_14 : decode b_Fi_findMethod 14 = .ok (.iload 6, 2) := by decide +kernel
theorem d_Fi_findMethod_16 : decode b_Fi_findMethod 16 = .ok (.ireturn, 1) := by decide +kernel
theorem d_Fi_findMethod_17 : decode b_Fi_findMethod 17 = .ok (.iload_n 3, 1) := by decide +kernel
theorem d_Fi_findMethod_18 : decode b_Fi_findMethod 18 = .ok (.bipush 50, 2) := by decide +kernel
theorem d_Fi_findMethod_20 : decode b_Fi_findMethod 20 = .ok (.if_icmp .ne 14, 3) := by decide +kernel
theorem d_Fi_findMethod_23 : decode b_Fi_findMethod 23 = .ok (.aload_n 1, 1) := by decide +kernel
theorem d_Fi_findMethod_24 : decode b_Fi_findMethod 24 = .ok (.aload_n 0, 1) := by decide +kernel
theorem d_Fi_findMethod_25 : decode b_Fi_findMethod 25 = .ok (.getfield 18, 3) := by decide +kernel
theorem d_Fi_findMethod_28 : decode b_Fi_findMethod 28 = .ok (.invokevirtual 97, 3) := by decide +kernel
theorem d_Fi_findMethod_31 : decode b_Fi_findMethod 31 = .ok (.ifCond .ne 20, 3) := by decide +kernel
theorem d_Fi_findMethod_34 : decode b_Fi_findMethod 34 = .ok (.iload_n 3, 1) := by decide +kernel
theorem d_Fi_findMethod_35 : decode b_Fi_findMethod 35 = .ok (.bipush 53, 2) := by decide +kernel
theorem d_Fi_findMethod_37 : decode b_Fi_findMethod 37 = .ok (.if_icmp .ne 18, 3) := by decide +kernel
theorem d_Fi_findMethod_40 : decode b_Fi_findMethod 40 = .ok (.aload_n 1, 1) := by decide +kernel
theorem d_Fi_findMethod_41 : decode b_Fi_findMethod 41 = .ok (.aload_n 0, 1) := by decide +kernel
theorem d_Fi_findMethod_42 : decode b_Fi_findMethod 42 = .ok (.getfield 18, 3) := by decide +kernel
theorem d_Fi_findMethod_45 : decode b_Fi_findMethod 45 = .ok (.invokevirtual 97, 3) := by decide +kernel
theorem d_Fi_findMethod_48 : decode b_Fi_findMethod 48 = .ok (.ifCond .ne 7, 3) := by decide +kernel
theorem d_Fi_findMethod_51 : decode b_Fi_findMethod 51 = .ok (.sipush 5615, 3) := by decide +kernel
theorem d_Fi_findMethod_54 : decode b_Fi_findMethod 54 = .ok (.ireturn, 1) := by decide +kernel
theorem d_Fi_findMethod_55 : decode b_Fi_findMethod 55 = .ok (.aload_n 0, 1) := by decide +kernel
theorem d_Fi_findMethod_56 : decode b_Fi_findMethod 56 = .ok (.getfield 43, 3) := by decide +kernel
theorem d_Fi_findMethod_59 : decode b_Fi_findMethod 59 = .ok (.iload 5, 2) := by decide +kernel
theorem d_Fi_findMethod_61 : decode b_Fi_findMethod 61 = .ok (.invokevirtual 104, 3) := by decide +kernel
theorem d_Fi_findMethod_64 : decode b_Fi_findMethod 64 = .ok (.bipush 7, 2) := by decide +kernel
theorem d_Fi_findMethod_66 : decode b_Fi_findMethod 66 = .ok (.if_icmp .ne 7, 3) := by decide +kernel
theorem d_Fi_findMethod_69 : decode b_Fi_findMethod 69 = .ok (.iconst 1, 1) := by decide +kernel
theorem d_Fi_findMethod_70 : decode b_Fi_findMethod 70 = .ok (.goto 4, 3) := by decide +kernel
theorem d_Fi_findMethod_73 : decode b_Fi_findMethod 73 = .ok (.iconst 0, 1) := by decide +kernel
theorem d_Fi_findMethod_74 : decode b_Fi_findMethod 74 = .ok (.istore 7, 2) := by decide +kernel
theorem d_Fi_findMethod_76 : decode b_Fi_findMethod 76 = .ok (.aload_n 0, 1) := by decide +kernel
theorem d_Fi_findMethod_77 : decode b_Fi_findMethod 77 = .ok (.aload_n 1, 1) := by decide +kernel
theorem d_Fi_findMethod_78 : decode b_Fi_findMethod 78 = .ok (.iload 5, 2) := by decide +kernel
theorem d_Fi_findMethod_80 : decode b_Fi_findMethod 80 = .ok (.iload 7, 2) := by decide +kernel
theorem d_Fi_findMethod_82 : decode b_Fi_findMethod 82 = .ok (.invokevirtual 202, 3) := by decide +kernel
theorem d_Fi_findMethod_85 : decode b_Fi_findMethod 85 = .ok (.ifCond .ne 27, 3) := by decide +kernel
theorem d_Fi_findMethod_88 : decode b_Fi_findMethod 88 = .ok (.iload 7, 2) := by decide +kernel
theorem d_Fi_findMethod_90 : decode b_Fi_findMethod 90 = .ok (.ifCond .ne 18, 3) := by decide +kernel
theorem d_Fi_findMethod_93 : decode b_Fi_findMethod 93 = .ok (.aload_n 0, 1) := by decide +kernel
theorem d_Fi_findMethod_94 : decode b_Fi_findMethod 94 = .ok (.aload_n 1, 1) := by decide +kernel
theorem d_Fi_findMethod_95 : decode b_Fi_findMethod 95 = .ok (.aload_n 0, 1) := by decide +kernel
theorem d_Fi_findMethod_96 : decode b_Fi_findMethod 96 = .ok (.getfield 18, 3) := by decide +kernel
theorem d_Fi_findMethod_99 : decode b_Fi_findMethod 99 = .ok (.iload 5, 2) := by decide +kernel
theorem d_Fi_findMethod_101 : decode b_Fi_findMethod 101 = .ok (.iconst 0, 1) := by decide +kernel
theorem d_Fi_findMethod_102 : decode b_Fi_findMethod 102 = .ok (.invokevirtual 206, 3) := by decide +kernel
theorem d_Fi_findMethod_105 : decode b_Fi_findMethod 105 = .ok (.ifCond .ne 7, 3) := by decide +kernel
theorem d_Fi_findMethod_108 : decode b_Fi_findMethod 108 = .ok (.sipush 5213, 3) := by decide +kernel
theorem d_Fi_findMethod_111 : decode b_Fi_findMethod 111 = .ok (.ireturn, 1) := by decide +kernel
theorem d_Fi_findMethod_112 : decode b_Fi_findMethod 112 = .ok (.aload_n 1, 1) := by decide +kernel
theorem d_Fi_findMethod_113 : decode b_Fi_findMethod 113 = .ok (.aload_n 0, 1) := by decide +kernel
theorem d_Fi_findMethod_114 : decode b_Fi_findMethod 114 = .ok (.getfield 9, 3) := by decide +kernel
theorem d_Fi_findMethod_117 : decode b_Fi_findMethod 117 = .ok (.aload_n 0, 1) := by decide +kernel
theorem d_Fi_findMethod_118 : decode b_Fi_findMethod 118 = .ok (.getfield 15, 3) := by decide +kernel
theorem d_Fi_findMethod_121 : decode b_Fi_findMethod 121 = .ok (.iconst 1, 1) := by decide +kernel
theorem d_Fi_findMethod_122 : decode b_Fi_findMethod 122 = .ok (.invokevirtual 100, 3) := by decide +kernel
theorem d_Fi_findMethod_125 : decode b_Fi_findMethod 125 = .ok (.istore 8, 2) := by decide +kernel
theorem d_Fi_findMethod_127 : decode b_Fi_findMethod 127 = .ok (.iload 8, 2) := by decide +kernel
theorem d_Fi_findMethod_129 : decode b_Fi_findMethod 129 = .ok (.iconst 4, 1) := by decide +kernel
theorem d_Fi_findMethod_130 : decode b_Fi_findMethod 130 = .ok (.iand, 1) := by decide +kernel
theorem d_Fi_findMethod_131 : decode b_Fi_findMethod 131 = .ok (.ifCond .eq 7, 3) := by decide +kernel
theorem d_Fi_findMethod_134 : decode b_Fi_findMethod 134 = .ok (.iconst 1, 1) := by decide +kernel
theorem d_Fi_findMethod_135 : decode b_Fi_findMethod 135 = .ok (.goto 4, 3) := by decide +kernel
theorem d_Fi_findMethod_138 : decode b_Fi_findMethod 138 = .ok (.iconst 0, 1) := by decide +kernel
theorem d_Fi_findMethod_139 : decode b_Fi_findMethod 139 = .ok (.istore 9, 2) := by decide +kernel
theorem d_Fi_findMethod_141 : decode b_Fi_findMethod 141 = .ok (.iload 9, 2) := by decide +kernel
theorem d_Fi_findMethod_143 : decode b_Fi_findMethod 143 = .ok (.ifCond .eq 29, 3) := by decide +kernel
theorem d_Fi_findMethod_146 : decode b_Fi_findMethod 146 = .ok (.iload_n 2, 1) := by decide +kernel
theorem d_Fi_findMethod_147 : decode b_Fi_findMethod 147 = .ok (.bipush (-2), 2) := by decide +kernel
theorem d_Fi_findMethod_149 : decode b_Fi_findMethod 149 = .ok (.if_icmp .eq 23, 3) := by decide +kernel
theorem d_Fi_findMethod_152 : decode b_Fi_findMethod 152 = .ok (.aload_n 0, 1) := by decide +kernel
theorem d_Fi_findMethod_153 : decode b_Fi_findMethod 153 = .ok (.getfield 9, 3) := by decide +kernel
theorem d_Fi_findMethod_156 : decode b_Fi_findMethod 156 = .ok (.iload_n 2, 1) := by decide +kernel
theorem d_Fi_findMethod_157 : decode b_Fi_findMethod 157 = .ok (.if_icmp .eq 15, 3) := by decide +kernel
theorem d_Fi_findMethod_160 : decode b_Fi_findMethod 160 = .ok (.aload_n 1, 1) := by decide +kernel
theorem d_Fi_findMethod_161 : decode b_Fi_findMethod 161 = .ok (.iconst 5, 1) := by decide +kernel
theorem d_Fi_findMethod_162 : decode b_Fi_findMethod 162 = .ok (.invokevirtual 65, 3) := by decide +kernel
theorem d_Fi_findMethod_165 : decode b_Fi_findMethod 165 = .ok (.ifCond .eq 7, 3) := by decide +kernel
theorem d_Fi_findMethod_168 : decode b_Fi_findMethod 168 = .ok (.sipush 5314, 3) := by decide +kernel
theorem d_Fi_findMethod_171 : decode b_Fi_findMethod 171 = .ok (.ireturn, 1) := by decide +kernel
theorem d_Fi_findMethod_172 : decode b_Fi_findMethod 172 = .ok (.iload 8, 2) := by decide +kernel
theorem d_Fi_findMethod_174 : decode b_Fi_findMethod 174 = .ok (.iconst 1, 1) := by decide +kernel
theorem d_Fi_findMethod_175 : decode b_Fi_findMethod 175 = .ok (.iand, 1) := by decide +kernel
theorem d_Fi_findMethod_176 : decode b_Fi_findMethod 176 = .ok (.ifCond .eq 7, 3) := by decide +kernel
theorem d_Fi_findMethod_179 : decode b_Fi_findMethod 179 = .ok (.iconst 1, 1) := by decide +kernel
theorem d_Fi_findMethod_180 : decode b_Fi_findMethod 180 = .ok (.goto 4, 3) := by decide +kernel
theorem d_Fi_findMethod_183 : decode b_Fi_findMethod 183 = .ok (.iconst 0, 1) := by decide +kernel
theorem d_Fi_findMethod_184 : decode b_Fi_findMethod 184 = .ok (.iload_n 3, 1) := by decide +kernel
theorem d_Fi_findMethod_185 : decode b_Fi_findMethod 185 = .ok (.bipush 52, 2) := by decide +kernel
theorem d_Fi_findMethod_187 : decode b_Fi_findMethod 187 = .ok (.if_icmp .ne 7, 3) := by decide +kernel
theorem d_Fi_findMethod_190 : decode b_Fi_findMethod 190 = .ok (.iconst 1, 1) := by decide +kernel
theorem d_Fi_findMethod_191 : decode b_Fi_findMethod 191 = .ok (.goto 4, 3) := by decide +kernel
theorem d_Fi_findMethod_194 : decode b_Fi_findMethod 194 = .ok (.iconst 0, 1) := by decide +kernel
theorem d_Fi_findMethod_195 : decode b_Fi_findMethod 195 = .ok (.if_icmp .eq 7, 3) := by decide +kernel
theorem d_Fi_findMethod_198 : decode b_Fi_findMethod 198 = .ok (.sipush 5515, 3) := by decide +kernel
theorem d_Fi_findMethod_201 : decode b_Fi_findMethod 201 = .ok (.ireturn, 1) := by decide +kernel
theorem d_Fi_findMethod_202 : decode b_Fi_findMethod 202 = .ok (.iload_n 3, 1) := by decide +kernel
theorem d_Fi_findMethod_203 : decode b_Fi_findMethod 203 = .ok (.bipush 52, 2) := by decide +kernel
theorem d_Fi_findMethod_205 : decode b_Fi_findMethod 205 = .ok (.if_icmp .eq 14, 3) := by decide +kernel
theorem d_Fi_findMethod_208 : decode b_Fi_findMethod 208 = .ok (.iload_n 3, 1) := by decide +kernel
theorem d_Fi_findMethod_209 : decode b_Fi_findMethod 209 = .ok (.bipush 51, 2) := by decide +kernel
theorem d_Fi_findMethod_211 : decode b_Fi_findMethod 211 = .ok (.if_icmp .eq 8, 3) := by decide +kernel
theorem d_Fi_findMethod_214 : decode b_Fi_findMethod 214 = .ok (.iload 9, 2) := by decide +kernel
theorem d_Fi_findMethod_216 : decode b_Fi_findMethod 216 = .ok (.ifCond .eq 7, 3) := by decide +kernel
theorem d_Fi_findMethod_219 : decode b_Fi_findMethod 219 = .ok (.iconst 1, 1) := by decide +kernel
theorem d_Fi_findMethod_220 : decode b_Fi_findMethod 220 = .ok (.goto 4, 3) := by decide +kernel
theorem d_Fi_findMethod_223 : decode b_Fi_findMethod 223 = .ok (.iconst 0, 1) := by decide +kernel
theorem d_Fi_findMethod_224 : decode b_Fi_findMethod 224 = .ok (.istore 10, 2) := by decide +kernel
theorem d_Fi_findMethod_226 : decode b_Fi_findMethod 226 = .ok (.iload 10, 2) := by decide +kernel
theorem d_Fi_findMethod_228 : decode b_Fi_findMethod 228 = .ok (.ifCond .eq 17, 3) := by decide +kernel
theorem d_Fi_findMethod_231 : decode b_Fi_findMethod 231 = .ok (.iload 8, 2) := by decide +kernel
theorem d_Fi_findMethod_233 : decode b_Fi_findMethod 233 = .ok (.bipush 8, 2) := by decide +kernel
theorem d_Fi_findMethod_235 : decode b_Fi_findMethod 235 = .ok (.iand, 1) := by decide +kernel
theorem d_Fi_findMethod_236 : decode b_Fi_findMethod 236 = .ok (.ifCond .eq 9, 3) := by decide +kernel
theorem d_Fi_findMethod_239 : decode b_Fi_findMethod 239 = .ok (.sipush 5818, 3) := by decide +kernel
theorem d_Fi_findMethod_242 : decode b_Fi_findMethod 242 = .ok (.goto 4, 3) := by decide +kernel
theorem d_Fi_findMethod_245 : decode b_Fi_findMethod 245 = .ok (.iconst 0, 1) := by decide +kernel
theorem d_Fi_findMethod_246 : decode b_Fi_findMethod 246 = .ok (.ireturn, 1) := by decide +kernel
abbrev ru_Fi_findMethod : Room := { frames := 2, cells := 0, slots := 0, locals := 54 }
def wj_Fi_findMethod_51 (y : Ly) (Post : St → Int32 → Prop) (a0 : Nat) (a1 : Nat) (s_j51 : St) : Prop := Post s_j51 5615
def wj_Fi_findMethod_246 (y : Ly) (Post : St → Int32 → Prop) (a0 : Nat) (a1 : Nat) (s_j246 : St) (z0j246 : Int32) : Prop := Post s_j246 z0j246
def wj_Fi_findMethod_245 (y : Ly) (Post : St → Int32 → Prop) (a0 : Nat) (a1 : Nat) (s_j245 : St) : Prop := wj_Fi_findMethod_246 y Post a0 a1 s_j245 0
def wj_Fi_findMethod_224 (y : Ly) (Post : St → Int32 → Prop) (a0 : Nat) (a1 : Nat) (s_j224 : St) (x8j224 : Int32) (z0j224 : Int32) : Prop := ((z0j224 = 0 → wj_Fi_findMethod_245 y Post a0 a1 s_j224) ∧ (¬ (z0j224 = 0) → (((x8j224 &&& 8) = 0 → wj_Fi_findMethod_245 y Post a0 a1 s_j224) ∧ (¬ ((x8j224 &&& 8) = 0) → wj_Fi_findMethod_246 y Post a0 a1 s_j224 5818))))
def wj_Fi_findMethod_219 (y : Ly) (Post : St → Int32 → Prop) (a0 : Nat) (a1 : Nat) (s_j219 : St) (x8j219 : Int32) : Prop := wj_Fi_findMethod_224 y Post a0 a1 s_j219 x8j219 1
def wj_Fi_findMethod_195 (y : Ly) (Post : St → Int32 → Prop) (a0 : Nat) (a1 : Nat) (s_j195 : St) (x3j195 : Int32) (x8j195 : Int32) (x9j195 : Int32) (z0j195 : Int32) (z1j195 : Int32) : Prop := ((z0j195 = z1j195 → ((x3j195 = 52 → wj_Fi_findMethod_219 y Post a0 a1 s_j195 x8j195) ∧ (¬ (x3j195 = 52) → ((x3j195 = 51 → wj_Fi_findMethod_219 y Post a0 a1 s_j195 x8j195) ∧ (¬ (x3j195 = 51) → ((x9j195 = 0 → wj_Fi_findMethod_224 y Post a0 a1 s_j195 x8j195 0) ∧ (¬ (x9j195 = 0) → wj_Fi_findMethod_219 y Post a0 a1 s_j195 x8j195))))))) ∧ (¬ (z0j195 = z1j195) → Post s_j195 5515))
def wj_Fi_findMethod_184 (y : Ly) (Post : St → Int32 → Prop) (a0 : Nat) (a1 : Nat) (s_j184 : St) (x3j184 : Int32) (x8j184 : Int32) (x9j184 : Int32) (z0j184 : Int32) : Prop := ((¬ x3j184 = 52 → wj_Fi_findMethod_195 y Post a0 a1 s_j184 x3j184 x8j184 x9j184 z0j184 0) ∧ (x3j184 = 52 → wj_Fi_findMethod_195 y Post a0 a1 s_j184 x3j184 x8j184 x9j184 z0j184 1))
def wj_Fi_findMethod_172 (y : Ly) (Post : St → Int32 → Prop) (a0 : Nat) (a1 : Nat) (s_j172 : St) (x3j172 : Int32) (x8j172 : Int32) (x9j172 : Int32) : Prop := (((x8j172 &&& 1) = 0 → wj_Fi_findMethod_184 y Post a0 a1 s_j172 x3j172 x8j172 x9j172 0) ∧ (¬ ((x8j172 &&& 1) = 0) → wj_Fi_findMethod_184 y Post a0 a1 s_j172 x3j172 x8j172 x9j172 1))
def wj_Fi_findMethod_139 (y : Ly) (Post : St → Int32 → Prop) (a0 : Nat) (a1 : Nat) (s_j139 : St) (x2j139 : Int32) (x3j139 : Int32) (x8j139 : Int32) (z0j139 : Int32) : Prop := ((z0j139 = 0 → wj_Fi_findMethod_172 y Post a0 a1 s_j139 x3j139 x8j139 z0j139) ∧ (¬ (z0j139 = 0) → ((x2j139 = (-2) → wj_Fi_findMethod_172 y Post a0 a1 s_j139 x3j139 x8j139 z0j139) ∧ (¬ (x2j139 = (-2)) → (((sV s_j139 a0 0) = x2j139 → wj_Fi_findMethod_172 y Post a0 a1 s_j139 x3j139 x8j139 z0j139) ∧ (¬ ((sV s_j139 a0 0) = x2j139) → wu_Wd_asks y (fun (s_10 : St) (r_9 : Int32) => ((r_9 = 0 → wj_Fi_findMethod_172 y Post a0 a1 s_10 x3j139 x8j139 z0j139) ∧ (¬ (r_9 = 0) → Post s_10 5314))) s_j139 a1 5))))))
def wj_Fi_findMethod_112 (y : Ly) (Post : St → Int32 → Prop) (a0 : Nat) (a1 : Nat) (s_j112 : St) (x2j112 : Int32) (x3j112 : Int32) : Prop := wu_Wd_method y (fun (s_8 : St) (r_7 : Int32) => (((r_7 &&& 4) = 0 → wj_Fi_findMethod_139 y Post a0 a1 s_8 x2j112 x3j112 r_7 0) ∧ (¬ ((r_7 &&& 4) = 0) → wj_Fi_findMethod_139 y Post a0 a1 s_8 x2j112 x3j112 r_7 1))) s_j112 a1 (sV s_j112 a0 0) (sV s_j112 a0 1) 1
def wj_Fi_findMethod_108 (y : Ly) (Post : St → Int32 → Prop) (a0 : Nat) (a1 : Nat) (s_j108 : St) : Prop := Post s_j108 5213
def wj_Fi_findMethod_74 (y : Ly) (Post : St → Int32 → Prop) (a0 : Nat) (a1 : Nat) (s_j74 : St) (x2j74 : Int32) (x3j74 : Int32) (x5j74 : Int32) (z0j74 : Int32) : Prop := wu_Fi_seekMethod y (fun (s_6 : St) (r_5 : Int32) => ((¬ r_5 = 0 → wj_Fi_findMethod_112 y Post a0 a1 s_6 x2j74 x3j74) ∧ (r_5 = 0 → ((¬ z0j74 = 0 → wj_Fi_findMethod_108 y Post a0 a1 s_6) ∧ (z0j74 = 0 → wu_Fi_seekInFaces y (fun (s_12 : St) (r_11 : Int32) => ((¬ r_11 = 0 → wj_Fi_findMethod_112 y Post a0 a1 s_12 x2j74 x3j74) ∧ (r_11 = 0 → wj_Fi_findMethod_108 y Post a0 a1 s_12))) s_6 a0 a1 (sV s_6 a0 2) x5j74 0))))) s_j74 a0 a1 x5j74 z0j74
def wj_Fi_findMethod_55 (y : Ly) (Post : St → Int32 → Prop) (a0 : Nat) (a1 : Nat) (s_j55 : St) (x2j55 : Int32) (x3j55 : Int32) (x5j55 : Int32) : Prop := wu_Na_nameOf y (fun (s_4 : St) (r_3 : Int32) => ((¬ r_3 = 7 → wj_Fi_findMethod_74 y Post a0 a1 s_4 x2j55 x3j55 x5j55 0) ∧ (r_3 = 7 → wj_Fi_findMethod_74 y Post a0 a1 s_4 x2j55 x3j55 x5j55 1))) s_j55 (lk a0 4) x5j55
def wj_Fi_findMethod_34 (y : Ly) (Post : St → Int32 → Prop) (a0 : Nat) (a1 : Nat) (s_j34 : St) (x2j34 : Int32) (x3j34 : Int32) (x5j34 : Int32) : Prop := ((¬ x3j34 = 53 → wj_Fi_findMethod_55 y Post a0 a1 s_j34 x2j34 x3j34 x5j34) ∧ (x3j34 = 53 → wu_Wd_isFace y (fun (s_14 : St) (r_13 : Int32) => ((¬ r_13 = 0 → wj_Fi_findMethod_55 y Post a0 a1 s_14 x2j34 x3j34 x5j34) ∧ (r_13 = 0 → wj_Fi_findMethod_51 y Post a0 a1 s_14))) s_j34 a1 (sV s_j34 a0 2)))
def wu_Fi_findMethod (y : Ly) (Post : St → Int32 → Prop) (σ : St) (a0 : Nat) (a1 : Nat) (v2 : Int32) (v3 : Int32) (v4 : Int32) (v5 : Int32) : Prop := wu_Fi_nameClass y (fun (s_2 : St) (r_1 : Int32) => ((r_1 = 0 → ((¬ v3 = 50 → wj_Fi_findMethod_34 y Post a0 a1 s_2 v2 v3 v5) ∧ (v3 = 50 → wu_Wd_isFace y (fun (s_16 : St) (r_15 : Int32) => ((¬ r_15 = 0 → wj_Fi_findMethod_51 y Post a0 a1 s_16) ∧ (r_15 = 0 → wj_Fi_findMethod_34 y Post a0 a1 s_16 v2 v3 v5))) s_2 a1 (sV s_2 a0 2)))) ∧ (¬ (r_1 = 0) → Post s_2 r_1))) σ a0 a1 v4
set_option maxHeartbeats 4000000 in
set_option maxRecDepth 100000 in
theorem cu_Fi_findMethod (l : Launch) (D : va_G) (g : Nat → ClassId) (ad : Nat → Nat) (y : Ly) (Post : St → Int32 → Prop) (σ : St) (a0 : Nat) (a1 : Nat) (v2 : Int32) (v3 : Int32) (v4 : Int32) (v5 : Int32) (sz : Nat) (h_a0 : cl a0 = 1) (h_a1 : cl a1 = 9) (h : wu_Fi_findMethod y Post σ a0 a1 v2 v3 v4 v5) : Met l y_Fi_findMethod (mw y_Fi_findMethod b_Fi_findMethod 11 (some .int)) ru_Fi_findMethod (PC g D [] [.ref (ad a0), .ref (ad a1), .int v2, .int v3, .int v4, .int v5] sz (ws g ad y σ)) (va_Qi (fun (r : Int32) (u : St) => Post u r) (QW D (va_A (ws g ad y σ) sz) (fun u => ws g ad y u)) (va_A (ws g ad y σ) sz)) 0 0 (va_A (ws g ad y σ) sz) := by
  refine ofI (by decide +kernel) (Nat.le_of_ble_eq_true rfl) ?_
  intro p e s m args below meth c A Q ls H locs G hsz hP hD hS hl hret
  subst hsz
  have hl : lv_has ls 11 [(0, .ref (ad a0)), (1, .ref (ad a1)), (2, .int v2), (3, .int v3), (4, .int v4), (5, .int v5)] := hl
  unfold wu_Fi_findMethod at h
  refine lv_aload_n G.1 G.2.1 d_Fi_findMethod_0 rfl (lv_at hl 0 rfl) ?_
  refine lv_aload_n G.1 G.2.1 d_Fi_findMethod_1 rfl (lv_at hl 1 rfl) ?_
  refine lv_iload G.1 G.2.1 d_Fi_findMethod_2 (lv_at hl 4 rfl) ?_
  refine ucVi (As := [.ref (ad a1), .int v4]) (rest := []) G hP hD hS (cu_Fi_nameClass l D g ad y _ σ a0 a1 v4 H.size h_a0 h_a1 h) w9_Fi_nameClass q1820 ⟨Nat.le_of_ble_eq_true rfl, Nat.le_of_ble_eq_true rfl⟩ rfl rfl h_a0 (q := (RFi, TFi, 10)) rfl rfl hl.1 rfl (Nat.le_of_ble_eq_true rfl) rfl ⟨Nat.le_refl _, Nat.le_refl _⟩ d_Fi_findMethod_4 (fun r_1 s_2 H locs h hP hD hS => ?_)
  refine lv_istore (lv' := [(6, .int r_1), (0, .ref (ad a0)), (1, .ref (ad a1)), (2, .int v2), (3, .int v3), (4, .int v4), (5, .int v5)]) G.1 G.2.1 d_Fi_findMethod_7 hl (by decide) rfl (fun ls hl => ?_)
  refine lv_iload G.1 G.2.1 d_Fi_findMethod_9 (lv_at hl 0 rfl) ?_
  refine lv_if_eq (tgt := 17) G.1 G.2.1 d_Fi_findMethod_11 (by decide) (fun c11 => ?_) (fun c11 => ?_)
  · skip
    have h := h.1 c11
    refine lv_iload_n G.1 G.2.1 d_Fi_findMethod_17 rfl (lv_at hl 4 rfl) ?_
    refine lv_bipush (v := 50) G.1 G.2.1 d_Fi_findMethod_18 (by decide) ?_
    have J_51 : ∀ (s_j51 : St) (H : Heap) (locs : List Loc), wj_Fi_findMethod_51 y Post a0 a1 s_j51 → va_P D CL (ws g ad y s_j51) H → va_D A (ws g ad y s_j51) → va_S A s.heap H locs → ∀ ls, lv_has ls 11 [] → W p l e ru_Fi_findMethod s m args below meth c H locs 0 0 Q (F0 m 51 ls []) := by
      intro s_j51 H locs h hP hD hS ls hl
      unfold wj_Fi_findMethod_51 at h
      refine lv_sipush (v := 5615) G.1 G.2.1 d_Fi_findMethod_51 (by decide) ?_
      exact hret _ _ _ _ _ _ _ ls h hP hD hS (Nat.le_refl _) (Nat.le_refl _) d_Fi_findMethod_54
    have J_34 : ∀ (s_j34 : St) (x2j34 : Int32) (x3j34 : Int32) (x5j34 : Int32) (H : Heap) (locs : List Loc), wj_Fi_findMethod_34 y Post a0 a1 s_j34 x2j34 x3j34 x5j34 → va_P D CL (ws g ad y s_j34) H → va_D A (ws g ad y s_j34) → va_S A s.heap H locs → ∀ ls, lv_has ls 11 [(0, .ref (ad a0)), (1, .ref (ad a1)), (2, .int x2j34), (3, .int x3j34), (5, .int x5j34)] → W p l e ru_Fi_findMethod s m args below meth c H locs 0 0 Q (F0 m 34 ls []) := by
      intro s_j34 x2j34 x3j34 x5j34 H locs h hP hD hS ls hl
      unfold wj_Fi_findMethod_34 at h
      refine lv_iload_n G.1 G.2.1 d_Fi_findMethod_34 rfl (lv_at hl 3 rfl) ?_
      refine lv_bipush (v := 53) G.1 G.2.1 d_Fi_findMethod_35 (by decide) ?_
      have J_55 : ∀ (s_j55 : St) (x2j55 : Int32) (x3j55 : Int32) (x5j55 : Int32) (H : Heap) (locs : List Loc), wj_Fi_findMethod_55 y Post a0 a1 s_j55 x2j55 x3j55 x5j55 → va_P D CL (ws g ad y s_j55) H → va_D A (ws g ad y s_j55) → va_S A s.heap H locs → ∀ ls, lv_has ls 11 [(0, .ref (ad a0)), (1, .ref (ad a1)), (2, .int x2j55), (3, .int x3j55), (5, .int x5j55)] → W p l e ru_Fi_findMethod s m args below meth c H locs 0 0 Q (F0 m 55 ls []) := by
        intro s_j55 x2j55 x3j55 x5j55 H locs h hP hD hS ls hl
        unfold wj_Fi_findMethod_55 at h
        refine lv_aload_n G.1 G.2.1 d_Fi_findMethod_55 rfl (lv_at hl 0 rfl) ?_
        refine ugf (v := .ref (ad (lk a0 4))) G hP h_a0 iFi rfl 4 (by decide) rfl q736 rfl rfl d_Fi_findMethod_56 ?_
        refine lv_iload G.1 G.2.1 d_Fi_findMethod_59 (lv_at hl 4 rfl) ?_
        refine ucVi (As := [.int x5j55]) (rest := []) G hP hD hS (cu_Na_nameOf l D g ad y _ s_j55 (lk a0 4) x5j55 H.size (lk_1_4 h_a0) h) w9_Na_nameOf q1569 ⟨Nat.le_of_ble_eq_true rfl, Nat.le_of_ble_eq_true rfl⟩ rfl rfl (lk_1_4 h_a0) (q := (RNa, TNa, 11)) rfl rfl hl.1 rfl (Nat.le_of_ble_eq_true rfl) rfl ⟨Nat.le_refl _, Nat.le_refl _⟩ d_Fi_findMethod_61 (fun r_3 s_4 H locs h hP hD hS => ?_)
        refine lv_bipush (v := 7) G.1 G.2.1 d_Fi_findMethod_64 (by decide) ?_
        have J_74 : ∀ (s_j74 : St) (x2j74 : Int32) (x3j74 : Int32) (x5j74 : Int32) (z0j74 : Int32) (H : Heap) (locs : List Loc), wj_Fi_findMethod_74 y Post a0 a1 s_j74 x2j74 x3j74 x5j74 z0j74 → va_P D CL (ws g ad y s_j74) H → va_D A (ws g ad y s_j74) → va_S A s.heap H locs → ∀ ls, lv_has ls 11 [(0, .ref (ad a0)), (1, .ref (ad a1)), (2, .int x2j74), (3, .int x3j74), (5, .int x5j74)] → W p l e ru_Fi_findMethod s m args below meth c H locs 0 0 Q (F0 m 74 ls [.int z0j74]) := by
          intro s_j74 x2j74 x3j74 x5j74 z0j74 H locs h hP hD hS ls hl
          unfold wj_Fi_findMethod_74 at h
          refine lv_istore (lv' := [(7, .int z0j74), (0, .ref (ad a0)), (1, .ref (ad a1)), (2, .int x2j74), (3, .int x3j74), (5, .int x5j74)]) G.1 G.2.1 d_Fi_findMethod_74 hl (by decide) rfl (fun ls hl => ?_)
          refine lv_aload_n G.1 G.2.1 d_Fi_findMethod_76 rfl (lv_at hl 1 rfl) ?_
          refine lv_aload_n G.1 G.2.1 d_Fi_findMethod_77 rfl (lv_at hl 2 rfl) ?_
          refine lv_iload G.1 G.2.1 d_Fi_findMethod_78 (lv_at hl 5 rfl) ?_
          refine lv_iload G.1 G.2.1 d_Fi_findMethod_80 (lv_at hl 0 rfl) ?_
          refine ucVi (As := [.ref (ad a1), .int x5j74, .int z0j74]) (rest := []) G hP hD hS (cu_Fi_seekMethod l D g ad y _ s_j74 a0 a1 x5j74 z0j74 H.size h_a0 h_a1 h) w9_Fi_seekMethod q1825 ⟨Nat.le_of_ble_eq_true rfl, Nat.le_of_ble_eq_true rfl⟩ rfl rfl h_a0 (q := (RFi, TFi, 10)) rfl rfl hl.1 rfl (Nat.le_of_ble_eq_true rfl) rfl ⟨Nat.le_refl _, Nat.le_refl _⟩ d_Fi_findMethod_82 (fun r_5 s_6 H locs h hP hD hS => ?_)
          have J_112 : ∀ (s_j112 : St) (x2j112 : Int32) (x3j112 : Int32) (H : Heap) (locs : List Loc), wj_Fi_findMethod_112 y Post a0 a1 s_j112 x2j112 x3j112 → va_P D CL (ws g ad y s_j112) H → va_D A (ws g ad y s_j112) → va_S A s.heap H locs → ∀ ls, lv_has ls 11 [(0, .ref (ad a0)), (1, .ref (ad a1)), (2, .int x2j112), (3, .int x3j112)] → W p l e ru_Fi_findMethod s m args below meth c H locs 0 0 Q (F0 m 112 ls []) := by
            intro s_j112 x2j112 x3j112 H locs h hP hD hS ls hl
            unfold wj_Fi_findMethod_112 at h
            refine lv_aload_n G.1 G.2.1 d_Fi_findMethod_112 rfl (lv_at hl 1 rfl) ?_
            refine lv_aload_n G.1 G.2.1 d_Fi_findMethod_113 rfl (lv_at hl 0 rfl) ?_
            refine ugf (v := .int (sV s_j112 a0 0)) G hP h_a0 iFi rfl 0 (by decide) rfl q726 rfl rfl d_Fi_findMethod_114 ?_
            refine lv_aload_n G.1 G.2.1 d_Fi_findMethod_117 rfl (lv_at hl 0 rfl) ?_
            refine ugf (v := .int (sV s_j112 a0 1)) G hP h_a0 iFi rfl 1 (by decide) rfl q729 rfl rfl d_Fi_findMethod_118 ?_
            refine lv_iconst (v := 1) G.1 G.2.1 d_Fi_findMethod_121 (by decide) ?_
            refine ucVi (As := [.int (sV s_j112 a0 0), .int (sV s_j112 a0 1), .int 1]) (rest := []) G hP hD hS (cu_Wd_method l D g ad y _ s_j112 a1 (sV s_j112 a0 0) (sV s_j112 a0 1) 1 H.size h_a1 h) w9_Wd_method q1568 ⟨Nat.le_of_ble_eq_true rfl, Nat.le_of_ble_eq_true rfl⟩ rfl rfl h_a1 (q := (RWd, TWd, 17)) rfl rfl hl.1 rfl (Nat.le_of_ble_eq_true rfl) rfl ⟨Nat.le_refl _, Nat.le_refl _⟩ d_Fi_findMethod_122 (fun r_7 s_8 H locs h hP hD hS => ?_)
            refine lv_istore (lv' := [(8, .int r_7), (0, .ref (ad a0)), (1, .ref (ad a1)), (2, .int x2j112), (3, .int x3j112)]) G.1 G.2.1 d_Fi_findMethod_125 hl (by decide) rfl (fun ls hl => ?_)
            refine lv_iload G.1 G.2.1 d_Fi_findMethod_127 (lv_at hl 0 rfl) ?_
            refine lv_iconst (v := 4) G.1 G.2.1 d_Fi_findMethod_129 (by decide) ?_
            refine lv_iand G.1 G.2.1 d_Fi_findMethod_130 ?_
            have J_139 : ∀ (s_j139 : St) (x2j139 : Int32) (x3j139 : Int32) (x8j139 : Int32) (z0j139 : Int32) (H : Heap) (locs : List Loc), wj_Fi_findMethod_139 y Post a0 a1 s_j139 x2j139 x3j139 x8j139 z0j139 → va_P D CL (ws g ad y s_j139) H → va_D A (ws g ad y s_j139) → va_S A s.heap H locs → ∀ ls, lv_has ls 11 [(0, .ref (ad a0)), (1, .ref (ad a1)), (2, .int x2j139), (3, .int x3j139), (8, .int x8j139)] → W p l e ru_Fi_findMethod s m args below meth c H locs 0 0 Q (F0 m 139 ls [.int z0j139]) := by
              intro s_j139 x2j139 x3j139 x8j139 z0j139 H locs h hP hD hS ls hl
              unfold wj_Fi_findMethod_139 at h
              refine lv_istore (lv' := [(9, .int z0j139), (0, .ref (ad a0)), (1, .ref (ad a1)), (2, .int x2j139), (3, .int x3j139), (8, .int x8j139)]) G.1 G.2.1 d_Fi_findMethod_139 hl (by decide) rfl (fun ls hl => ?_)
              refine lv_iload G.1 G.2.1 d_Fi_findMethod_141 (lv_at hl 0 rfl) ?_
              have J_172 : ∀ (s_j172 : St) (x3j172 : Int32) (x8j172 : Int32) (x9j172 : Int32) (H : Heap) (locs : List Loc), wj_Fi_findMethod_172 y Post a0 a1 s_j172 x3j172 x8j172 x9j172 → va_P D CL (ws g ad y s_j172) H → va_D A (ws g ad y s_j172) → va_S A s.heap H locs → ∀ ls, lv_has ls 11 [(3, .int x3j172), (8, .int x8j172), (9, .int x9j172)] → W p l e ru_Fi_findMethod s m args below meth c H locs 0 0 Q (F0 m 172 ls []) := by
                intro s_j172 x3j172 x8j172 x9j172 H locs h hP hD hS ls hl
                unfold wj_Fi_findMethod_172 at h
                refine lv_iload G.1 G.2.1 d_Fi_findMethod_172 (lv_at hl 1 rfl) ?_
                refine lv_iconst (v := 1) G.1 G.2.1 d_Fi_findMethod_174 (by decide) ?_
                refine lv_iand G.1 G.2.1 d_Fi_findMethod_175 ?_
                have J_184 : ∀ (s_j184 : St) (x3j184 : Int32) (x8j184 : Int32) (x9j184 : Int32) (z0j184 : Int32) (H : Heap) (locs : List Loc), wj_Fi_findMethod_184 y Post a0 a1 s_j184 x3j184 x8j184 x9j184 z0j184 → va_P D CL (ws g ad y s_j184) H → va_D A (ws g ad y s_j184) → va_S A s.heap H locs → ∀ ls, lv_has ls 11 [(3, .int x3j184), (8, .int x8j184), (9, .int x9j184)] → W p l e ru_Fi_findMethod s m args below meth c H locs 0 0 Q (F0 m 184 ls [.int z0j184]) := by
                  intro s_j184 x3j184 x8j184 x9j184 z0j184 H locs h hP hD hS ls hl
                  unfold wj_Fi_findMethod_184 at h
                  refine lv_iload_n G.1 G.2.1 d_Fi_findMethod_184 rfl (lv_at hl 0 rfl) ?_
                  refine lv_bipush (v := 52) G.1 G.2.1 d_Fi_findMethod_185 (by decide) ?_
                  have J_195 : ∀ (s_j195 : St) (x3j195 : Int32) (x8j195 : Int32) (x9j195 : Int32) (z0j195 : Int32) (z1j195 : Int32) (H : Heap) (locs : List Loc), wj_Fi_findMethod_195 y Post a0 a1 s_j195 x3j195 x8j195 x9j195 z0j195 z1j195 → va_P D CL (ws g ad y s_j195) H → va_D A (ws g ad y s_j195) → va_S A s.heap H locs → ∀ ls, lv_has ls 11 [(3, .int x3j195), (8, .int x8j195), (9, .int x9j195)] → W p l e ru_Fi_findMethod s m args below meth c H locs 0 0 Q (F0 m 195 ls [.int z1j195, .int z0j195]) := by
                    intro s_j195 x3j195 x8j195 x9j195 z0j195 z1j195 H locs h hP hD hS ls hl
                    unfold wj_Fi_findMethod_195 at h
                    refine lv_icmp_eq (tgt := 202) G.1 G.2.1 d_Fi_findMethod_195 (by decide) (fun c195 => ?_) (fun c195 => ?_)
                    · skip
                      have h := h.1 c195
                      refine lv_iload_n G.1 G.2.1 d_Fi_findMethod_202 rfl (lv_at hl 0 rfl) ?_
                      refine lv_bipush (v := 52) G.1 G.2.1 d_Fi_findMethod_203 (by decide) ?_
                      have J_224 : ∀ (s_j224 : St) (x8j224 : Int32) (z0j224 : Int32) (H : Heap) (locs : List Loc), wj_Fi_findMethod_224 y Post a0 a1 s_j224 x8j224 z0j224 → va_P D CL (ws g ad y s_j224) H → va_D A (ws g ad y s_j224) → va_S A s.heap H locs → ∀ ls, lv_has ls 11 [(8, .int x8j224)] → W p l e ru_Fi_findMethod s m args below meth c H locs 0 0 Q (F0 m 224 ls [.int z0j224]) := by
                        intro s_j224 x8j224 z0j224 H locs h hP hD hS ls hl
                        unfold wj_Fi_findMethod_224 at h
                        refine lv_istore (lv' := [(10, .int z0j224), (8, .int x8j224)]) G.1 G.2.1 d_Fi_findMethod_224 hl (by decide) rfl (fun ls hl => ?_)
                        refine lv_iload G.1 G.2.1 d_Fi_findMethod_226 (lv_at hl 0 rfl) ?_
                        have J_246 : ∀ (s_j246 : St) (z0j246 : Int32) (H : Heap) (locs : List Loc), wj_Fi_findMethod_246 y Post a0 a1 s_j246 z0j246 → va_P D CL (ws g ad y s_j246) H → va_D A (ws g ad y s_j246) → va_S A s.heap H locs → ∀ ls, lv_has ls 11 [] → W p l e ru_Fi_findMethod s m args below meth c H locs 0 0 Q (F0 m 246 ls [.int z0j246]) := by
                          intro s_j246 z0j246 H locs h hP hD hS ls hl
                          unfold wj_Fi_findMethod_246 at h
                          exact hret _ _ _ _ _ _ _ ls h hP hD hS (Nat.le_refl _) (Nat.le_refl _) d_Fi_findMethod_246
                        have J_245 : ∀ (s_j245 : St) (H : Heap) (locs : List Loc), wj_Fi_findMethod_245 y Post a0 a1 s_j245 → va_P D CL (ws g ad y s_j245) H → va_D A (ws g ad y s_j245) → va_S A s.heap H locs → ∀ ls, lv_has ls 11 [] → W p l e ru_Fi_findMethod s m args below meth c H locs 0 0 Q (F0 m 245 ls []) := by
                          intro s_j245 H locs h hP hD hS ls hl
                          unfold wj_Fi_findMethod_245 at h
                          refine lv_iconst (v := 0) G.1 G.2.1 d_Fi_findMethod_245 (by decide) ?_
                          exact J_246 s_j245 0 H locs h hP hD hS ls (lv_sub hl [] rfl)
                        refine lv_if_eq (tgt := 245) G.1 G.2.1 d_Fi_findMethod_228 (by decide) (fun c228 => ?_) (fun c228 => ?_)
                        · skip
                          have h := h.1 c228
                          exact J_245 s_j224 H locs h hP hD hS ls (lv_sub hl [] rfl)
                        · skip
                          have h := h.2 c228
                          refine lv_iload G.1 G.2.1 d_Fi_findMethod_231 (lv_at hl 1 rfl) ?_
                          refine lv_bipush (v := 8) G.1 G.2.1 d_Fi_findMethod_233 (by decide) ?_
                          refine lv_iand G.1 G.2.1 d_Fi_findMethod_235 ?_
                          refine lv_if_eq (tgt := 245) G.1 G.2.1 d_Fi_findMethod_236 (by decide) (fun c236 => ?_) (fun c236 => ?_)
                          · skip
                            have h := h.1 c236
                            exact J_245 s_j224 H locs h hP hD hS ls (lv_sub hl [] rfl)
                          · skip
                            have h := h.2 c236
                            refine lv_sipush (v := 5818) G.1 G.2.1 d_Fi_findMethod_239 (by decide) ?_
                            refine lv_goto (tgt := 246) G.1 G.2.1 d_Fi_findMethod_242 (by decide) ?_
                            exact J_246 s_j224 5818 H locs h hP hD hS ls (lv_sub hl [] rfl)
                      have J_219 : ∀ (s_j219 : St) (x8j219 : Int32) (H : Heap) (locs : List Loc), wj_Fi_findMethod_219 y Post a0 a1 s_j219 x8j219 → va_P D CL (ws g ad y s_j219) H → va_D A (ws g ad y s_j219) → va_S A s.heap H locs → ∀ ls, lv_has ls 11 [(8, .int x8j219)] → W p l e ru_Fi_findMethod s m args below meth c H locs 0 0 Q (F0 m 219 ls []) := by
                        intro s_j219 x8j219 H locs h hP hD hS ls hl
                        unfold wj_Fi_findMethod_219 at h
                        refine lv_iconst (v := 1) G.1 G.2.1 d_Fi_findMethod_219 (by decide) ?_
                        refine lv_goto (tgt := 224) G.1 G.2.1 d_Fi_findMethod_220 (by decide) ?_
                        exact J_224 s_j219 x8j219 1 H locs h hP hD hS ls (lv_sub hl [0] rfl)
                      refine lv_icmp_eq (tgt := 219) G.1 G.2.1 d_Fi_findMethod_205 (by decide) (fun c205 => ?_) (fun c205 => ?_)
                      · skip
                        have h := h.1 c205
                        exact J_219 s_j195 x8j195 H locs h hP hD hS ls (lv_sub hl [1] rfl)
                      · skip
                        have h := h.2 c205
                        refine lv_iload_n G.1 G.2.1 d_Fi_findMethod_208 rfl (lv_at hl 0 rfl) ?_
                        refine lv_bipush (v := 51) G.1 G.2.1 d_Fi_findMethod_209 (by decide) ?_
                        refine lv_icmp_eq (tgt := 219) G.1 G.2.1 d_Fi_findMethod_211 (by decide) (fun c211 => ?_) (fun c211 => ?_)
                        · skip
                          have h := h.1 c211
                          exact J_219 s_j195 x8j195 H locs h hP hD hS ls (lv_sub hl [1] rfl)
                        · skip
                          have h := h.2 c211
                          refine lv_iload G.1 G.2.1 d_Fi_findMethod_214 (lv_at hl 2 rfl) ?_
                          refine lv_if_eq (tgt := 223) G.1 G.2.1 d_Fi_findMethod_216 (by decide) (fun c216 => ?_) (fun c216 => ?_)
                          · skip
                            have h := h.1 c216
                            refine lv_iconst (v := 0) G.1 G.2.1 d_Fi_findMethod_223 (by decide) ?_
                            exact J_224 s_j195 x8j195 0 H locs h hP hD hS ls (lv_sub hl [1] rfl)
                          · skip
                            have h := h.2 c216
                            exact J_219 s_j195 x8j195 H locs h hP hD hS ls (lv_sub hl [1] rfl)
                    · skip
                      have h := h.2 c195
                      refine lv_sipush (v := 5515) G.1 G.2.1 d_Fi_findMethod_198 (by decide) ?_
                      exact hret _ _ _ _ _ _ _ ls h hP hD hS (Nat.le_refl _) (Nat.le_refl _) d_Fi_findMethod_201
                  refine lv_icmp_ne (tgt := 194) G.1 G.2.1 d_Fi_findMethod_187 (by decide) (fun c187 => ?_) (fun c187 => ?_)
                  · skip
                    have h := h.1 c187
                    refine lv_iconst (v := 0) G.1 G.2.1 d_Fi_findMethod_194 (by decide) ?_
                    exact J_195 s_j184 x3j184 x8j184 x9j184 z0j184 0 H locs h hP hD hS ls (lv_sub hl [0, 1, 2] rfl)
                  · skip
                    have h := h.2 c187
                    refine lv_iconst (v := 1) G.1 G.2.1 d_Fi_findMethod_190 (by decide) ?_
                    refine lv_goto (tgt := 195) G.1 G.2.1 d_Fi_findMethod_191 (by decide) ?_
                    exact J_195 s_j184 x3j184 x8j184 x9j184 z0j184 1 H locs h hP hD hS ls (lv_sub hl [0, 1, 2] rfl)
                refine lv_if_eq (tgt := 183) G.1 G.2.1 d_Fi_findMethod_176 (by decide) (fun c176 => ?_) (fun c176 => ?_)
                · skip
                  have h := h.1 c176
                  refine lv_iconst (v := 0) G.1 G.2.1 d_Fi_findMethod_183 (by decide) ?_
                  exact J_184 s_j172 x3j172 x8j172 x9j172 0 H locs h hP hD hS ls (lv_sub hl [0, 1, 2] rfl)
                · skip
                  have h := h.2 c176
                  refine lv_iconst (v := 1) G.1 G.2.1 d_Fi_findMethod_179 (by decide) ?_
                  refine lv_goto (tgt := 184) G.1 G.2.1 d_Fi_findMethod_180 (by decide) ?_
                  exact J_184 s_j172 x3j172 x8j172 x9j172 1 H locs h hP hD hS ls (lv_sub hl [0, 1, 2] rfl)
              refine lv_if_eq (tgt := 172) G.1 G.2.1 d_Fi_findMethod_143 (by decide) (fun c143 => ?_) (fun c143 => ?_)
              · skip
                have h := h.1 c143
                exact J_172 s_j139 x3j139 x8j139 z0j139 H locs h hP hD hS ls (lv_sub hl [4, 5, 0] rfl)
              · skip
                have h := h.2 c143
                refine lv_iload_n G.1 G.2.1 d_Fi_findMethod_146 rfl (lv_at hl 3 rfl) ?_
                refine lv_bipush (v := (-2)) G.1 G.2.1 d_Fi_findMethod_147 (by decide) ?_
                refine lv_icmp_eq (tgt := 172) G.1 G.2.1 d_Fi_findMethod_149 (by decide) (fun c149 => ?_) (fun c149 => ?_)
                · skip
                  have h := h.1 c149
                  exact J_172 s_j139 x3j139 x8j139 z0j139 H locs h hP hD hS ls (lv_sub hl [4, 5, 0] rfl)
                · skip
                  have h := h.2 c149
                  refine lv_aload_n G.1 G.2.1 d_Fi_findMethod_152 rfl (lv_at hl 1 rfl) ?_
                  refine ugf (v := .int (sV s_j139 a0 0)) G hP h_a0 iFi rfl 0 (by decide) rfl q726 rfl rfl d_Fi_findMethod_153 ?_
                  refine lv_iload_n G.1 G.2.1 d_Fi_findMethod_156 rfl (lv_at hl 3 rfl) ?_
                  refine lv_icmp_eq (tgt := 172) G.1 G.2.1 d_Fi_findMethod_157 (by decide) (fun c157 => ?_) (fun c157 => ?_)
                  · skip
                    have h := h.1 c157
                    exact J_172 s_j139 x3j139 x8j139 z0j139 H locs h hP hD hS ls (lv_sub hl [4, 5, 0] rfl)
                  · skip
                    have h := h.2 c157
                    refine lv_aload_n G.1 G.2.1 d_Fi_findMethod_160 rfl (lv_at hl 2 rfl) ?_
                    refine W.eq (g2 := F0 m 161 ls [.ref (ad a1)]) rfl ?_
                    refine lv_iconst (v := 5) G.1 G.2.1 d_Fi_findMethod_161 (by decide) ?_
                    refine ucVi (As := [.int 5]) (rest := []) G hP hD hS (cu_Wd_asks l D g ad y _ s_j139 a1 5 H.size h_a1 h) w9_Wd_asks q1556 ⟨Nat.le_of_ble_eq_true rfl, Nat.le_of_ble_eq_true rfl⟩ rfl rfl h_a1 (q := (RWd, TWd, 17)) rfl rfl hl.1 rfl (Nat.le_of_ble_eq_true rfl) rfl ⟨Nat.le_refl _, Nat.le_refl _⟩ d_Fi_findMethod_162 (fun r_9 s_10 H locs h hP hD hS => ?_)
                    refine lv_if_eq (tgt := 172) G.1 G.2.1 d_Fi_findMethod_165 (by decide) (fun c165 => ?_) (fun c165 => ?_)
                    · skip
                      have h := h.1 c165
                      exact J_172 s_10 x3j139 x8j139 z0j139 H locs h hP hD hS ls (lv_sub hl [4, 5, 0] rfl)
                    · skip
                      have h := h.2 c165
                      refine lv_sipush (v := 5314) G.1 G.2.1 d_Fi_findMethod_168 (by decide) ?_
                      exact hret _ _ _ _ _ _ _ ls h hP hD hS (Nat.le_refl _) (Nat.le_refl _) d_Fi_findMethod_171
            refine W.eq (g2 := F0 m 131 ls [.int (r_7 &&& 4)]) rfl ?_
            refine lv_if_eq (tgt := 138) G.1 G.2.1 d_Fi_findMethod_131 (by decide) (fun c131 => ?_) (fun c131 => ?_)
            · skip
              have h := h.1 c131
              refine lv_iconst (v := 0) G.1 G.2.1 d_Fi_findMethod_138 (by decide) ?_
              exact J_139 s_8 x2j112 x3j112 r_7 0 H locs h hP hD hS ls (lv_sub hl [1, 2, 3, 4, 0] rfl)
            · skip
              have h := h.2 c131
              refine lv_iconst (v := 1) G.1 G.2.1 d_Fi_findMethod_134 (by decide) ?_
              refine lv_goto (tgt := 139) G.1 G.2.1 d_Fi_findMethod_135 (by decide) ?_
              exact J_139 s_8 x2j112 x3j112 r_7 1 H locs h hP hD hS ls (lv_sub hl [1, 2, 3, 4, 0] rfl)
          refine lv_if_ne (tgt := 112) G.1 G.2.1 d_Fi_findMethod_85 (by decide) (fun c85 => ?_) (fun c85 => ?_)
          · skip
            have h := h.1 c85
            exact J_112 s_6 x2j74 x3j74 H locs h hP hD hS ls (lv_sub hl [1, 2, 3, 4] rfl)
          · skip
            have h := h.2 c85
            refine lv_iload G.1 G.2.1 d_Fi_findMethod_88 (lv_at hl 0 rfl) ?_
            have J_108 : ∀ (s_j108 : St) (H : Heap) (locs : List Loc), wj_Fi_findMethod_108 y Post a0 a1 s_j108 → va_P D CL (ws g ad y s_j108) H → va_D A (ws g ad y s_j108) → va_S A s.heap H locs → ∀ ls, lv_has ls 11 [] → W p l e ru_Fi_findMethod s m args below meth c H locs 0 0 Q (F0 m 108 ls []) := by
              intro s_j108 H locs h hP hD hS ls hl
              unfold wj_Fi_findMethod_108 at h
              refine lv_sipush (v := 5213) G.1 G.2.1 d_Fi_findMethod_108 (by decide) ?_
              exact hret _ _ _ _ _ _ _ ls h hP hD hS (Nat.le_refl _) (Nat.le_refl _) d_Fi_findMethod_111
            refine lv_if_ne (tgt := 108) G.1 G.2.1 d_Fi_findMethod_90 (by decide) (fun c90 => ?_) (fun c90 => ?_)
            · skip
              have h := h.1 c90
              exact J_108 s_6 H locs h hP hD hS ls (lv_sub hl [] rfl)
            · skip
              have h := h.2 c90
              refine lv_aload_n G.1 G.2.1 d_Fi_findMethod_93 rfl (lv_at hl 1 rfl) ?_
              refine lv_aload_n G.1 G.2.1 d_Fi_findMethod_94 rfl (lv_at hl 2 rfl) ?_
              refine W.eq (g2 := F0 m 95 ls [.ref (ad a1), .ref (ad a0)]) rfl ?_
              refine lv_aload_n G.1 G.2.1 d_Fi_findMethod_95 rfl (lv_at hl 1 rfl) ?_
              refine ugf (v := .int (sV s_6 a0 2)) G hP h_a0 iFi rfl 2 (by decide) rfl q732 rfl rfl d_Fi_findMethod_96 ?_
              refine lv_iload G.1 G.2.1 d_Fi_findMethod_99 (lv_at hl 5 rfl) ?_
              refine lv_iconst (v := 0) G.1 G.2.1 d_Fi_findMethod_101 (by decide) ?_
              refine ucVi (As := [.ref (ad a1), .int (sV s_6 a0 2), .int x5j74, .int 0]) (rest := []) G hP hD hS (cu_Fi_seekInFaces l D g ad y _ s_6 a0 a1 (sV s_6 a0 2) x5j74 0 H.size h_a0 h_a1 h) w9_Fi_seekInFaces q1829 ⟨Nat.le_of_ble_eq_true rfl, Nat.le_of_ble_eq_true rfl⟩ rfl rfl h_a0 (q := (RFi, TFi, 10)) rfl rfl hl.1 rfl (Nat.le_of_ble_eq_true rfl) rfl ⟨Nat.le_refl _, Nat.le_refl _⟩ d_Fi_findMethod_102 (fun r_11 s_12 H locs h hP hD hS => ?_)
              refine lv_if_ne (tgt := 112) G.1 G.2.1 d_Fi_findMethod_105 (by decide) (fun c105 => ?_) (fun c105 => ?_)
              · skip
                have h := h.1 c105
                exact J_112 s_12 x2j74 x3j74 H locs h hP hD hS ls (lv_sub hl [1, 2, 3, 4] rfl)
              · skip
                have h := h.2 c105
                exact J_108 s_12 H locs h hP hD hS ls (lv_sub hl [] rfl)
        refine lv_icmp_ne (tgt := 73) G.1 G.2.1 d_Fi_findMethod_66 (by decide) (fun c66 => ?_) (fun c66 => ?_)
        · skip
          have h := h.1 c66
          refine lv_iconst (v := 0) G.1 G.2.1 d_Fi_findMethod_73 (by decide) ?_
          exact J_74 s_4 x2j55 x3j55 x5j55 0 H locs h hP hD hS ls (lv_sub hl [0, 1, 2, 3, 4] rfl)
        · skip
          have h := h.2 c66
          refine lv_iconst (v := 1) G.1 G.2.1 d_Fi_findMethod_69 (by decide) ?_
          refine lv_goto (tgt := 74) G.1 G.2.1 d_Fi_findMethod_70 (by decide) ?_
          exact J_74 s_4 x2j55 x3j55 x5j55 1 H locs h hP hD hS ls (lv_sub hl [0, 1, 2, 3, 4] rfl)
      refine lv_icmp_ne (tgt := 55) G.1 G.2.1 d_Fi_findMethod_37 (by decide) (fun c37 => ?_) (fun c37 => ?_)
      · skip
        have h := h.1 c37
        exact J_55 s_j34 x2j34 x3j34 x5j34 H locs h hP hD hS ls (lv_sub hl [0, 1, 2, 3, 4] rfl)
      · skip
        have h := h.2 c37
        refine lv_aload_n G.1 G.2.1 d_Fi_findMethod_40 rfl (lv_at hl 1 rfl) ?_
        refine lv_aload_n G.1 G.2.1 d_Fi_findMethod_41 rfl (lv_at hl 0 rfl) ?_
        refine ugf (v := .int (sV s_j34 a0 2)) G hP h_a0 iFi rfl 2 (by decide) rfl q732 rfl rfl d_Fi_findMethod_42 ?_
        refine ucVi (As := [.int (sV s_j34 a0 2)]) (rest := []) G hP hD hS (cu_Wd_isFace l D g ad y _ s_j34 a1 (sV s_j34 a0 2) H.size h_a1 h) w9_Wd_isFace q1558 ⟨Nat.le_of_ble_eq_true rfl, Nat.le_of_ble_eq_true rfl⟩ rfl rfl h_a1 (q := (RWd, TWd, 17)) rfl rfl hl.1 rfl (Nat.le_of_ble_eq_true rfl) rfl ⟨Nat.le_refl _, Nat.le_refl _⟩ d_Fi_findMethod_45 (fun r_13 s_14 H locs h hP hD hS => ?_)
        refine lv_if_ne (tgt := 55) G.1 G.2.1 d_Fi_findMethod_48 (by decide) (fun c48 => ?_) (fun c48 => ?_)
        · skip
          have h := h.1 c48
          exact J_55 s_14 x2j34 x3j34 x5j34 H locs h hP hD hS ls (lv_sub hl [0, 1, 2, 3, 4] rfl)
        · skip
          have h := h.2 c48
          exact J_51 s_14 H locs h hP hD hS ls (lv_sub hl [] rfl)
    refine lv_icmp_ne (tgt := 34) G.1 G.2.1 d_Fi_findMethod_20 (by decide) (fun c20 => ?_) (fun c20 => ?_)
    · skip
      have h := h.1 c20
      exact J_34 s_2 v2 v3 v5 H locs h hP hD hS ls (lv_sub hl [1, 2, 3, 4, 6] rfl)
    · skip
      have h := h.2 c20
      refine lv_aload_n G.1 G.2.1 d_Fi_findMethod_23 rfl (lv_at hl 2 rfl) ?_
      refine W.eq (g2 := F0 m 24 ls [.ref (ad a1)]) rfl ?_
      refine lv_aload_n G.1 G.2.1 d_Fi_findMethod_24 rfl (lv_at hl 1 rfl) ?_
      refine ugf (v := .int (sV s_2 a0 2)) G hP h_a0 iFi rfl 2 (by decide) rfl q732 rfl rfl d_Fi_findMethod_25 ?_
      refine ucVi (As := [.int (sV s_2 a0 2)]) (rest := []) G hP hD hS (cu_Wd_isFace l D g ad y _ s_2 a1 (sV s_2 a0 2) H.size h_a1 h) w9_Wd_isFace q1558 ⟨Nat.le_of_ble_eq_true rfl, Nat.le_of_ble_eq_true rfl⟩ rfl rfl h_a1 (q := (RWd, TWd, 17)) rfl rfl hl.1 rfl (Nat.le_of_ble_eq_true rfl) rfl ⟨Nat.le_refl _, Nat.le_refl _⟩ d_Fi_findMethod_28 (fun r_15 s_16 H locs h hP hD hS => ?_)
      refine lv_if_ne (tgt := 51) G.1 G.2.1 d_Fi_findMethod_31 (by decide) (fun c31 => ?_) (fun c31 => ?_)
      · skip
        have h := h.1 c31
        exact J_51 s_16 H locs h hP hD hS ls (lv_sub hl [] rfl)
      · skip
        have h := h.2 c31
        exact J_34 s_16 v2 v3 v5 H locs h hP hD hS ls (lv_sub hl [1, 2, 3, 4, 6] rfl)
  · skip
    have h := h.2 c11
    refine lv_iload G.1 G.2.1 d_Fi_findMethod_14 (lv_at hl 0 rfl) ?_
    exact hret _ _ _ _ _ _ _ ls h hP hD hS (Nat.le_refl _) (Nat.le_refl _) d_Fi_findMethod_16
theorem q1090 : Cond.fieldLink "ClassWorks$Machine" 73 "ClassWorks$Machine" "finder" "LClassWorks$Finder;" ∈ lw_ok := lw_okmem (List.mem_of_getElem? (i := 1090) (by decide +kernel)) rfl
theorem q975 : Cond.fieldLink "ClassWorks$Machine" 195 "ClassWorks$Runner" "callClass" "I" ∈ lw_ok := lw_okmem (List.mem_of_getElem? (i := 975) (by decide +kernel)) rfl
theorem q979 : Cond.fieldLink "ClassWorks$Machine" 198 "ClassWorks$Runner" "callSign" "I" ∈ lw_ok := lw_okmem (List.mem_of_getElem? (i := 979) (by decide +kernel)) rfl
theorem q1816 : Cond.methodLink "ClassWorks$Machine" 201 y_Fi_findMethod ∈ lw_ok := lw_okmem (List.mem_of_getElem? (i := 1816) (by decide +kernel)) rfl
theorem q1819 : Cond.code y_Fi_findMethod b_Fi_findMethod 11 (some .int) ∈ lw_ok := lw_okmem (List.mem_of_getElem? (i := 1819) (by decide +kernel)) rfl
theorem q1817 : Cond.instanceMethod y_Fi_findMethod ∈ lw_ok := lw_okmem (List.mem_of_getElem? (i := 1817) (by decide +kernel)) rfl
theorem q1818 : Cond.selects y_Fi_findMethod.cls y_Fi_findMethod y_Fi_findMethod ∈ lw_ok := lw_okmem (List.mem_of_getElem? (i := 1818) (by decide +kernel)) rfl
theorem w9_Fi_findMethod : CWv y_Fi_findMethod b_Fi_findMethod 11 (some .int) 5 ∧ Cond.instanceMethod y_Fi_findMethod ∈ lw_ok ∧ Cond.selects y_Fi_findMethod.cls y_Fi_findMethod y_Fi_findMethod ∈ lw_ok := ⟨⟨q1819, q342, by decide +kernel, by decide +kernel, by decide +kernel⟩, q1817, q1818⟩
def y_Ma_planRun : MethodName := ⟨"ClassWorks$Machine", "planRun", "(LClassWorks$Runner;I)I"⟩
abbrev b_Ma_planRun : ByteArray := prog_6_method_13_code
theorem q727 : Cond.fieldLink "ClassWorks$Machine" 208 "ClassWorks$Finder" "cls" "I" ∈ lw_ok := lw_okmem (List.mem_of_getElem? (i := 727) (by decide +kernel)) rfl
theorem q733 : Cond.fieldLink "ClassWorks$Machine" 205 "ClassWorks$Finder" "named" "I" ∈ lw_ok := lw_okmem (List.mem_of_getElem? (i := 733) (by decide +kernel)) rfl
theorem d_Ma_planRun_0 : decode b_Ma_planRun 0 = .ok (.aload_n 0, 1) := by decide +kernel
theorem d_Ma_planRun_1 : decode b_Ma_planRun 1 = .ok (.aload_n 0, 1) := by decide +kernel
theorem d_Ma_planRun_2 : decode b_Ma_planRun 2 = .ok (.getfield 73, 3) := by decide +kernel
theorem d_Ma_planRun_5 : decode b_Ma_planRun 5 = .ok (.aload_n 0, 1) := by decide +kernel
theorem d_Ma_planRun_6 : decode b_Ma_planRun 6 = .ok (.getfield 69, 3) := by decide +kernel
theorem d_Ma_planRun_9 : decode b_Ma_planRun 9 = .ok (.iconst (-1), 1) := by decide +kernel
theorem d_Ma_planRun_10 : decode b_Ma_planRun 10 = .ok (.bipush 52, 2) := by decide +kernel
theorem d_Ma_planRun_12 : decode b_Ma_planRun 12 = .ok (.aload_n 1, 1) := by decide +kernel
theorem d_Ma_planRun_13 : decode b_Ma_planRun 13 = .ok (.getfield 195, 3) := by decide +kernel
theorem d_Ma_planRun_16 : decode b_Ma_planRun 16 = .ok (.aload_n 1, 1) := by decide +kernel
theorem d_Ma_planRun_17 : decode b_Ma_planRun 17 = .ok (.getfield 198, 3) := by decide +kernel
theorem d_Ma_planRun_20 : decode b_Ma_planRun 20 = .ok (.invokevirtual 201, 3) := by decide +kernel
theorem d_Ma_planRun_23 : decode b_Ma_planRun 23 = .ok (.putfield 60, 3) := by decide +kernel
theorem d_Ma_planRun_26 : decode b_Ma_planRun 26 = .ok (.aload_n 0, 1) := by decide +kernel
theorem d_Ma_planRun_27 : decode b_Ma_planRun 27 = .ok (.getfield 60, 3) := by decide +kernel
theorem d_Ma_planRun_30 : decode b_Ma_planRun 30 = .ok (.iconst (-1), 1) := by decide +kernel
theorem d_Ma_planRun_31 : decode b_Ma_planRun 31 = .ok (.if_icmp .ne 16, 3) := by decide +kernel
theorem d_Ma_planRun_34 : decode b_Ma_planRun 34 = .ok (.aload_n 0, 1) := by decide +kernel
theorem d_Ma_planRun_35 : decode b_Ma_planRun 35 = .ok (.aload_n 0, 1) := by decide +kernel
theorem d_Ma_planRun_36 : decode b_Ma_planRun 36 = .ok (.getfield 73, 3) := by decide +kernel
theorem d_Ma_planRun_39 : decode b_Ma_planRun 39 = .ok (.getfield 205, 3) := by decide +kernel
theorem d_Ma_planRun_42 : decode b_Ma_planRun 42 = .ok (.putfield 63, 3) := by decide +kernel
theorem d_Ma_planRun_45 : decode b_Ma_planRun 45 = .ok (.iconst 1, 1) := by decide +kernel
theorem d_Ma_planRun_46 : decode b_Ma_planRun 46 = .ok (.ireturn, 1) := by decide +kernel
theorem d_Ma_planRun_47 : decode b_Ma_planRun 47 = .ok (.aload_n 0, 1) := by decide +kernel
theorem d_Ma_planRun_48 : decode b_Ma_planRun 48 = .ok (.getfield 60, 3) := by decide +kernel
theorem d_Ma_planRun_51 : decode b_Ma_planRun 51 = .ok (.ifCond .eq 8, 3) := by decide +kernel
theorem d_Ma_planRun_54 : decode b_Ma_planRun 54 = .ok (.bipush 6, 2) := by decide +kernel
theorem d_Ma_planRun_56 : decode b_Ma_planRun 56 = .ok (.goto 18, 3) := by decide +kernel
theorem d_Ma_planRun_59 : decode b_Ma_planRun 59 = .ok (.aload_n 0, 1) := by decide +kernel
theorem d_Ma_planRun_60 : decode b_Ma_planRun 60 = .ok (.aload_n 0, 1) := by decide +kernel
theorem d_Ma_planRun_61 : decode b_Ma_planRun 61 = .ok (.getfield 73, 3) := by decide +kernel
theorem d_Ma_planRun_64 : decode b_Ma_planRun 64 = .ok (.getfield 208, 3) := by decide +kernel
theorem d_Ma_planRun_67 : decode b_Ma_planRun 67 = .ok (.iload_n 2, 1) := by decide +kernel
theorem d_Ma_planRun_68 : decode b_Ma_planRun 68 = .ok (.iconst 5, 1) := by decide +kernel
theorem d_Ma_planRun_69 : decode b_Ma_planRun 69 = .ok (.bipush 6, 2) := by decide +kernel
theorem d_Ma_planRun_71 : decode b_Ma_planRun 71 = .ok (.invokevirtual 180, 3) := by decide +kernel
theorem d_Ma_planRun_74 : decode b_Ma_planRun 74 = .ok (.ireturn, 1) := by decide +kernel
abbrev ru_Ma_planRun : Room := { frames := 3, cells := 0, slots := 0, locals := 84 }
def wj_Ma_planRun_74 (y : Ly) (Post : St → Int32 → Prop) (a0 : Nat) (a1 : Nat) (s_j74 : St) (z0j74 : Int32) : Prop := Post s_j74 z0j74
def wu_Ma_planRun (y : Ly) (Post : St → Int32 → Prop) (σ : St) (a0 : Nat) (a1 : Nat) (v2 : Int32) : Prop := wu_Fi_findMethod y (fun (s_2 : St) (r_1 : Int32) => xP (uV s_2 a0 16 r_1) (fun s_3 : St => ((¬ (sV s_3 a0 16) = (-1) → (((sV s_3 a0 16) = 0 → wu_Ma_planStartOf y (fun (s_5 : St) (r_4 : Int32) => wj_Ma_planRun_74 y Post a0 a1 s_5 r_4) s_3 a0 (sV s_3 (lk a0 14) 0) v2 5 6) ∧ (¬ ((sV s_3 a0 16) = 0) → wj_Ma_planRun_74 y Post a0 a1 s_3 6))) ∧ ((sV s_3 a0 16) = (-1) → xP (uV s_3 a0 17 (sV s_3 (lk a0 14) 2)) (fun s_6 : St => Post s_6 1))))) σ (lk a0 14) (lk a0 0) (-1) 52 (sV σ a1 0) (sV σ a1 1)
set_option maxHeartbeats 4000000 in
set_option maxRecDepth 100000 in
theorem cu_Ma_planRun (l : Launch) (D : va_G) (g : Nat → ClassId) (ad : Nat → Nat) (y : Ly) (Post : St → Int32 → Prop) (σ : St) (a0 : Nat) (a1 : Nat) (v2 : Int32) (sz : Nat) (h_a0 : cl a0 = 4) (h_a1 : cl a1 = 7) (h : wu_Ma_planRun y Post σ a0 a1 v2) : Met l y_Ma_planRun (mw y_Ma_planRun b_Ma_planRun 3 (some .int)) ru_Ma_planRun (PC g D [] [.ref (ad a0), .ref (ad a1), .int v2] sz (ws g ad y σ)) (va_Qi (fun (r : Int32) (u : St) => Post u r) (QW D (va_A (ws g ad y σ) sz) (fun u => ws g ad y u)) (va_A (ws g ad y σ) sz)) 0 0 (va_A (ws g ad y σ) sz) := by
  refine ofI (by decide +kernel) (Nat.le_of_ble_eq_true rfl) ?_
  intro p e s m args below meth c A Q ls H locs G hsz hP hD hS hl hret
  subst hsz
  have hl : lv_has ls 3 [(0, .ref (ad a0)), (1, .ref (ad a1)), (2, .int v2)] := hl
  unfold wu_Ma_planRun at h
  refine lv_aload_n G.1 G.2.1 d_Ma_planRun_0 rfl (lv_at hl 0 rfl) ?_
  refine lv_aload_n G.1 G.2.1 d_Ma_planRun_1 rfl (lv_at hl 0 rfl) ?_
  refine ugf (v := .ref (ad (lk a0 14))) G hP h_a0 iMa rfl 14 (by decide) rfl q1090 rfl rfl d_Ma_planRun_2 ?_
  refine lv_aload_n G.1 G.2.1 d_Ma_planRun_5 rfl (lv_at hl 0 rfl) ?_
  refine ugf (v := .ref (ad (lk a0 0))) G hP h_a0 iMa rfl 0 (by decide) rfl q1065 rfl rfl d_Ma_planRun_6 ?_
  refine lv_iconst (v := (-1)) G.1 G.2.1 d_Ma_planRun_9 (by decide) ?_
  refine lv_bipush (v := 52) G.1 G.2.1 d_Ma_planRun_10 (by decide) ?_
  refine lv_aload_n G.1 G.2.1 d_Ma_planRun_12 rfl (lv_at hl 1 rfl) ?_
  refine ugf (v := .int (sV σ a1 0)) G hP h_a1 iRu rfl 0 (by decide) rfl q975 rfl rfl d_Ma_planRun_13 ?_
  refine lv_aload_n G.1 G.2.1 d_Ma_planRun_16 rfl (lv_at hl 1 rfl) ?_
  refine ugf (v := .int (sV σ a1 1)) G hP h_a1 iRu rfl 1 (by decide) rfl q979 rfl rfl d_Ma_planRun_17 ?_
  refine W.eq (g2 := F0 m 20 ls [.int (sV σ a1 1), .int (sV σ a1 0), .int 52, .int (-1), .ref (ad (lk a0 0)), .ref (ad (lk a0 14)), .ref (ad a0)]) rfl ?_
  refine ucVi (As := [.ref (ad (lk a0 0)), .int (-1), .int 52, .int (sV σ a1 0), .int (sV σ a1 1)]) (rest := [.ref (ad a0)]) G hP hD hS (cu_Fi_findMethod l D g ad y _ σ (lk a0 14) (lk a0 0) (-1) 52 (sV σ a1 0) (sV σ a1 1) H.size (lk_4_14 h_a0) (lk_4_0 h_a0) h) w9_Fi_findMethod q1816 ⟨Nat.le_of_ble_eq_true rfl, Nat.le_of_ble_eq_true rfl⟩ rfl rfl (lk_4_14 h_a0) (q := (RFi, TFi, 10)) rfl rfl hl.1 rfl (Nat.le_of_ble_eq_true rfl) rfl ⟨Nat.le_refl _, Nat.le_refl _⟩ d_Ma_planRun_20 (fun r_1 s_2 H locs h hP hD hS => ?_)
  refine upf G hP hD hS h 16 putV h_a0 iMa tMa tMa_ok nMa rfl (by decide) rfl q1092 rfl rfl fV rfl rfl d_Ma_planRun_23 (fun s_3 H locs h hP hD hS => ?_)
  refine lv_aload_n G.1 G.2.1 d_Ma_planRun_26 rfl (lv_at hl 0 rfl) ?_
  refine ugf (v := .int (sV s_3 a0 16)) G hP h_a0 iMa rfl 16 (by decide) rfl q1092 rfl rfl d_Ma_planRun_27 ?_
  refine lv_iconst (v := (-1)) G.1 G.2.1 d_Ma_planRun_30 (by decide) ?_
  refine lv_icmp_ne (tgt := 47) G.1 G.2.1 d_Ma_planRun_31 (by decide) (fun c31 => ?_) (fun c31 => ?_)
  · skip
    have h := h.1 c31
    refine lv_aload_n G.1 G.2.1 d_Ma_planRun_47 rfl (lv_at hl 0 rfl) ?_
    refine ugf (v := .int (sV s_3 a0 16)) G hP h_a0 iMa rfl 16 (by decide) rfl q1092 rfl rfl d_Ma_planRun_48 ?_
    have J_74 : ∀ (s_j74 : St) (z0j74 : Int32) (H : Heap) (locs : List Loc), wj_Ma_planRun_74 y Post a0 a1 s_j74 z0j74 → va_P D CL (ws g ad y s_j74) H → va_D A (ws g ad y s_j74) → va_S A s.heap H locs → ∀ ls, lv_has ls 3 [] → W p l e ru_Ma_planRun s m args below meth c H locs 0 0 Q (F0 m 74 ls [.int z0j74]) := by
      intro s_j74 z0j74 H locs h hP hD hS ls hl
      unfold wj_Ma_planRun_74 at h
      exact hret _ _ _ _ _ _ _ ls h hP hD hS (Nat.le_refl _) (Nat.le_refl _) d_Ma_planRun_74
    refine lv_if_eq (tgt := 59) G.1 G.2.1 d_Ma_planRun_51 (by decide) (fun c51 => ?_) (fun c51 => ?_)
    · skip
      have h := h.1 c51
      refine lv_aload_n G.1 G.2.1 d_Ma_planRun_59 rfl (lv_at hl 0 rfl) ?_
      refine lv_aload_n G.1 G.2.1 d_Ma_planRun_60 rfl (lv_at hl 0 rfl) ?_
      refine ugf (v := .ref (ad (lk a0 14))) G hP h_a0 iMa rfl 14 (by decide) rfl q1090 rfl rfl d_Ma_planRun_61 ?_
      refine W.eq (g2 := F0 m 64 ls [.ref (ad (lk a0 14)), .ref (ad a0)]) rfl ?_
      refine ugf (v := .int (sV s_3 (lk a0 14) 0)) G hP (lk_4_14 h_a0) iFi rfl 0 (by decide) rfl q727 rfl rfl d_Ma_planRun_64 ?_
      refine lv_iload_n G.1 G.2.1 d_Ma_planRun_67 rfl (lv_at hl 2 rfl) ?_
      refine lv_iconst (v := 5) G.1 G.2.1 d_Ma_planRun_68 (by decide) ?_
      refine lv_bipush (v := 6) G.1 G.2.1 d_Ma_planRun_69 (by decide) ?_
      refine ucVi (As := [.int (sV s_3 (lk a0 14) 0), .int v2, .int 5, .int 6]) (rest := []) G hP hD hS (cu_Ma_planStartOf l D g ad y _ s_3 a0 (sV s_3 (lk a0 14) 0) v2 5 6 H.size h_a0 h) w9_Ma_planStartOf q1806 ⟨Nat.le_of_ble_eq_true rfl, Nat.le_of_ble_eq_true rfl⟩ rfl rfl h_a0 (q := (RMa, TMa, 19)) rfl rfl hl.1 rfl (Nat.le_of_ble_eq_true rfl) rfl ⟨Nat.le_refl _, Nat.le_refl _⟩ d_Ma_planRun_71 (fun r_4 s_5 H locs h hP hD hS => ?_)
      exact J_74 s_5 r_4 H locs h hP hD hS ls (lv_sub hl [] rfl)
    · skip
      have h := h.2 c51
      refine lv_bipush (v := 6) G.1 G.2.1 d_Ma_planRun_54 (by decide) ?_
      refine lv_goto (tgt := 74) G.1 G.2.1 d_Ma_planRun_56 (by decide) ?_
      exact J_74 s_3 6 H locs h hP hD hS ls (lv_sub hl [] rfl)
  · skip
    have h := h.2 c31
    refine lv_aload_n G.1 G.2.1 d_Ma_planRun_34 rfl (lv_at hl 0 rfl) ?_
    refine lv_aload_n G.1 G.2.1 d_Ma_planRun_35 rfl (lv_at hl 0 rfl) ?_
    refine ugf (v := .ref (ad (lk a0 14))) G hP h_a0 iMa rfl 14 (by decide) rfl q1090 rfl rfl d_Ma_planRun_36 ?_
    refine ugf (v := .int (sV s_3 (lk a0 14) 2)) G hP (lk_4_14 h_a0) iFi rfl 2 (by decide) rfl q733 rfl rfl d_Ma_planRun_39 ?_
    refine upf G hP hD hS h 17 putV h_a0 iMa tMa tMa_ok nMa rfl (by decide) rfl q1093 rfl rfl fV rfl rfl d_Ma_planRun_42 (fun s_6 H locs h hP hD hS => ?_)
    refine lv_iconst (v := 1) G.1 G.2.1 d_Ma_planRun_45 (by decide) ?_
    refine W.eq (g2 := F0 m 46 ls [.int 1]) rfl ?_
    exact hret _ _ _ _ _ _ _ ls h hP hD hS (Nat.le_refl _) (Nat.le_refl _) d_Ma_planRun_46
def y_Wd_code : MethodName := ⟨"ClassWorks$World", "code", "(III)I"⟩
abbrev b_Wd_code : ByteArray := prog_11_method_17_code
theorem d_Wd_code_0 : decode b_Wd_code 0 = .ok (.aload_n 0, 1) := by decide +kernel
theorem d_Wd_code_1 : decode b_Wd_code 1 = .ok (.getfield 28, 3) := by decide +kernel
theorem d_Wd_code_4 : decode b_Wd_code 4 = .ok (.iload_n 1, 1) := by decide +kernel
theorem d_Wd_code_5 : decode b_Wd_code 5 = .ok (.bipush 19, 2) := by decide +kernel
theorem d_Wd_code_7 : decode b_Wd_code 7 = .ok (.imul, 1) := by decide +kernel
theorem d_Wd_code_8 : decode b_Wd_code 8 = .ok (.bipush 10, 2) := by decide +kernel
theorem d_Wd_code_10 : decode b_Wd_code 10 = .ok (.iadd, 1) := by decide +kernel
theorem d_Wd_code_11 : decode b_Wd_code 11 = .ok (.iaload, 1) := by decide +kernel
theorem d_Wd_code_12 : decode b_Wd_code 12 = .ok (.iload_n 2, 1) := by decide +kernel
theorem d_Wd_code_13 : decode b_Wd_code 13 = .ok (.bipush 8, 2) := by decide +kernel
theorem d_Wd_code_15 : decode b_Wd_code 15 = .ok (.imul, 1) := by decide +kernel
theorem d_Wd_code_16 : decode b_Wd_code 16 = .ok (.iadd, 1) := by decide +kernel
theorem d_Wd_code_17 : decode b_Wd_code 17 = .ok (.istore 4, 2) := by decide +kernel
theorem d_Wd_code_19 : decode b_Wd_code 19 = .ok (.aload_n 0, 1) := by decide +kernel
theorem d_Wd_code_20 : decode b_Wd_code 20 = .ok (.getfield 45, 3) := by decide +kernel
theorem d_Wd_code_23 : decode b_Wd_code 23 = .ok (.getfield 98, 3) := by decide +kernel
theorem d_Wd_code_26 : decode b_Wd_code 26 = .ok (.iload 4, 2) := by decide +kernel
theorem d_Wd_code_28 : decode b_Wd_code 28 = .ok (.iconst 4, 1) := by decide +kernel
theorem d_Wd_code_29 : decode b_Wd_code 29 = .ok (.iadd, 1) := by decide +kernel
theorem d_Wd_code_30 : decode b_Wd_code 30 = .ok (.iaload, 1) := by decide +kernel
theorem d_Wd_code_31 : decode b_Wd_code 31 = .ok (.iload_n 3, 1) := by decide +kernel
theorem d_Wd_code_32 : decode b_Wd_code 32 = .ok (.iconst 5, 1) := by decide +kernel
theorem d_Wd_code_33 : decode b_Wd_code 33 = .ok (.imul, 1) := by decide +kernel
theorem d_Wd_code_34 : decode b_Wd_code 34 = .ok (.iadd, 1) := by decide +kernel
theorem d_Wd_code_35 : decode b_Wd_code 35 = .ok (.ireturn, 1) := by decide +kernel
abbrev ru_Wd_code : Room := { frames := 0, cells := 0, slots := 0, locals := 0 }
def wu_Wd_code (y : Ly) (Post : St → Int32 → Prop) (σ : St) (a0 : Nat) (v1 : Int32) (v2 : Int32) (v3 : Int32) : Prop := xA y σ a0 6 ((v1 * 19) + 10) (fun x_1 : Int32 => xA y σ (lk a0 9) 0 ((x_1 + (v2 * 8)) + 4) (fun x_2 : Int32 => Post σ (x_2 + (v3 * 5))))
set_option maxHeartbeats 4000000 in
set_option maxRecDepth 100000 in
theorem cu_Wd_code (l : Launch) (D : va_G) (g : Nat → ClassId) (ad : Nat → Nat) (y : Ly) (Post : St → Int32 → Prop) (σ : St) (a0 : Nat) (v1 : Int32) (v2 : Int32) (v3 : Int32) (sz : Nat) (h_a0 : cl a0 = 9) (h : wu_Wd_code y Post σ a0 v1 v2 v3) : Met l y_Wd_code (mw y_Wd_code b_Wd_code 5 (some .int)) ru_Wd_code (PC g D [] [.ref (ad a0), .int v1, .int v2, .int v3] sz (ws g ad y σ)) (va_Qi (fun (r : Int32) (u : St) => Post u r) (QW D (va_A (ws g ad y σ) sz) (fun u => ws g ad y u)) (va_A (ws g ad y σ) sz)) 0 0 (va_A (ws g ad y σ) sz) := by
  refine ofI (by decide +kernel) (Nat.le_of_ble_eq_true rfl) ?_
  intro p e s m args below meth c A Q ls H locs G hsz hP hD hS hl hret
  subst hsz
  have hl : lv_has ls 5 [(0, .ref (ad a0)), (1, .int v1), (2, .int v2), (3, .int v3)] := hl
  unfold wu_Wd_code at h
  refine lv_aload_n G.1 G.2.1 d_Wd_code_0 rfl (lv_at hl 0 rfl) ?_
  refine ugf (v := .ref (yP y a0 6)) G hP h_a0 iWd rfl 6 (by decide) rfl q831 rfl rfl d_Wd_code_1 ?_
  refine lv_iload_n G.1 G.2.1 d_Wd_code_4 rfl (lv_at hl 1 rfl) ?_
  refine lv_bipush (v := 19) G.1 G.2.1 d_Wd_code_5 (by decide) ?_
  refine lv_imul G.1 G.2.1 d_Wd_code_7 ?_
  refine lv_bipush (v := 10) G.1 G.2.1 d_Wd_code_8 (by decide) ?_
  refine lv_iadd G.1 G.2.1 d_Wd_code_10 ?_
  refine uiald G hP (kdp h_a0 rfl) (typ h_a0 rfl) h d_Wd_code_11 (fun x_1 h => ?_)
  refine lv_iload_n G.1 G.2.1 d_Wd_code_12 rfl (lv_at hl 2 rfl) ?_
  refine lv_bipush (v := 8) G.1 G.2.1 d_Wd_code_13 (by decide) ?_
  refine lv_imul G.1 G.2.1 d_Wd_code_15 ?_
  refine W.eq (g2 := F0 m 16 ls [.int (v2 * 8), .int x_1]) rfl ?_
  refine lv_iadd G.1 G.2.1 d_Wd_code_16 ?_
  refine lv_istore (lv' := [(4, .int (x_1 + (v2 * 8))), (0, .ref (ad a0)), (1, .int v1), (2, .int v2), (3, .int v3)]) G.1 G.2.1 d_Wd_code_17 hl (by decide) rfl (fun ls hl => ?_)
  refine lv_aload_n G.1 G.2.1 d_Wd_code_19 rfl (lv_at hl 1 rfl) ?_
  refine ugf (v := .ref (ad (lk a0 9))) G hP h_a0 iWd rfl 9 (by decide) rfl q839 rfl rfl d_Wd_code_20 ?_
  refine ugf (v := .ref (yP y (lk a0 9) 0)) G hP (lk_9_9 h_a0) iIn rfl 0 (by decide) rfl q384 rfl rfl d_Wd_code_23 ?_
  refine lv_iload G.1 G.2.1 d_Wd_code_26 (lv_at hl 0 rfl) ?_
  refine lv_iconst (v := 4) G.1 G.2.1 d_Wd_code_28 (by decide) ?_
  refine lv_iadd G.1 G.2.1 d_Wd_code_29 ?_
  refine uiald G hP (kdp (lk_9_9 h_a0) rfl) (typ (lk_9_9 h_a0) rfl) h d_Wd_code_30 (fun x_2 h => ?_)
  refine lv_iload_n G.1 G.2.1 d_Wd_code_31 rfl (lv_at hl 4 rfl) ?_
  refine lv_iconst (v := 5) G.1 G.2.1 d_Wd_code_32 (by decide) ?_
  refine lv_imul G.1 G.2.1 d_Wd_code_33 ?_
  refine W.eq (g2 := F0 m 34 ls [.int (v3 * 5), .int x_2]) rfl ?_
  refine lv_iadd G.1 G.2.1 d_Wd_code_34 ?_
  exact hret _ _ _ _ _ _ _ ls h hP hD hS (Nat.le_refl _) (Nat.le_refl _) d_Wd_code_35
def y_Ru_fromTop : MethodName := ⟨"ClassWorks$Runner", "fromTop", "(I)J"⟩
abbrev b_Ru_fromTop : ByteArray := prog_9_method_9_code
theorem q1020 : Cond.fieldLink "ClassWorks$Runner" 59 "ClassWorks$Runner" "places" "[J" ∈ lw_ok := lw_okmem (List.mem_of_getElem? (i := 1020) (by decide +kernel)) rfl
theorem q1017 : Cond.fieldLink "ClassWorks$Runner" 56 "ClassWorks$Runner" "depth" "[I" ∈ lw_ok := lw_okmem (List.mem_of_getElem? (i := 1017) (by decide +kernel)) rfl
theorem d_Ru_fromTop_0 : decode b_Ru_fromTop 0 = .ok (.aload_n 0, 1) := by decide +kernel
theorem d_Ru_fromTop_1 : decode b_Ru_fromTop 1 = .ok (.getfield 59, 3) := by decide +kernel
theorem d_Ru_fromTop_4 : decode b_Ru_fromTop 4 = .ok (.aload_n 0, 1) := by decide +kernel
theorem d_Ru_fromTop_5 : decode b_Ru_fromTop 5 = .ok (.getfield 44, 3) := by decide +kernel
theorem d_Ru_fromTop_8 : decode b_Ru_fromTop 8 = .ok (.iconst 1, 1) := by decide +kernel
theorem d_Ru_fromTop_9 : decode b_Ru_fromTop 9 = .ok (.isub, 1) := by decide +kernel
theorem d_Ru_fromTop_10 : decode b_Ru_fromTop 10 = .ok (.bipush 40, 2) := by decide +kernel
theorem d_Ru_fromTop_12 : decode b_Ru_fromTop 12 = .ok (.imul, 1) := by decide +kernel
theorem d_Ru_fromTop_13 : decode b_Ru_fromTop 13 = .ok (.bipush 20, 2) := by decide +kernel
theorem d_Ru_fromTop_15 : decode b_Ru_fromTop 15 = .ok (.iadd, 1) := by decide +kernel
theorem d_Ru_fromTop_16 : decode b_Ru_fromTop 16 = .ok (.aload_n 0, 1) := by decide +kernel
theorem d_Ru_fromTop_17 : decode b_Ru_fromTop 17 = .ok (.getfield 56, 3) := by decide +kernel
theorem d_Ru_fromTop_20 : decode b_Ru_fromTop 20 = .ok (.aload_n 0, 1) := by decide +kernel
theorem d_Ru_fromTop_21 : decode b_Ru_fromTop 21 = .ok (.getfield 44, 3) := by decide +kernel
theorem d_Ru_fromTop_24 : decode b_Ru_fromTop 24 = .ok (.iconst 1, 1) := by decide +kernel
theorem d_Ru_fromTop_25 : decode b_Ru_fromTop 25 = .ok (.isub, 1) := by decide +kernel
theorem d_Ru_fromTop_26 : decode b_Ru_fromTop 26 = .ok (.iaload, 1) := by decide +kernel
theorem d_Ru_fromTop_27 : decode b_Ru_fromTop 27 = .ok (.iadd, 1) := by decide +kernel
theorem d_Ru_fromTop_28 : decode b_Ru_fromTop 28 = .ok (.iconst 1, 1) := by decide +kernel
theorem d_Ru_fromTop_29 : decode b_Ru_fromTop 29 = .ok (.isub, 1) := by decide +kernel
theorem d_Ru_fromTop_30 : decode b_Ru_fromTop 30 = .ok (.iload_n 1, 1) := by decide +kernel
theorem d_Ru_fromTop_31 : decode b_Ru_fromTop 31 = .ok (.isub, 1) := by decide +kernel
theorem d_Ru_fromTop_32 : decode b_Ru_fromTop 32 = .ok (.laload, 1) := by decide +kernel
theorem d_Ru_fromTop_33 : decode b_Ru_fromTop 33 = .ok (.lreturn, 1) := by decide +kernel
abbrev ru_Ru_fromTop : Room := { frames := 0, cells := 0, slots := 0, locals := 0 }
def wu_Ru_fromTop (y : Ly) (Post : St → Int64 → Prop) (σ : St) (a0 : Nat) (v1 : Int32) : Prop := xA y σ a0 14 ((sV σ a0 10) - 1) (fun x_1 : Int32 => xB y σ a0 15 (((((((sV σ a0 10) - 1) * 40) + 20) + x_1) - 1) - v1) (fun x_2 : Int64 => Post σ x_2))
set_option maxHeartbeats 4000000 in
set_option maxRecDepth 100000 in
theorem cu_Ru_fromTop (l : Launch) (D : va_G) (g : Nat → ClassId) (ad : Nat → Nat) (y : Ly) (Post : St → Int64 → Prop) (σ : St) (a0 : Nat) (v1 : Int32) (sz : Nat) (h_a0 : cl a0 = 7) (h : wu_Ru_fromTop y Post σ a0 v1) : Met l y_Ru_fromTop (mw y_Ru_fromTop b_Ru_fromTop 2 (some (.long))) ru_Ru_fromTop (PC g D [] [.ref (ad a0), .int v1] sz (ws g ad y σ)) (va_Ql (fun (r : Int64) (u : St) => Post u r) (QW D (va_A (ws g ad y σ) sz) (fun u => ws g ad y u)) (va_A (ws g ad y σ) sz)) 0 0 (va_A (ws g ad y σ) sz) := by
  refine ofL (by decide +kernel) (Nat.le_of_ble_eq_true rfl) ?_
  intro p e s m args below meth c A Q ls H locs G hsz hP hD hS hl hret
  subst hsz
  have hl : lv_has ls 2 [(0, .ref (ad a0)), (1, .int v1)] := hl
  unfold wu_Ru_fromTop at h
  refine lv_aload_n G.1 G.2.1 d_Ru_fromTop_0 rfl (lv_at hl 0 rfl) ?_
  refine ugf (v := .ref (yP y a0 15)) G hP h_a0 iRu rfl 15 (by decide) rfl q1020 rfl rfl d_Ru_fromTop_1 ?_
  refine lv_aload_n G.1 G.2.1 d_Ru_fromTop_4 rfl (lv_at hl 0 rfl) ?_
  refine ugf (v := .int (sV σ a0 10)) G hP h_a0 iRu rfl 10 (by decide) rfl q1005 rfl rfl d_Ru_fromTop_5 ?_
  refine lv_iconst (v := 1) G.1 G.2.1 d_Ru_fromTop_8 (by decide) ?_
  refine lv_isub G.1 G.2.1 d_Ru_fromTop_9 ?_
  refine lv_bipush (v := 40) G.1 G.2.1 d_Ru_fromTop_10 (by decide) ?_
  refine lv_imul G.1 G.2.1 d_Ru_fromTop_12 ?_
  refine lv_bipush (v := 20) G.1 G.2.1 d_Ru_fromTop_13 (by decide) ?_
  refine lv_iadd G.1 G.2.1 d_Ru_fromTop_15 ?_
  refine lv_aload_n G.1 G.2.1 d_Ru_fromTop_16 rfl (lv_at hl 0 rfl) ?_
  refine W.eq (g2 := F0 m 17 ls [.ref (ad a0), .int ((((sV σ a0 10) - 1) * 40) + 20), .ref (yP y a0 15)]) rfl ?_
  refine ugf (v := .ref (yP y a0 14)) G hP h_a0 iRu rfl 14 (by decide) rfl q1017 rfl rfl d_Ru_fromTop_17 ?_
  refine lv_aload_n G.1 G.2.1 d_Ru_fromTop_20 rfl (lv_at hl 0 rfl) ?_
  refine ugf (v := .int (sV σ a0 10)) G hP h_a0 iRu rfl 10 (by decide) rfl q1005 rfl rfl d_Ru_fromTop_21 ?_
  refine lv_iconst (v := 1) G.1 G.2.1 d_Ru_fromTop_24 (by decide) ?_
  refine lv_isub G.1 G.2.1 d_Ru_fromTop_25 ?_
  refine uiald G hP (kdp h_a0 rfl) (typ h_a0 rfl) h d_Ru_fromTop_26 (fun x_1 h => ?_)
  refine lv_iadd G.1 G.2.1 d_Ru_fromTop_27 ?_
  refine lv_iconst (v := 1) G.1 G.2.1 d_Ru_fromTop_28 (by decide) ?_
  refine lv_isub G.1 G.2.1 d_Ru_fromTop_29 ?_
  refine lv_iload_n G.1 G.2.1 d_Ru_fromTop_30 rfl (lv_at hl 1 rfl) ?_
  refine lv_isub G.1 G.2.1 d_Ru_fromTop_31 ?_
  refine ulald G hP (kdp h_a0 rfl) (typ h_a0 rfl) h d_Ru_fromTop_32 (fun x_2 h => ?_)
  refine W.eq (g2 := F0 m 33 ls [.long x_2]) rfl ?_
  exact hret _ _ _ _ _ _ _ ls h hP hD hS (Nat.le_refl _) (Nat.le_refl _) d_Ru_fromTop_33
def y_Hp_lockOf : MethodName := ⟨"ClassWorks$Heap", "lockOf", "(I)I"⟩
abbrev b_Hp_lockOf : ByteArray := prog_4_method_8_code
theorem d_Hp_lockOf_0 : decode b_Hp_lockOf 0 = .ok (.iload_n 1, 1) := by decide +kernel
theorem d_Hp_lockOf_1 : decode b_Hp_lockOf 1 = .ok (.sipush 1000, 3) := by decide +kernel
theorem d_Hp_lockOf_4 : decode b_Hp_lockOf 4 = .ok (.isub, 1) := by decide +kernel
theorem d_Hp_lockOf_5 : decode b_Hp_lockOf 5 = .ok (.iconst 1, 1) := by decide +kernel
theorem d_Hp_lockOf_6 : decode b_Hp_lockOf 6 = .ok (.isub, 1) := by decide +kernel
theorem d_Hp_lockOf_7 : decode b_Hp_lockOf 7 = .ok (.istore_n 2, 1) := by decide +kernel
theorem d_Hp_lockOf_8 : decode b_Hp_lockOf 8 = .ok (.iload_n 2, 1) := by decide +kernel
theorem d_Hp_lockOf_9 : decode b_Hp_lockOf 9 = .ok (.ifCond .lt 28, 3) := by decide +kernel
theorem d_Hp_lockOf_12 : decode b_Hp_lockOf 12 = .ok (.iload_n 2, 1) := by decide +kernel
theorem d_Hp_lockOf_13 : decode b_Hp_lockOf 13 = .ok (.aload_n 0, 1) := by decide +kernel
theorem d_Hp_lockOf_14 : decode b_Hp_lockOf 14 = .ok (.getfield 52, 3) := by decide +kernel
theorem d_Hp_lockOf_17 : decode b_Hp_lockOf 17 = .ok (.getfield 71, 3) := by decide +kernel
theorem d_Hp_lockOf_20 : decode b_Hp_lockOf 20 = .ok (.if_icmp .ge 15, 3) := by decide +kernel
theorem d_Hp_lockOf_23 : decode b_Hp_lockOf 23 = .ok (.aload_n 0, 1) := by decide +kernel
theorem d_Hp_lockOf_24 : decode b_Hp_lockOf 24 = .ok (.getfield 52, 3) := by decide +kernel
theorem d_Hp_lockOf_27 : decode b_Hp_lockOf 27 = .ok (.getfield 84, 3) := by decide +kernel
theorem d_Hp_lockOf_30 : decode b_Hp_lockOf 30 = .ok (.iload_n 2, 1) := by decide +kernel
theorem d_Hp_lockOf_31 : decode b_Hp_lockOf 31 = .ok (.iaload, 1) := by decide +kernel
theorem d_Hp_lockOf_32 : decode b_Hp_lockOf 32 = .ok (.goto 4, 3) := by decide +kernel
theorem d_Hp_lockOf_35 : decode b_Hp_lockOf 35 = .ok (.iconst 0, 1) := by decide +kernel
theorem d_Hp_lockOf_36 : decode b_Hp_lockOf 36 = .ok (.ireturn, 1) := by decide +kernel
theorem d_Hp_lockOf_37 : decode b_Hp_lockOf 37 = .ok (.iload_n 1, 1) := by decide +kernel
theorem d_Hp_lockOf_38 : decode b_Hp_lockOf 38 = .ok (.iconst 1, 1) := by decide +kernel
theorem d_Hp_lockOf_39 : decode b_Hp_lockOf 39 = .ok (.if_icmp .lt 19, 3) := by decide +kernel
theorem d_Hp_lockOf_42 : decode b_Hp_lockOf 42 = .ok (.iload_n 1, 1) := by decide +kernel
theorem d_Hp_lockOf_43 : decode b_Hp_lockOf 43 = .ok (.sipush 800, 3) := by decide +kernel
theorem d_Hp_lockOf_46 : decode b_Hp_lockOf 46 = .ok (.if_icmp .gt 12, 3) := by decide +kernel
theorem d_Hp_lockOf_49 : decode b_Hp_lockOf 49 = .ok (.aload_n 0, 1) := by decide +kernel
theorem d_Hp_lockOf_50 : decode b_Hp_lockOf 50 = .ok (.getfield 31, 3) := by decide +kernel
theorem d_Hp_lockOf_53 : decode b_Hp_lockOf 53 = .ok (.iload_n 1, 1) := by decide +kernel
theorem d_Hp_lockOf_54 : decode b_Hp_lockOf 54 = .ok (.iaload, 1) := by decide +kernel
theorem d_Hp_lockOf_55 : decode b_Hp_lockOf 55 = .ok (.goto 4, 3) := by decide +kernel
theorem d_Hp_lockOf_58 : decode b_Hp_lockOf 58 = .ok (.iconst 0, 1) := by decide +kernel
theorem d_Hp_lockOf_59 : decode b_Hp_lockOf 59 = .ok (.ireturn, 1) := by decide +kernel
abbrev ru_Hp_lockOf : Room := { frames := 0, cells := 0, slots := 0, locals := 0 }
def wj_Hp_lockOf_59 (y : Ly) (Post : St → Int32 → Prop) (a0 : Nat) (s_j59 : St) (z0j59 : Int32) : Prop := Post s_j59 z0j59
def wj_Hp_lockOf_58 (y : Ly) (Post : St → Int32 → Prop) (a0 : Nat) (s_j58 : St) : Prop := wj_Hp_lockOf_59 y Post a0 s_j58 0
def wj_Hp_lockOf_36 (y : Ly) (Post : St → Int32 → Prop) (a0 : Nat) (s_j36 : St) (z0j36 : Int32) : Prop := Post s_j36 z0j36
def wu_Hp_lockOf (y : Ly) (Post : St → Int32 → Prop) (σ : St) (a0 : Nat) (v1 : Int32) : Prop := ((((v1 - 1000) - 1) < 0 → ((v1 < 1 → wj_Hp_lockOf_58 y Post a0 σ) ∧ (¬ (v1 < 1) → ((800 < v1 → wj_Hp_lockOf_58 y Post a0 σ) ∧ (¬ (800 < v1) → xA y σ a0 6 v1 (fun x_1 : Int32 => wj_Hp_lockOf_59 y Post a0 σ x_1)))))) ∧ (¬ (((v1 - 1000) - 1) < 0) → (((sV σ (lk a0 11) 1) ≤ ((v1 - 1000) - 1) → wj_Hp_lockOf_36 y Post a0 σ 0) ∧ (¬ ((sV σ (lk a0 11) 1) ≤ ((v1 - 1000) - 1)) → xA y σ (lk a0 11) 0 ((v1 - 1000) - 1) (fun x_2 : Int32 => wj_Hp_lockOf_36 y Post a0 σ x_2)))))
set_option maxHeartbeats 4000000 in
set_option maxRecDepth 100000 in
theorem cu_Hp_lockOf (l : Launch) (D : va_G) (g : Nat → ClassId) (ad : Nat → Nat) (y : Ly) (Post : St → Int32 → Prop) (σ : St) (a0 : Nat) (v1 : Int32) (sz : Nat) (h_a0 : cl a0 = 2) (h : wu_Hp_lockOf y Post σ a0 v1) : Met l y_Hp_lockOf (mw y_Hp_lockOf b_Hp_lockOf 3 (some .int)) ru_Hp_lockOf (PC g D [] [.ref (ad a0), .int v1] sz (ws g ad y σ)) (va_Qi (fun (r : Int32) (u : St) => Post u r) (QW D (va_A (ws g ad y σ) sz) (fun u => ws g ad y u)) (va_A (ws g ad y σ) sz)) 0 0 (va_A (ws g ad y σ) sz) := by
  refine ofI (by decide +kernel) (Nat.le_of_ble_eq_true rfl) ?_
  intro p e s m args below meth c A Q ls H locs G hsz hP hD hS hl hret
  subst hsz
  have hl : lv_has ls 3 [(0, .ref (ad a0)), (1, .int v1)] := hl
  unfold wu_Hp_lockOf at h
  refine lv_iload_n G.1 G.2.1 d_Hp_lockOf_0 rfl (lv_at hl 1 rfl) ?_
  refine lv_sipush (v := 1000) G.1 G.2.1 d_Hp_lockOf_1 (by decide) ?_
  refine lv_isub G.1 G.2.1 d_Hp_lockOf_4 ?_
  refine lv_iconst (v := 1) G.1 G.2.1 d_Hp_lockOf_5 (by decide) ?_
  refine lv_isub G.1 G.2.1 d_Hp_lockOf_6 ?_
  refine lv_istore_n (lv' := [(2, .int ((v1 - 1000) - 1)), (0, .ref (ad a0)), (1, .int v1)]) G.1 G.2.1 d_Hp_lockOf_7 rfl hl (by decide) rfl (fun ls hl => ?_)
  refine lv_iload_n G.1 G.2.1 d_Hp_lockOf_8 rfl (lv_at hl 0 rfl) ?_
  refine lv_if_lt (tgt := 37) G.1 G.2.1 d_Hp_lockOf_9 (by decide) (fun c9 => ?_) (fun c9 => ?_)
  · skip
    have h := h.1 c9
    refine lv_iload_n G.1 G.2.1 d_Hp_lockOf_37 rfl (lv_at hl 2 rfl) ?_
    refine lv_iconst (v := 1) G.1 G.2.1 d_Hp_lockOf_38 (by decide) ?_
    have J_59 : ∀ (s_j59 : St) (z0j59 : Int32) (H : Heap) (locs : List Loc), wj_Hp_lockOf_59 y Post a0 s_j59 z0j59 → va_P D CL (ws g ad y s_j59) H → va_D A (ws g ad y s_j59) → va_S A s.heap H locs → ∀ ls, lv_has ls 3 [] → W p l e ru_Hp_lockOf s m args below meth c H locs 0 0 Q (F0 m 59 ls [.int z0j59]) := by
      intro s_j59 z0j59 H locs h hP hD hS ls hl
      unfold wj_Hp_lockOf_59 at h
      exact hret _ _ _ _ _ _ _ ls h hP hD hS (Nat.le_refl _) (Nat.le_refl _) d_Hp_lockOf_59
    have J_58 : ∀ (s_j58 : St) (H : Heap) (locs : List Loc), wj_Hp_lockOf_58 y Post a0 s_j58 → va_P D CL (ws g ad y s_j58) H → va_D A (ws g ad y s_j58) → va_S A s.heap H locs → ∀ ls, lv_has ls 3 [] → W p l e ru_Hp_lockOf s m args below meth c H locs 0 0 Q (F0 m 58 ls []) := by
      intro s_j58 H locs h hP hD hS ls hl
      unfold wj_Hp_lockOf_58 at h
      refine lv_iconst (v := 0) G.1 G.2.1 d_Hp_lockOf_58 (by decide) ?_
      exact J_59 s_j58 0 H locs h hP hD hS ls (lv_sub hl [] rfl)
    refine lv_icmp_lt (tgt := 58) G.1 G.2.1 d_Hp_lockOf_39 (by decide) (fun c39 => ?_) (fun c39 => ?_)
    · skip
      have h := h.1 c39
      exact J_58 σ H locs h hP hD hS ls (lv_sub hl [] rfl)
    · skip
      have h := h.2 c39
      refine W.eq (g2 := F0 m 42 ls []) rfl ?_
      refine lv_iload_n G.1 G.2.1 d_Hp_lockOf_42 rfl (lv_at hl 2 rfl) ?_
      refine lv_sipush (v := 800) G.1 G.2.1 d_Hp_lockOf_43 (by decide) ?_
      refine lv_icmp_gt (tgt := 58) G.1 G.2.1 d_Hp_lockOf_46 (by decide) (fun c46 => ?_) (fun c46 => ?_)
      · skip
        have h := h.1 c46
        exact J_58 σ H locs h hP hD hS ls (lv_sub hl [] rfl)
      · skip
        have h := h.2 c46
        refine lv_aload_n G.1 G.2.1 d_Hp_lockOf_49 rfl (lv_at hl 1 rfl) ?_
        refine ugf (v := .ref (yP y a0 6)) G hP h_a0 iHp rfl 6 (by decide) rfl q927 rfl rfl d_Hp_lockOf_50 ?_
        refine lv_iload_n G.1 G.2.1 d_Hp_lockOf_53 rfl (lv_at hl 2 rfl) ?_
        refine uiald G hP (kdp h_a0 rfl) (typ h_a0 rfl) h d_Hp_lockOf_54 (fun x_1 h => ?_)
        refine lv_goto (tgt := 59) G.1 G.2.1 d_Hp_lockOf_55 (by decide) ?_
        exact J_59 σ x_1 H locs h hP hD hS ls (lv_sub hl [] rfl)
  · skip
    have h := h.2 c9
    refine lv_iload_n G.1 G.2.1 d_Hp_lockOf_12 rfl (lv_at hl 0 rfl) ?_
    refine lv_aload_n G.1 G.2.1 d_Hp_lockOf_13 rfl (lv_at hl 1 rfl) ?_
    refine ugf (v := .ref (ad (lk a0 11))) G hP h_a0 iHp rfl 11 (by decide) rfl q932 rfl rfl d_Hp_lockOf_14 ?_
    refine W.eq (g2 := F0 m 17 ls [.ref (ad (lk a0 11)), .int ((v1 - 1000) - 1)]) rfl ?_
    refine ugf (v := .int (sV σ (lk a0 11) 1)) G hP (lk_2_11 h_a0) iIn rfl 1 (by decide) rfl q392 rfl rfl d_Hp_lockOf_17 ?_
    have J_36 : ∀ (s_j36 : St) (z0j36 : Int32) (H : Heap) (locs : List Loc), wj_Hp_lockOf_36 y Post a0 s_j36 z0j36 → va_P D CL (ws g ad y s_j36) H → va_D A (ws g ad y s_j36) → va_S A s.heap H locs → ∀ ls, lv_has ls 3 [] → W p l e ru_Hp_lockOf s m args below meth c H locs 0 0 Q (F0 m 36 ls [.int z0j36]) := by
      intro s_j36 z0j36 H locs h hP hD hS ls hl
      unfold wj_Hp_lockOf_36 at h
      exact hret _ _ _ _ _ _ _ ls h hP hD hS (Nat.le_refl _) (Nat.le_refl _) d_Hp_lockOf_36
    refine lv_icmp_ge (tgt := 35) G.1 G.2.1 d_Hp_lockOf_20 (by decide) (fun c20 => ?_) (fun c20 => ?_)
    · skip
      have h := h.1 c20
      refine lv_iconst (v := 0) G.1 G.2.1 d_Hp_lockOf_35 (by decide) ?_
      exact J_36 σ 0 H locs h hP hD hS ls (lv_sub hl [] rfl)
    · skip
      have h := h.2 c20
      refine lv_aload_n G.1 G.2.1 d_Hp_lockOf_23 rfl (lv_at hl 1 rfl) ?_
      refine ugf (v := .ref (ad (lk a0 11))) G hP h_a0 iHp rfl 11 (by decide) rfl q932 rfl rfl d_Hp_lockOf_24 ?_
      refine ugf (v := .ref (yP y (lk a0 11) 0)) G hP (lk_2_11 h_a0) iIn rfl 0 (by decide) rfl q382 rfl rfl d_Hp_lockOf_27 ?_
      refine lv_iload_n G.1 G.2.1 d_Hp_lockOf_30 rfl (lv_at hl 0 rfl) ?_
      refine uiald G hP (kdp (lk_2_11 h_a0) rfl) (typ (lk_2_11 h_a0) rfl) h d_Hp_lockOf_31 (fun x_2 h => ?_)
      refine lv_goto (tgt := 36) G.1 G.2.1 d_Hp_lockOf_32 (by decide) ?_
      exact J_36 σ x_2 H locs h hP hD hS ls (lv_sub hl [] rfl)
theorem q1849 : Cond.methodLink "ClassWorks$Heap" 87 y_Hp_lockOf ∈ lw_ok := lw_okmem (List.mem_of_getElem? (i := 1849) (by decide +kernel)) rfl
theorem q1852 : Cond.code y_Hp_lockOf b_Hp_lockOf 3 (some .int) ∈ lw_ok := lw_okmem (List.mem_of_getElem? (i := 1852) (by decide +kernel)) rfl
theorem q1851 : Cond.instanceMethod y_Hp_lockOf ∈ lw_ok := lw_okmem (List.mem_of_getElem? (i := 1851) (by decide +kernel)) rfl
theorem q86 : Cond.selects y_Hp_lockOf.cls y_Hp_lockOf y_Hp_lockOf ∈ lw_ok := lw_okmem (List.mem_of_getElem? (i := 86) (by decide +kernel)) rfl
theorem w9_Hp_lockOf : CWv y_Hp_lockOf b_Hp_lockOf 3 (some .int) 1 ∧ Cond.instanceMethod y_Hp_lockOf ∈ lw_ok ∧ Cond.selects y_Hp_lockOf.cls y_Hp_lockOf y_Hp_lockOf ∈ lw_ok := ⟨⟨q1852, q346, by decide +kernel, by decide +kernel, by decide +kernel⟩, q1851, q86⟩
def y_Hp_lockedByOther : MethodName := ⟨"ClassWorks$Heap", "lockedByOther", "(II)Z"⟩
abbrev b_Hp_lockedByOther : ByteArray := prog_4_method_11_code
theorem d_Hp_lockedByOther_0 : decode b_Hp_lockedByOther 0 = .ok (.aload_n 0, 1) := by decide +kernel
theorem d_Hp_lockedByOther_1 : decode b_Hp_lockedByOther 1 = .ok (.iload_n 1, 1) := by decide +kernel
theorem d_Hp_lockedByOther_2 : decode b_Hp_lockedByOther 2 = .ok (.invokevirtual 87, 3) := by decide +kernel
theorem d_Hp_lockedByOther_5 : decode b_Hp_lockedByOther 5 = .ok (.istore_n 3, 1) := by decide +kernel
theorem d_Hp_lockedByOther_6 : decode b_Hp_lockedByOther 6 = .ok (.iload_n 3, 1) := by decide +kernel
theorem d_Hp_lockedByOther_7 : decode b_Hp_lockedByOther 7 = .ok (.iconst 4, 1) := by decide +kernel
theorem d_Hp_lockedByOther_8 : decode b_Hp_lockedByOther 8 = .ok (.if_icmp .lt 14, 3) := by decide +kernel
theorem d_Hp_lockedByOther_11 : decode b_Hp_lockedByOther 11 = .ok (.iload_n 3, 1) := by decide +kernel
theorem d_Hp_lockedByOther_12 : decode b_Hp_lockedByOther 12 = .ok (.iconst 4, 1) := by decide +kernel
theorem d_Hp_lockedByOther_13 : decode b_Hp_lockedByOther 13 = .ok (.irem, 1) := by decide +kernel
theorem d_Hp_lockedByOther_14 : decode b_Hp_lockedByOther 14 = .ok (.iload_n 2, 1) := by decide +kernel
theorem d_Hp_lockedByOther_15 : decode b_Hp_lockedByOther 15 = .ok (.if_icmp .eq 7, 3) := by decide +kernel
theorem d_Hp_lockedByOther_18 : decode b_Hp_lockedByOther 18 = .ok (.iconst 1, 1) := by decide +kernel
theorem d_Hp_lockedByOther_19 : decode b_Hp_lockedByOther 19 = .ok (.goto 4, 3) := by decide +kernel
theorem d_Hp_lockedByOther_22 : decode b_Hp_lockedByOther 22 = .ok (.iconst 0, 1) := by decide +kernel
theorem d_Hp_lockedByOther_23 : decode b_Hp_lockedByOther 23 = .ok (.ireturn, 1) := by decide +kernel
abbrev ru_Hp_lockedByOther : Room := { frames := 1, cells := 0, slots := 0, locals := 22 }
def wj_Hp_lockedByOther_23 (y : Ly) (Post : St → Int32 → Prop) (a0 : Nat) (s_j23 : St) (z0j23 : Int32) : Prop := (nb z0j23 ∧ Post s_j23 z0j23)
def wj_Hp_lockedByOther_22 (y : Ly) (Post : St → Int32 → Prop) (a0 : Nat) (s_j22 : St) : Prop := wj_Hp_lockedByOther_23 y Post a0 s_j22 0
def wu_Hp_lockedByOther (y : Ly) (Post : St → Int32 → Prop) (σ : St) (a0 : Nat) (v1 : Int32) (v2 : Int32) : Prop := wu_Hp_lockOf y (fun (s_2 : St) (r_1 : Int32) => ((r_1 < 4 → wj_Hp_lockedByOther_22 y Post a0 s_2) ∧ (¬ (r_1 < 4) → (((r_1 - r_1 / 4 * 4) = v2 → wj_Hp_lockedByOther_22 y Post a0 s_2) ∧ (¬ ((r_1 - r_1 / 4 * 4) = v2) → wj_Hp_lockedByOther_23 y Post a0 s_2 1))))) σ a0 v1
set_option maxHeartbeats 4000000 in
set_option maxRecDepth 100000 in
theorem cu_Hp_lockedByOther (l : Launch) (D : va_G) (g : Nat → ClassId) (ad : Nat → Nat) (y : Ly) (Post : St → Int32 → Prop) (σ : St) (a0 : Nat) (v1 : Int32) (v2 : Int32) (sz : Nat) (h_a0 : cl a0 = 2) (h : wu_Hp_lockedByOther y Post σ a0 v1 v2) : Met l y_Hp_lockedByOther (mw y_Hp_lockedByOther b_Hp_lockedByOther 4 (some (.boolean))) ru_Hp_lockedByOther (PC g D [] [.ref (ad a0), .int v1, .int v2] sz (ws g ad y σ)) (va_Qi (fun (r : Int32) (u : St) => Post u r) (QW D (va_A (ws g ad y σ) sz) (fun u => ws g ad y u)) (va_A (ws g ad y σ) sz)) 0 0 (va_A (ws g ad y σ) sz) := by
  refine ofZ (by decide +kernel) (Nat.le_of_ble_eq_true rfl) ?_
  intro p e s m args below meth c A Q ls H locs G hsz hP hD hS hl hret
  subst hsz
  have hl : lv_has ls 4 [(0, .ref (ad a0)), (1, .int v1), (2, .int v2)] := hl
  unfold wu_Hp_lockedByOther at h
  refine lv_aload_n G.1 G.2.1 d_Hp_lockedByOther_0 rfl (lv_at hl 0 rfl) ?_
  refine lv_iload_n G.1 G.2.1 d_Hp_lockedByOther_1 rfl (lv_at hl 1 rfl) ?_
  refine ucVi (As := [.int v1]) (rest := []) G hP hD hS (cu_Hp_lockOf l D g ad y _ σ a0 v1 H.size h_a0 h) w9_Hp_lockOf q1849 ⟨Nat.le_of_ble_eq_true rfl, Nat.le_of_ble_eq_true rfl⟩ rfl rfl h_a0 (q := (RHp, THp, 15)) rfl rfl hl.1 rfl (Nat.le_of_ble_eq_true rfl) rfl ⟨Nat.le_refl _, Nat.le_refl _⟩ d_Hp_lockedByOther_2 (fun r_1 s_2 H locs h hP hD hS => ?_)
  refine lv_istore_n (lv' := [(3, .int r_1), (0, .ref (ad a0)), (1, .int v1), (2, .int v2)]) G.1 G.2.1 d_Hp_lockedByOther_5 rfl hl (by decide) rfl (fun ls hl => ?_)
  refine lv_iload_n G.1 G.2.1 d_Hp_lockedByOther_6 rfl (lv_at hl 0 rfl) ?_
  refine lv_iconst (v := 4) G.1 G.2.1 d_Hp_lockedByOther_7 (by decide) ?_
  have J_23 : ∀ (s_j23 : St) (z0j23 : Int32) (H : Heap) (locs : List Loc), wj_Hp_lockedByOther_23 y Post a0 s_j23 z0j23 → va_P D CL (ws g ad y s_j23) H → va_D A (ws g ad y s_j23) → va_S A s.heap H locs → ∀ ls, lv_has ls 4 [] → W p l e ru_Hp_lockedByOther s m args below meth c H locs 0 0 Q (F0 m 23 ls [.int z0j23]) := by
    intro s_j23 z0j23 H locs h hP hD hS ls hl
    unfold wj_Hp_lockedByOther_23 at h
    exact hret _ _ _ _ _ _ _ ls (nb_n h.1) h.2 hP hD hS (Nat.le_refl _) (Nat.le_refl _) d_Hp_lockedByOther_23
  have J_22 : ∀ (s_j22 : St) (H : Heap) (locs : List Loc), wj_Hp_lockedByOther_22 y Post a0 s_j22 → va_P D CL (ws g ad y s_j22) H → va_D A (ws g ad y s_j22) → va_S A s.heap H locs → ∀ ls, lv_has ls 4 [] → W p l e ru_Hp_lockedByOther s m args below meth c H locs 0 0 Q (F0 m 22 ls []) := by
    intro s_j22 H locs h hP hD hS ls hl
    unfold wj_Hp_lockedByOther_22 at h
    refine lv_iconst (v := 0) G.1 G.2.1 d_Hp_lockedByOther_22 (by decide) ?_
    exact J_23 s_j22 0 H locs h hP hD hS ls (lv_sub hl [] rfl)
  refine lv_icmp_lt (tgt := 22) G.1 G.2.1 d_Hp_lockedByOther_8 (by decide) (fun c8 => ?_) (fun c8 => ?_)
  · skip
    have h := h.1 c8
    exact J_22 s_2 H locs h hP hD hS ls (lv_sub hl [] rfl)
  · skip
    have h := h.2 c8
    refine lv_iload_n G.1 G.2.1 d_Hp_lockedByOther_11 rfl (lv_at hl 0 rfl) ?_
    refine lv_iconst (v := 4) G.1 G.2.1 d_Hp_lockedByOther_12 (by decide) ?_
    refine lv_irem G.1 G.2.1 d_Hp_lockedByOther_13 (by decide) ?_
    refine lv_iload_n G.1 G.2.1 d_Hp_lockedByOther_14 rfl (lv_at hl 3 rfl) ?_
    refine W.eq (g2 := F0 m 15 ls [.int v2, .int (r_1 - r_1 / 4 * 4)]) rfl ?_
    refine lv_icmp_eq (tgt := 22) G.1 G.2.1 d_Hp_lockedByOther_15 (by decide) (fun c15 => ?_) (fun c15 => ?_)
    · skip
      have h := h.1 c15
      exact J_22 s_2 H locs h hP hD hS ls (lv_sub hl [] rfl)
    · skip
      have h := h.2 c15
      refine lv_iconst (v := 1) G.1 G.2.1 d_Hp_lockedByOther_18 (by decide) ?_
      refine lv_goto (tgt := 23) G.1 G.2.1 d_Hp_lockedByOther_19 (by decide) ?_
      exact J_23 s_2 1 H locs h hP hD hS ls (lv_sub hl [] rfl)
def y_Fi_findNew : MethodName := ⟨"ClassWorks$Finder", "findNew", "(LClassWorks$World;I)I"⟩
abbrev b_Fi_findNew : ByteArray := prog_3_method_13_code
theorem d_Fi_findNew_0 : decode b_Fi_findNew 0 = .ok (.aload_n 0, 1) := by decide +kernel
theorem d_Fi_findNew_1 : decode b_Fi_findNew 1 = .ok (.aload_n 1, 1) := by decide +kernel
theorem d_Fi_findNew_2 : decode b_Fi_findNew 2 = .ok (.iload_n 2, 1) := by decide +kernel
theorem d_Fi_findNew_3 : decode b_Fi_findNew 3 = .ok (.invokevirtual 192, 3) := by decide +kernel
theorem d_Fi_findNew_6 : decode b_Fi_findNew 6 = .ok (.istore_n 3, 1) := by decide +kernel
theorem d_Fi_findNew_7 : decode b_Fi_findNew 7 = .ok (.aload_n 0, 1) := by decide +kernel
theorem d_Fi_findNew_8 : decode b_Fi_findNew 8 = .ok (.aload_n 0, 1) := by decide +kernel
theorem d_Fi_findNew_9 : decode b_Fi_findNew 9 = .ok (.getfield 18, 3) := by decide +kernel
theorem d_Fi_findNew_12 : decode b_Fi_findNew 12 = .ok (.putfield 9, 3) := by decide +kernel
theorem d_Fi_findNew_15 : decode b_Fi_findNew 15 = .ok (.iload_n 3, 1) := by decide +kernel
theorem d_Fi_findNew_16 : decode b_Fi_findNew 16 = .ok (.ifCond .ne 31, 3) := by decide +kernel
theorem d_Fi_findNew_19 : decode b_Fi_findNew 19 = .ok (.aload_n 1, 1) := by decide +kernel
theorem d_Fi_findNew_20 : decode b_Fi_findNew 20 = .ok (.bipush 7, 2) := by decide +kernel
theorem d_Fi_findNew_22 : decode b_Fi_findNew 22 = .ok (.invokevirtual 65, 3) := by decide +kernel
theorem d_Fi_findNew_25 : decode b_Fi_findNew 25 = .ok (.ifCond .eq 22, 3) := by decide +kernel
theorem d_Fi_findNew_28 : decode b_Fi_findNew 28 = .ok (.aload_n 1, 1) := by decide +kernel
theorem d_Fi_findNew_29 : decode b_Fi_findNew 29 = .ok (.aload_n 0, 1) := by decide +kernel
theorem d_Fi_findNew_30 : decode b_Fi_findNew 30 = .ok (.getfield 9, 3) := by decide +kernel
theorem d_Fi_findNew_33 : decode b_Fi_findNew 33 = .ok (.iconst 1, 1) := by decide +kernel
theorem d_Fi_findNew_34 : decode b_Fi_findNew 34 = .ok (.invokevirtual 51, 3) := by decide +kernel
theorem d_Fi_findNew_37 : decode b_Fi_findNew 37 = .ok (.bipush 6, 2) := by decide +kernel
theorem d_Fi_findNew_39 : decode b_Fi_findNew 39 = .ok (.iand, 1) := by decide +kernel
theorem d_Fi_findNew_40 : decode b_Fi_findNew 40 = .ok (.ifCond .eq 7, 3) := by decide +kernel
theorem d_Fi_findNew_43 : decode b_Fi_findNew 43 = .ok (.sipush 5719, 3) := by decide +kernel
theorem d_Fi_findNew_46 : decode b_Fi_findNew 46 = .ok (.ireturn, 1) := by decide +kernel
theorem d_Fi_findNew_47 : decode b_Fi_findNew 47 = .ok (.iload_n 3, 1) := by decide +kernel
theorem d_Fi_findNew_48 : decode b_Fi_findNew 48 = .ok (.ireturn, 1) := by decide +kernel
abbrev ru_Fi_findNew : Room := { frames := 2, cells := 0, slots := 0, locals := 45 }
def wj_Fi_findNew_47 (y : Ly) (Post : St → Int32 → Prop) (a0 : Nat) (a1 : Nat) (s_j47 : St) (x3j47 : Int32) : Prop := Post s_j47 x3j47
def wu_Fi_findNew (y : Ly) (Post : St → Int32 → Prop) (σ : St) (a0 : Nat) (a1 : Nat) (v2 : Int32) : Prop := wu_Fi_nameClass y (fun (s_2 : St) (r_1 : Int32) => xP (uV s_2 a0 0 (sV s_2 a0 2)) (fun s_3 : St => ((¬ r_1 = 0 → wj_Fi_findNew_47 y Post a0 a1 s_3 r_1) ∧ (r_1 = 0 → wu_Wd_asks y (fun (s_5 : St) (r_4 : Int32) => ((r_4 = 0 → wj_Fi_findNew_47 y Post a0 a1 s_5 r_1) ∧ (¬ (r_4 = 0) → wu_Wd_of y (fun (s_7 : St) (r_6 : Int32) => (((r_6 &&& 6) = 0 → wj_Fi_findNew_47 y Post a0 a1 s_7 r_1) ∧ (¬ ((r_6 &&& 6) = 0) → Post s_7 5719))) s_5 a1 (sV s_5 a0 0) 1))) s_3 a1 7)))) σ a0 a1 v2
set_option maxHeartbeats 4000000 in
set_option maxRecDepth 100000 in
theorem cu_Fi_findNew (l : Launch) (D : va_G) (g : Nat → ClassId) (ad : Nat → Nat) (y : Ly) (Post : St → Int32 → Prop) (σ : St) (a0 : Nat) (a1 : Nat) (v2 : Int32) (sz : Nat) (h_a0 : cl a0 = 1) (h_a1 : cl a1 = 9) (h : wu_Fi_findNew y Post σ a0 a1 v2) : Met l y_Fi_findNew (mw y_Fi_findNew b_Fi_findNew 4 (some .int)) ru_Fi_findNew (PC g D [] [.ref (ad a0), .ref (ad a1), .int v2] sz (ws g ad y σ)) (va_Qi (fun (r : Int32) (u : St) => Post u r) (QW D (va_A (ws g ad y σ) sz) (fun u => ws g ad y u)) (va_A (ws g ad y σ) sz)) 0 0 (va_A (ws g ad y σ) sz) := by
  refine ofI (by decide +kernel) (Nat.le_of_ble_eq_true rfl) ?_
  intro p e s m args below meth c A Q ls H locs G hsz hP hD hS hl hret
  subst hsz
  have hl : lv_has ls 4 [(0, .ref (ad a0)), (1, .ref (ad a1)), (2, .int v2)] := hl
  unfold wu_Fi_findNew at h
  refine lv_aload_n G.1 G.2.1 d_Fi_findNew_0 rfl (lv_at hl 0 rfl) ?_
  refine lv_aload_n G.1 G.2.1 d_Fi_findNew_1 rfl (lv_at hl 1 rfl) ?_
  refine lv_iload_n G.1 G.2.1 d_Fi_findNew_2 rfl (lv_at hl 2 rfl) ?_
  refine ucVi (As := [.ref (ad a1), .int v2]) (rest := []) G hP hD hS (cu_Fi_nameClass l D g ad y _ σ a0 a1 v2 H.size h_a0 h_a1 h) w9_Fi_nameClass q1820 ⟨Nat.le_of_ble_eq_true rfl, Nat.le_of_ble_eq_true rfl⟩ rfl rfl h_a0 (q := (RFi, TFi, 10)) rfl rfl hl.1 rfl (Nat.le_of_ble_eq_true rfl) rfl ⟨Nat.le_refl _, Nat.le_refl _⟩ d_Fi_findNew_3 (fun r_1 s_2 H locs h hP hD hS => ?_)
  refine lv_istore_n (lv' := [(3, .int r_1), (0, .ref (ad a0)), (1, .ref (ad a1)), (2, .int v2)]) G.1 G.2.1 d_Fi_findNew_6 rfl hl (by decide) rfl (fun ls hl => ?_)
  refine lv_aload_n G.1 G.2.1 d_Fi_findNew_7 rfl (lv_at hl 1 rfl) ?_
  refine lv_aload_n G.1 G.2.1 d_Fi_findNew_8 rfl (lv_at hl 1 rfl) ?_
  refine ugf (v := .int (sV s_2 a0 2)) G hP h_a0 iFi rfl 2 (by decide) rfl q732 rfl rfl d_Fi_findNew_9 ?_
  refine upf G hP hD hS h 0 putV h_a0 iFi tFi tFi_ok nFi rfl (by decide) rfl q726 rfl rfl fV rfl rfl d_Fi_findNew_12 (fun s_3 H locs h hP hD hS => ?_)
  refine lv_iload_n G.1 G.2.1 d_Fi_findNew_15 rfl (lv_at hl 0 rfl) ?_
  have J_47 : ∀ (s_j47 : St) (x3j47 : Int32) (H : Heap) (locs : List Loc), wj_Fi_findNew_47 y Post a0 a1 s_j47 x3j47 → va_P D CL (ws g ad y s_j47) H → va_D A (ws g ad y s_j47) → va_S A s.heap H locs → ∀ ls, lv_has ls 4 [(3, .int x3j47)] → W p l e ru_Fi_findNew s m args below meth c H locs 0 0 Q (F0 m 47 ls []) := by
    intro s_j47 x3j47 H locs h hP hD hS ls hl
    unfold wj_Fi_findNew_47 at h
    refine lv_iload_n G.1 G.2.1 d_Fi_findNew_47 rfl (lv_at hl 0 rfl) ?_
    exact hret _ _ _ _ _ _ _ ls h hP hD hS (Nat.le_refl _) (Nat.le_refl _) d_Fi_findNew_48
  refine lv_if_ne (tgt := 47) G.1 G.2.1 d_Fi_findNew_16 (by decide) (fun c16 => ?_) (fun c16 => ?_)
  · skip
    have h := h.1 c16
    exact J_47 s_3 r_1 H locs h hP hD hS ls (lv_sub hl [0] rfl)
  · skip
    have h := h.2 c16
    refine W.eq (g2 := F0 m 19 ls []) rfl ?_
    refine lv_aload_n G.1 G.2.1 d_Fi_findNew_19 rfl (lv_at hl 2 rfl) ?_
    refine lv_bipush (v := 7) G.1 G.2.1 d_Fi_findNew_20 (by decide) ?_
    refine ucVi (As := [.int 7]) (rest := []) G hP hD hS (cu_Wd_asks l D g ad y _ s_3 a1 7 H.size h_a1 h) w9_Wd_asks q1556 ⟨Nat.le_of_ble_eq_true rfl, Nat.le_of_ble_eq_true rfl⟩ rfl rfl h_a1 (q := (RWd, TWd, 17)) rfl rfl hl.1 rfl (Nat.le_of_ble_eq_true rfl) rfl ⟨Nat.le_refl _, Nat.le_refl _⟩ d_Fi_findNew_22 (fun r_4 s_5 H locs h hP hD hS => ?_)
    refine lv_if_eq (tgt := 47) G.1 G.2.1 d_Fi_findNew_25 (by decide) (fun c25 => ?_) (fun c25 => ?_)
    · skip
      have h := h.1 c25
      exact J_47 s_5 r_1 H locs h hP hD hS ls (lv_sub hl [0] rfl)
    · skip
      have h := h.2 c25
      refine lv_aload_n G.1 G.2.1 d_Fi_findNew_28 rfl (lv_at hl 2 rfl) ?_
      refine lv_aload_n G.1 G.2.1 d_Fi_findNew_29 rfl (lv_at hl 1 rfl) ?_
      refine ugf (v := .int (sV s_5 a0 0)) G hP h_a0 iFi rfl 0 (by decide) rfl q726 rfl rfl d_Fi_findNew_30 ?_
      refine lv_iconst (v := 1) G.1 G.2.1 d_Fi_findNew_33 (by decide) ?_
      refine ucVi (As := [.int (sV s_5 a0 0), .int 1]) (rest := []) G hP hD hS (cu_Wd_of l D g ad y _ s_5 a1 (sV s_5 a0 0) 1 H.size h_a1 h) w9_Wd_of q1532 ⟨Nat.le_of_ble_eq_true rfl, Nat.le_of_ble_eq_true rfl⟩ rfl rfl h_a1 (q := (RWd, TWd, 17)) rfl rfl hl.1 rfl (Nat.le_of_ble_eq_true rfl) rfl ⟨Nat.le_refl _, Nat.le_refl _⟩ d_Fi_findNew_34 (fun r_6 s_7 H locs h hP hD hS => ?_)
      refine lv_bipush (v := 6) G.1 G.2.1 d_Fi_findNew_37 (by decide) ?_
      refine lv_iand G.1 G.2.1 d_Fi_findNew_39 ?_
      refine lv_if_eq (tgt := 47) G.1 G.2.1 d_Fi_findNew_40 (by decide) (fun c40 => ?_) (fun c40 => ?_)
      · skip
        have h := h.1 c40
        exact J_47 s_7 r_1 H locs h hP hD hS ls (lv_sub hl [0] rfl)
      · skip
        have h := h.2 c40
        refine W.eq (g2 := F0 m 43 ls []) rfl ?_
        refine lv_sipush (v := 5719) G.1 G.2.1 d_Fi_findNew_43 (by decide) ?_
        exact hret _ _ _ _ _ _ _ ls h hP hD hS (Nat.le_refl _) (Nat.le_refl _) d_Fi_findNew_46
theorem q1865 : Cond.methodLink "ClassWorks$Finder" 199 y_Wd_fieldWith ∈ lw_ok := lw_okmem (List.mem_of_getElem? (i := 1865) (by decide +kernel)) rfl
theorem q1436 : Cond.code y_Wd_fieldWith b_Wd_fieldWith 8 (some .int) ∈ lw_ok := lw_okmem (List.mem_of_getElem? (i := 1436) (by decide +kernel)) rfl
theorem q1434 : Cond.instanceMethod y_Wd_fieldWith ∈ lw_ok := lw_okmem (List.mem_of_getElem? (i := 1434) (by decide +kernel)) rfl
theorem q1435 : Cond.selects y_Wd_fieldWith.cls y_Wd_fieldWith y_Wd_fieldWith ∈ lw_ok := lw_okmem (List.mem_of_getElem? (i := 1435) (by decide +kernel)) rfl
theorem w9_Wd_fieldWith : CWv y_Wd_fieldWith b_Wd_fieldWith 8 (some .int) 3 ∧ Cond.instanceMethod y_Wd_fieldWith ∈ lw_ok ∧ Cond.selects y_Wd_fieldWith.cls y_Wd_fieldWith y_Wd_fieldWith ∈ lw_ok := ⟨⟨q1436, q345, by decide +kernel, by decide +kernel, by decide +kernel⟩, q1434, q1435⟩
def y_Fi_seekField : MethodName := ⟨"ClassWorks$Finder", "seekField", "(LClassWorks$World;II)Z"⟩
abbrev b_Fi_seekField : ByteArray := prog_3_method_15_code
theorem d_Fi_seekField_0 : decode b_Fi_seekField 0 = .ok (.aload_n 0, 1) := by decide +kernel
theorem d_Fi_seekField_1 : decode b_Fi_seekField 1 = .ok (.getfield 18, 3) := by decide +kernel
theorem d_Fi_seekField_4 : decode b_Fi_seekField 4 = .ok (.istore 4, 2) := by decide +kernel
theorem d_Fi_seekField_6 : decode b_Fi_seekField 6 = .ok (.iconst 0, 1) := by decide +kernel
theorem d_Fi_seekField_7 : decode b_Fi_seekField 7 = .ok (.istore 5, 2) := by decide +kernel
theorem d_Fi_seekField_9 : decode b_Fi_seekField 9 = .ok (.iload 5, 2) := by decide +kernel
theorem d_Fi_seekField_11 : decode b_Fi_seekField 11 = .ok (.bipush 51, 2) := by decide +kernel
theorem d_Fi_seekField_13 : decode b_Fi_seekField 13 = .ok (.if_icmp .ge 115, 3) := by decide +kernel
theorem d_Fi_seekField_16 : decode b_Fi_seekField 16 = .ok (.iload 4, 2) := by decide +kernel
theorem d_Fi_seekField_18 : decode b_Fi_seekField 18 = .ok (.ifCond .lt 110, 3) := by decide +kernel
theorem d_Fi_seekField_21 : decode b_Fi_seekField 21 = .ok (.aload_n 0, 1) := by decide +kernel
theorem d_Fi_seekField_22 : decode b_Fi_seekField 22 = .ok (.iload 4, 2) := by decide +kernel
theorem d_Fi_seekField_24 : decode b_Fi_seekField 24 = .ok (.putfield 9, 3) := by decide +kernel
theorem d_Fi_seekField_27 : decode b_Fi_seekField 27 = .ok (.aload_n 0, 1) := by decide +kernel
theorem d_Fi_seekField_28 : decode b_Fi_seekField 28 = .ok (.aload_n 1, 1) := by decide +kernel
theorem d_Fi_seekField_29 : decode b_Fi_seekField 29 = .ok (.iload 4, 2) := by decide +kernel
theorem d_Fi_seekField_31 : decode b_Fi_seekField 31 = .ok (.iload_n 2, 1) := by decide +kernel
theorem d_Fi_seekField_32 : decode b_Fi_seekField 32 = .ok (.iload_n 3, 1) := by decide +kernel
theorem d_Fi_seekField_33 : decode b_Fi_seekField 33 = .ok (.invokevirtual 199, 3) := by decide +kernel
theorem d_Fi_seekField_36 : decode b_Fi_seekField 36 = .ok (.putfield 15, 3) := by decide +kernel
theorem d_Fi_seekField_39 : decode b_Fi_seekField 39 = .ok (.iconst 0, 1) := by decide +kernel
theorem d_Fi_seekField_40 : decode b_Fi_seekField 40 = .ok (.istore 6, 2) := by decide +kernel
theorem d_Fi_seekField_42 : decode b_Fi_seekField 42 = .ok (.iload 6, 2) := by decide +kernel
theorem d_Fi_seekField_44 : decode b_Fi_seekField 44 = .ok (.aload_n 1, 1) := by decide +kernel
theorem d_Fi_seekField_45 : decode b_Fi_seekField 45 = .ok (.iload 4, 2) := by decide +kernel
theorem d_Fi_seekField_47 : decode b_Fi_seekField 47 = .ok (.bipush 18, 2) := by decide +kernel
theorem d_Fi_seekField_49 : decode b_Fi_seekField 49 = .ok (.invokevirtual 51, 3) := by decide +kernel
theorem d_Fi_seekField_52 : decode b_Fi_seekField 52 = .ok (.if_icmp .ge 53, 3) := by decide +kernel
theorem d_Fi_seekField_55 : decode b_Fi_seekField 55 = .ok (.aload_n 0, 1) := by decide +kernel
theorem d_Fi_seekField_56 : decode b_Fi_seekField 56 = .ok (.getfield 15, 3) := by decide +kernel
theorem d_Fi_seekField_59 : decode b_Fi_seekField 59 = .ok (.ifCond .ge 46, 3) := by decide +kernel
theorem d_Fi_seekField_62 : decode b_Fi_seekField 62 = .ok (.aload_n 0, 1) := by decide +kernel
theorem d_Fi_seekField_63 : decode b_Fi_seekField 63 = .ok (.aload_n 1, 1) := by decide +kernel
theorem d_Fi_seekField_64 : decode b_Fi_seekField 64 = .ok (.getfield 151, 3) := by decide +kernel
theorem d_Fi_seekField_67 : decode b_Fi_seekField 67 = .ok (.getfield 163, 3) := by decide +kernel
theorem d_Fi_seekField_70 : decode b_Fi_seekField 70 = .ok (.aload_n 1, 1) := by decide +kernel
theorem d_Fi_seekField_71 : decode b_Fi_seekField 71 = .ok (.iload 4, 2) := by decide +kernel
theorem d_Fi_seekField_73 : decode b_Fi_seekField 73 = .ok (.bipush 16, 2) := by decide +kernel
theorem d_Fi_seekField_75 : decode b_Fi_seekField 75 = .ok (.invokevirtual 51, 3) := by decide +kernel
theorem d_Fi_seekField_78 : decode b_Fi_seekField 78 = .ok (.iload 6, 2) := by decide +kernel
theorem d_Fi_seekField_80 : decode b_Fi_seekField 80 = .ok (.iadd, 1) := by decide +kernel
theorem d_Fi_seekField_81 : decode b_Fi_seekField 81 = .ok (.iaload, 1) := by decide +kernel
theorem d_Fi_seekField_82 : decode b_Fi_seekField 82 = .ok (.putfield 9, 3) := by decide +kernel
theorem d_Fi_seekField_85 : decode b_Fi_seekField 85 = .ok (.aload_n 0, 1) := by decide +kernel
theorem d_Fi_seekField_86 : decode b_Fi_seekField 86 = .ok (.aload_n 1, 1) := by decide +kernel
theorem d_Fi_seekField_87 : decode b_Fi_seekField 87 = .ok (.aload_n 0, 1) := by decide +kernel
theorem d_Fi_seekField_88 : decode b_Fi_seekField 88 = .ok (.getfield 9, 3) := by decide +kernel
theorem d_Fi_seekField_91 : decode b_Fi_seekField 91 = .ok (.iload_n 2, 1) := by decide +kernel
theorem d_Fi_seekField_92 : decode b_Fi_seekField 92 = .ok (.iload_n 3, 1) := by decide +kernel
theorem d_Fi_seekField_93 : decode b_Fi_seekField 93 = .ok (.invokevirtual 199, 3) := by decide +kernel
theorem d_Fi_seekField_96 : decode b_Fi_seekField 96 = .ok (.putfield 15, 3) := by decide +kernel
theorem d_Fi_seekField_99 : decode b_Fi_seekField 99 = .ok (.iinc 6 1, 3) := by decide +kernel
theorem d_Fi_seekField_102 : decode b_Fi_seekField 102 = .ok (.goto (-60), 3) := by decide +kernel
theorem d_Fi_seekField_105 : decode b_Fi_seekField 105 = .ok (.aload_n 0, 1) := by decide +kernel
theorem d_Fi_seekField_106 : decode b_Fi_seekField 106 = .ok (.getfield 15, 3) := by decide +kernel
theorem d_Fi_seekField_109 : decode b_Fi_seekField 109 = .ok (.ifCond .lt 5, 3) := by decide +kernel
theorem d_Fi_seekField_112 : decode b_Fi_seekField 112 = .ok (.iconst 1, 1) := by decide +kernel
theorem d_Fi_seekField_113 : decode b_Fi_seekField 113 = .ok (.ireturn, 1) := by decide +kernel
theorem d_Fi_seekField_114 : decode b_Fi_seekField 114 = .ok (.aload_n 1, 1) := by decide +kernel
theorem d_Fi_seekField_115 : decode b_Fi_seekField 115 = .ok (.iload 4, 2) := by decide +kernel
theorem d_Fi_seekField_117 : decode b_Fi_seekField 117 = .ok (.invokevirtual 109, 3) := by decide +kernel
theorem d_Fi_seekField_120 : decode b_Fi_seekField 120 = .ok (.istore 4, 2) := by decide +kernel
theorem d_Fi_seekField_122 : decode b_Fi_seekField 122 = .ok (.iinc 5 1, 3) := by decide +kernel
theorem d_Fi_seekField_125 : decode b_Fi_seekField 125 = .ok (.goto (-116), 3) := by decide +kernel
theorem d_Fi_seekField_128 : decode b_Fi_seekField 128 = .ok (.iconst 0, 1) := by decide +kernel
theorem d_Fi_seekField_129 : decode b_Fi_seekField 129 = .ok (.ireturn, 1) := by decide +kernel
abbrev ru_Fi_seekField : Room := { frames := 1, cells := 0, slots := 0, locals := 27 }
def wj_Fi_seekField_128 (y : Ly) (Post : St → Int32 → Prop) (a0 : Nat) (a1 : Nat) (s_j128 : St) : Prop := (nb 0 ∧ Post s_j128 0)
def wj_Fi_seekField_105 (y : Ly) (Post : St → Int32 → Prop) (K_9 : St → Int32 → Int32 → Int32 → Int32 → Prop) (a0 : Nat) (a1 : Nat) (s_j105 : St) (x2j105 : Int32) (x3j105 : Int32) (x4j105 : Int32) (x5j105 : Int32) : Prop := (((sV s_j105 a0 1) < 0 → wu_Wd_up y (fun (s_8 : St) (r_7 : Int32) => K_9 s_8 x2j105 x3j105 r_7 (x5j105 + 1)) s_j105 a1 x4j105) ∧ (¬ ((sV s_j105 a0 1) < 0) → (nb 1 ∧ Post s_j105 1)))
def wb_Fi_seekField_42 (y : Ly) (Post : St → Int32 → Prop) (K_9 : St → Int32 → Int32 → Int32 → Int32 → Prop) (K_42 : St → Int32 → Int32 → Int32 → Int32 → Int32 → Prop) (a0 : Nat) (a1 : Nat) (s_h42 : St) (x2h42 : Int32) (x3h42 : Int32) (x4h42 : Int32) (x5h42 : Int32) (x6h42 : Int32) : Prop := wu_Wd_of y (fun (s_6 : St) (r_5 : Int32) => ((r_5 ≤ x6h42 → wj_Fi_seekField_105 y Post K_9 a0 a1 s_6 x2h42 x3h42 x4h42 x5h42) ∧ (¬ (r_5 ≤ x6h42) → ((0 ≤ (sV s_6 a0 1) → wj_Fi_seekField_105 y Post K_9 a0 a1 s_6 x2h42 x3h42 x4h42 x5h42) ∧ (¬ (0 ≤ (sV s_6 a0 1)) → wu_Wd_of y (fun (s_10 : St) (r_9 : Int32) => xA y s_10 (lk a1 13) 0 (r_9 + x6h42) (fun x_11 : Int32 => xP (uV s_10 a0 0 x_11) (fun s_12 : St => wu_Wd_fieldWith y (fun (s_14 : St) (r_13 : Int32) => xP (uV s_14 a0 1 r_13) (fun s_15 : St => K_42 s_15 x2h42 x3h42 x4h42 x5h42 (x6h42 + 1))) s_12 a1 (sV s_12 a0 0) x2h42 x3h42))) s_6 a1 x4h42 16))))) s_h42 a1 x4h42 18
def wl_Fi_seekField_42 (y : Ly) (Post : St → Int32 → Prop) (K_9 : St → Int32 → Int32 → Int32 → Int32 → Prop) (a0 : Nat) (a1 : Nat) (s_h42 : St) (x2h42 : Int32) (x3h42 : Int32) (x4h42 : Int32) (x5h42 : Int32) (x6h42 : Int32) : Prop := ∃ (I : St → Int32 → Int32 → Int32 → Int32 → Int32 → Prop) (μ : St → Int32 → Int32 → Int32 → Int32 → Int32 → Nat), I s_h42 x2h42 x3h42 x4h42 x5h42 x6h42 ∧ ∀ (u : St) (t0 : Int32) (t1 : Int32) (t2 : Int32) (t3 : Int32) (t4 : Int32), I u t0 t1 t2 t3 t4 → wb_Fi_seekField_42 y Post K_9 (fun z t0q t1q t2q t3q t4q => I z t0q t1q t2q t3q t4q ∧ μ z t0q t1q t2q t3q t4q < μ u t0 t1 t2 t3 t4) a0 a1 u t0 t1 t2 t3 t4
def wb_Fi_seekField_9 (y : Ly) (Post : St → Int32 → Prop) (K_9 : St → Int32 → Int32 → Int32 → Int32 → Prop) (a0 : Nat) (a1 : Nat) (s_h9 : St) (x2h9 : Int32) (x3h9 : Int32) (x4h9 : Int32) (x5h9 : Int32) : Prop := ((51 ≤ x5h9 → wj_Fi_seekField_128 y Post a0 a1 s_h9) ∧ (¬ (51 ≤ x5h9) → ((x4h9 < 0 → wj_Fi_seekField_128 y Post a0 a1 s_h9) ∧ (¬ (x4h9 < 0) → xP (uV s_h9 a0 0 x4h9) (fun s_1 : St => wu_Wd_fieldWith y (fun (s_3 : St) (r_2 : Int32) => xP (uV s_3 a0 1 r_2) (fun s_4 : St => wl_Fi_seekField_42 y Post K_9 a0 a1 s_4 x2h9 x3h9 x4h9 x5h9 0)) s_1 a1 x4h9 x2h9 x3h9)))))
def wl_Fi_seekField_9 (y : Ly) (Post : St → Int32 → Prop) (a0 : Nat) (a1 : Nat) (s_h9 : St) (x2h9 : Int32) (x3h9 : Int32) (x4h9 : Int32) (x5h9 : Int32) : Prop := ∃ (I : St → Int32 → Int32 → Int32 → Int32 → Prop) (μ : St → Int32 → Int32 → Int32 → Int32 → Nat), I s_h9 x2h9 x3h9 x4h9 x5h9 ∧ ∀ (u : St) (t0 : Int32) (t1 : Int32) (t2 : Int32) (t3 : Int32), I u t0 t1 t2 t3 → wb_Fi_seekField_9 y Post (fun z t0q t1q t2q t3q => I z t0q t1q t2q t3q ∧ μ z t0q t1q t2q t3q < μ u t0 t1 t2 t3) a0 a1 u t0 t1 t2 t3
def wu_Fi_seekField (y : Ly) (Post : St → Int32 → Prop) (σ : St) (a0 : Nat) (a1 : Nat) (v2 : Int32) (v3 : Int32) : Prop := wl_Fi_seekField_9 y Post a0 a1 σ v2 v3 (sV σ a0 2) 0
set_option maxHeartbeats 4000000 in
set_option maxRecDepth 100000 in
theorem cu_Fi_seekField (l : Launch) (D : va_G) (g : Nat → ClassId) (ad : Nat → Nat) (y : Ly) (Post : St → Int32 → Prop) (σ : St) (a0 : Nat) (a1 : Nat) (v2 : Int32) (v3 : Int32) (sz : Nat) (h_a0 : cl a0 = 1) (h_a1 : cl a1 = 9) (h : wu_Fi_seekField y Post σ a0 a1 v2 v3) : Met l y_Fi_seekField (mw y_Fi_seekField b_Fi_seekField 7 (some (.boolean))) ru_Fi_seekField (PC g D [] [.ref (ad a0), .ref (ad a1), .int v2, .int v3] sz (ws g ad y σ)) (va_Qi (fun (r : Int32) (u : St) => Post u r) (QW D (va_A (ws g ad y σ) sz) (fun u => ws g ad y u)) (va_A (ws g ad y σ) sz)) 0 0 (va_A (ws g ad y σ) sz) := by
  refine ofZ (by decide +kernel) (Nat.le_of_ble_eq_true rfl) ?_
  intro p e s m args below meth c A Q ls H locs G hsz hP hD hS hl hret
  subst hsz
  have hl : lv_has ls 7 [(0, .ref (ad a0)), (1, .ref (ad a1)), (2, .int v2), (3, .int v3)] := hl
  unfold wu_Fi_seekField at h
  refine lv_aload_n G.1 G.2.1 d_Fi_seekField_0 rfl (lv_at hl 0 rfl) ?_
  refine ugf (v := .int (sV σ a0 2)) G hP h_a0 iFi rfl 2 (by decide) rfl q732 rfl rfl d_Fi_seekField_1 ?_
  refine lv_istore (lv' := [(4, .int (sV σ a0 2)), (0, .ref (ad a0)), (1, .ref (ad a1)), (2, .int v2), (3, .int v3)]) G.1 G.2.1 d_Fi_seekField_4 hl (by decide) rfl (fun ls hl => ?_)
  refine lv_iconst (v := 0) G.1 G.2.1 d_Fi_seekField_6 (by decide) ?_
  refine lv_istore (lv' := [(5, .int 0), (4, .int (sV σ a0 2)), (0, .ref (ad a0)), (1, .ref (ad a1)), (2, .int v2), (3, .int v3)]) G.1 G.2.1 d_Fi_seekField_7 hl (by decide) rfl (fun ls hl => ?_)
  unfold wl_Fi_seekField_9 at h
  obtain ⟨I_9, μ_9, hI_9, hB_9⟩ := h
  have L_9 : ∀ (n_9 : Nat) (s_h9 : St) (x2h9 : Int32) (x3h9 : Int32) (x4h9 : Int32) (x5h9 : Int32), μ_9 s_h9 x2h9 x3h9 x4h9 x5h9 < n_9 → I_9 s_h9 x2h9 x3h9 x4h9 x5h9 → ∀ (H : Heap) (locs : List Loc), va_P D CL (ws g ad y s_h9) H → va_D A (ws g ad y s_h9) → va_S A s.heap H locs → ∀ ls, lv_has ls 7 [(0, .ref (ad a0)), (1, .ref (ad a1)), (2, .int x2h9), (3, .int x3h9), (4, .int x4h9), (5, .int x5h9)] → W p l e ru_Fi_seekField s m args below meth c H locs 0 0 Q (F0 m 9 ls []) := by
    intro n_9
    induction n_9 with
    | zero => intro s_h9 x2h9 x3h9 x4h9 x5h9 hμ; exact absurd hμ (Nat.not_lt_zero _)
    | succ n_9 ih_9 =>
      intro s_h9 x2h9 x3h9 x4h9 x5h9 hμ_9 hJ H locs hP hD hS ls hl
      obtain ⟨K_9, hK_9, h⟩ : ∃ K : St → Int32 → Int32 → Int32 → Int32 → Prop, (∀ z (t0 : Int32) (t1 : Int32) (t2 : Int32) (t3 : Int32), K z t0 t1 t2 t3 → I_9 z t0 t1 t2 t3 ∧ μ_9 z t0 t1 t2 t3 < μ_9 s_h9 x2h9 x3h9 x4h9 x5h9) ∧ wb_Fi_seekField_9 y Post K a0 a1 s_h9 x2h9 x3h9 x4h9 x5h9 := ⟨_, fun _ _ _ _ _ h => h, hB_9 s_h9 x2h9 x3h9 x4h9 x5h9 hJ⟩
      unfold wb_Fi_seekField_9 at h
      refine lv_iload G.1 G.2.1 d_Fi_seekField_9 (lv_at hl 5 rfl) ?_
      refine lv_bipush (v := 51) G.1 G.2.1 d_Fi_seekField_11 (by decide) ?_
      have J_128 : ∀ (s_j128 : St) (H : Heap) (locs : List Loc), wj_Fi_seekField_128 y Post a0 a1 s_j128 → va_P D CL (ws g ad y s_j128) H → va_D A (ws g ad y s_j128) → va_S A s.heap H locs → ∀ ls, lv_has ls 7 [] → W p l e ru_Fi_seekField s m args below meth c H locs 0 0 Q (F0 m 128 ls []) := by
        intro s_j128 H locs h hP hD hS ls hl
        unfold wj_Fi_seekField_128 at h
        refine lv_iconst (v := 0) G.1 G.2.1 d_Fi_seekField_128 (by decide) ?_
        exact hret _ _ _ _ _ _ _ ls (nb_n h.1) h.2 hP hD hS (Nat.le_refl _) (Nat.le_refl _) d_Fi_seekField_129
      refine lv_icmp_ge (tgt := 128) G.1 G.2.1 d_Fi_seekField_13 (by decide) (fun c13 => ?_) (fun c13 => ?_)
      · skip
        have h := h.1 c13
        exact J_128 s_h9 H locs h hP hD hS ls (lv_sub hl [] rfl)
      · skip
        have h := h.2 c13
        refine lv_iload G.1 G.2.1 d_Fi_seekField_16 (lv_at hl 4 rfl) ?_
        refine lv_if_lt (tgt := 128) G.1 G.2.1 d_Fi_seekField_18 (by decide) (fun c18 => ?_) (fun c18 => ?_)
        · skip
          have h := h.1 c18
          exact J_128 s_h9 H locs h hP hD hS ls (lv_sub hl [] rfl)
        · skip
          have h := h.2 c18
          refine lv_aload_n G.1 G.2.1 d_Fi_seekField_21 rfl (lv_at hl 0 rfl) ?_
          refine lv_iload G.1 G.2.1 d_Fi_seekField_22 (lv_at hl 4 rfl) ?_
          refine upf G hP hD hS h 0 putV h_a0 iFi tFi tFi_ok nFi rfl (by decide) rfl q726 rfl rfl fV rfl rfl d_Fi_seekField_24 (fun s_1 H locs h hP hD hS => ?_)
          refine lv_aload_n G.1 G.2.1 d_Fi_seekField_27 rfl (lv_at hl 0 rfl) ?_
          refine lv_aload_n G.1 G.2.1 d_Fi_seekField_28 rfl (lv_at hl 1 rfl) ?_
          refine lv_iload G.1 G.2.1 d_Fi_seekField_29 (lv_at hl 4 rfl) ?_
          refine W.eq (g2 := F0 m 31 ls [.int x4h9, .ref (ad a1), .ref (ad a0)]) rfl ?_
          refine lv_iload_n G.1 G.2.1 d_Fi_seekField_31 rfl (lv_at hl 2 rfl) ?_
          refine lv_iload_n G.1 G.2.1 d_Fi_seekField_32 rfl (lv_at hl 3 rfl) ?_
          refine ucVi (As := [.int x4h9, .int x2h9, .int x3h9]) (rest := [.ref (ad a0)]) G hP hD hS (cu_Wd_fieldWith l D g ad y _ s_1 a1 x4h9 x2h9 x3h9 H.size h_a1 h) w9_Wd_fieldWith q1865 ⟨Nat.le_of_ble_eq_true rfl, Nat.le_of_ble_eq_true rfl⟩ rfl rfl h_a1 (q := (RWd, TWd, 17)) rfl rfl hl.1 rfl (Nat.le_of_ble_eq_true rfl) rfl ⟨Nat.le_refl _, Nat.le_refl _⟩ d_Fi_seekField_33 (fun r_2 s_3 H locs h hP hD hS => ?_)
          refine upf G hP hD hS h 1 putV h_a0 iFi tFi tFi_ok nFi rfl (by decide) rfl q729 rfl rfl fV rfl rfl d_Fi_seekField_36 (fun s_4 H locs h hP hD hS => ?_)
          refine lv_iconst (v := 0) G.1 G.2.1 d_Fi_seekField_39 (by decide) ?_
          refine lv_istore (lv' := [(6, .int 0), (0, .ref (ad a0)), (1, .ref (ad a1)), (2, .int x2h9), (3, .int x3h9), (4, .int x4h9), (5, .int x5h9)]) G.1 G.2.1 d_Fi_seekField_40 hl (by decide) rfl (fun ls hl => ?_)
          unfold wl_Fi_seekField_42 at h
          obtain ⟨I_42, μ_42, hI_42, hB_42⟩ := h
          have L_42 : ∀ (n_42 : Nat) (s_h42 : St) (x2h42 : Int32) (x3h42 : Int32) (x4h42 : Int32) (x5h42 : Int32) (x6h42 : Int32), μ_42 s_h42 x2h42 x3h42 x4h42 x5h42 x6h42 < n_42 → I_42 s_h42 x2h42 x3h42 x4h42 x5h42 x6h42 → ∀ (H : Heap) (locs : List Loc), va_P D CL (ws g ad y s_h42) H → va_D A (ws g ad y s_h42) → va_S A s.heap H locs → ∀ ls, lv_has ls 7 [(0, .ref (ad a0)), (1, .ref (ad a1)), (2, .int x2h42), (3, .int x3h42), (4, .int x4h42), (5, .int x5h42), (6, .int x6h42)] → W p l e ru_Fi_seekField s m args below meth c H locs 0 0 Q (F0 m 42 ls []) := by
            intro n_42
            induction n_42 with
            | zero => intro s_h42 x2h42 x3h42 x4h42 x5h42 x6h42 hμ; exact absurd hμ (Nat.not_lt_zero _)
            | succ n_42 ih_42 =>
              intro s_h42 x2h42 x3h42 x4h42 x5h42 x6h42 hμ_42 hJ H locs hP hD hS ls hl
              obtain ⟨K_42, hK_42, h⟩ : ∃ K : St → Int32 → Int32 → Int32 → Int32 → Int32 → Prop, (∀ z (t0 : Int32) (t1 : Int32) (t2 : Int32) (t3 : Int32) (t4 : Int32), K z t0 t1 t2 t3 t4 → I_42 z t0 t1 t2 t3 t4 ∧ μ_42 z t0 t1 t2 t3 t4 < μ_42 s_h42 x2h42 x3h42 x4h42 x5h42 x6h42) ∧ wb_Fi_seekField_42 y Post K_9 K a0 a1 s_h42 x2h42 x3h42 x4h42 x5h42 x6h42 := ⟨_, fun _ _ _ _ _ _ h => h, hB_42 s_h42 x2h42 x3h42 x4h42 x5h42 x6h42 hJ⟩
              unfold wb_Fi_seekField_42 at h
              refine lv_iload G.1 G.2.1 d_Fi_seekField_42 (lv_at hl 6 rfl) ?_
              refine lv_aload_n G.1 G.2.1 d_Fi_seekField_44 rfl (lv_at hl 1 rfl) ?_
              refine lv_iload G.1 G.2.1 d_Fi_seekField_45 (lv_at hl 4 rfl) ?_
              refine lv_bipush (v := 18) G.1 G.2.1 d_Fi_seekField_47 (by decide) ?_
              refine ucVi (As := [.int x4h42, .int 18]) (rest := [.int x6h42]) G hP hD hS (cu_Wd_of l D g ad y _ s_h42 a1 x4h42 18 H.size h_a1 h) w9_Wd_of q1532 ⟨Nat.le_of_ble_eq_true rfl, Nat.le_of_ble_eq_true rfl⟩ rfl rfl h_a1 (q := (RWd, TWd, 17)) rfl rfl hl.1 rfl (Nat.le_of_ble_eq_true rfl) rfl ⟨Nat.le_refl _, Nat.le_refl _⟩ d_Fi_seekField_49 (fun r_5 s_6 H locs h hP hD hS => ?_)
              have J_105 : ∀ (s_j105 : St) (x2j105 : Int32) (x3j105 : Int32) (x4j105 : Int32) (x5j105 : Int32) (H : Heap) (locs : List Loc), wj_Fi_seekField_105 y Post K_9 a0 a1 s_j105 x2j105 x3j105 x4j105 x5j105 → va_P D CL (ws g ad y s_j105) H → va_D A (ws g ad y s_j105) → va_S A s.heap H locs → ∀ ls, lv_has ls 7 [(0, .ref (ad a0)), (1, .ref (ad a1)), (2, .int x2j105), (3, .int x3j105), (4, .int x4j105), (5, .int x5j105)] → W p l e ru_Fi_seekField s m args below meth c H locs 0 0 Q (F0 m 105 ls []) := by
                intro s_j105 x2j105 x3j105 x4j105 x5j105 H locs h hP hD hS ls hl
                unfold wj_Fi_seekField_105 at h
                refine lv_aload_n G.1 G.2.1 d_Fi_seekField_105 rfl (lv_at hl 0 rfl) ?_
                refine ugf (v := .int (sV s_j105 a0 1)) G hP h_a0 iFi rfl 1 (by decide) rfl q729 rfl rfl d_Fi_seekField_106 ?_
                refine lv_if_lt (tgt := 114) G.1 G.2.1 d_Fi_seekField_109 (by decide) (fun c109 => ?_) (fun c109 => ?_)
                · skip
                  have h := h.1 c109
                  refine lv_aload_n G.1 G.2.1 d_Fi_seekField_114 rfl (lv_at hl 1 rfl) ?_
                  refine lv_iload G.1 G.2.1 d_Fi_seekField_115 (lv_at hl 4 rfl) ?_
                  refine ucVi (As := [.int x4j105]) (rest := []) G hP hD hS (cu_Wd_up l D g ad y _ s_j105 a1 x4j105 H.size h_a1 h) w9_Wd_up q1570 ⟨Nat.le_of_ble_eq_true rfl, Nat.le_of_ble_eq_true rfl⟩ rfl rfl h_a1 (q := (RWd, TWd, 17)) rfl rfl hl.1 rfl (Nat.le_of_ble_eq_true rfl) rfl ⟨Nat.le_refl _, Nat.le_refl _⟩ d_Fi_seekField_117 (fun r_7 s_8 H locs h hP hD hS => ?_)
                  refine lv_istore (lv' := [(4, .int r_7), (0, .ref (ad a0)), (1, .ref (ad a1)), (2, .int x2j105), (3, .int x3j105), (5, .int x5j105)]) G.1 G.2.1 d_Fi_seekField_120 hl (by decide) rfl (fun ls hl => ?_)
                  refine lv_iinc (v := x5j105 + 1) (lv' := [(5, .int (x5j105 + 1)), (4, .int r_7), (0, .ref (ad a0)), (1, .ref (ad a1)), (2, .int x2j105), (3, .int x3j105)]) G.1 G.2.1 d_Fi_seekField_122 hl (k := 5) rfl rfl (by decide) rfl (fun ls hl => ?_)
                  refine lv_goto (tgt := 9) G.1 G.2.1 d_Fi_seekField_125 (by decide) ?_
                  have h := hK_9 s_8 x2j105 x3j105 r_7 (x5j105 + 1) h
                  exact ih_9 s_8 x2j105 x3j105 r_7 (x5j105 + 1) (Nat.lt_of_lt_of_le h.2 (Nat.le_of_lt_succ hμ_9)) h.1 H locs hP hD hS ls (lv_sub hl [2, 3, 4, 5, 1, 0] rfl)
                · skip
                  have h := h.2 c109
                  refine lv_iconst (v := 1) G.1 G.2.1 d_Fi_seekField_112 (by decide) ?_
                  exact hret _ _ _ _ _ _ _ ls (nb_n h.1) h.2 hP hD hS (Nat.le_refl _) (Nat.le_refl _) d_Fi_seekField_113
              refine lv_icmp_ge (tgt := 105) G.1 G.2.1 d_Fi_seekField_52 (by decide) (fun c52 => ?_) (fun c52 => ?_)
              · skip
                have h := h.1 c52
                exact J_105 s_6 x2h42 x3h42 x4h42 x5h42 H locs h hP hD hS ls (lv_sub hl [0, 1, 2, 3, 4, 5] rfl)
              · skip
                have h := h.2 c52
                refine lv_aload_n G.1 G.2.1 d_Fi_seekField_55 rfl (lv_at hl 0 rfl) ?_
                refine ugf (v := .int (sV s_6 a0 1)) G hP h_a0 iFi rfl 1 (by decide) rfl q729 rfl rfl d_Fi_seekField_56 ?_
                refine lv_if_ge (tgt := 105) G.1 G.2.1 d_Fi_seekField_59 (by decide) (fun c59 => ?_) (fun c59 => ?_)
                · skip
                  have h := h.1 c59
                  exact J_105 s_6 x2h42 x3h42 x4h42 x5h42 H locs h hP hD hS ls (lv_sub hl [0, 1, 2, 3, 4, 5] rfl)
                · skip
                  have h := h.2 c59
                  refine lv_aload_n G.1 G.2.1 d_Fi_seekField_62 rfl (lv_at hl 0 rfl) ?_
                  refine lv_aload_n G.1 G.2.1 d_Fi_seekField_63 rfl (lv_at hl 1 rfl) ?_
                  refine W.eq (g2 := F0 m 64 ls [.ref (ad a1), .ref (ad a0)]) rfl ?_
                  refine ugf (v := .ref (ad (lk a1 13))) G hP h_a1 iWd rfl 13 (by decide) rfl q859 rfl rfl d_Fi_seekField_64 ?_
                  refine ugf (v := .ref (yP y (lk a1 13) 0)) G hP (lk_9_13 h_a1) iIn rfl 0 (by decide) rfl q383 rfl rfl d_Fi_seekField_67 ?_
                  refine lv_aload_n G.1 G.2.1 d_Fi_seekField_70 rfl (lv_at hl 1 rfl) ?_
                  refine lv_iload G.1 G.2.1 d_Fi_seekField_71 (lv_at hl 4 rfl) ?_
                  refine lv_bipush (v := 16) G.1 G.2.1 d_Fi_seekField_73 (by decide) ?_
                  refine ucVi (As := [.int x4h42, .int 16]) (rest := [.ref (yP y (lk a1 13) 0), .ref (ad a0)]) G hP hD hS (cu_Wd_of l D g ad y _ s_6 a1 x4h42 16 H.size h_a1 h) w9_Wd_of q1532 ⟨Nat.le_of_ble_eq_true rfl, Nat.le_of_ble_eq_true rfl⟩ rfl rfl h_a1 (q := (RWd, TWd, 17)) rfl rfl hl.1 rfl (Nat.le_of_ble_eq_true rfl) rfl ⟨Nat.le_refl _, Nat.le_refl _⟩ d_Fi_seekField_75 (fun r_9 s_10 H locs h hP hD hS => ?_)
                  refine lv_iload G.1 G.2.1 d_Fi_seekField_78 (lv_at hl 6 rfl) ?_
                  refine lv_iadd G.1 G.2.1 d_Fi_seekField_80 ?_
                  refine uiald G hP (kdp (lk_9_13 h_a1) rfl) (typ (lk_9_13 h_a1) rfl) h d_Fi_seekField_81 (fun x_11 h => ?_)
                  refine upf G hP hD hS h 0 putV h_a0 iFi tFi tFi_ok nFi rfl (by decide) rfl q726 rfl rfl fV rfl rfl d_Fi_seekField_82 (fun s_12 H locs h hP hD hS => ?_)
                  refine lv_aload_n G.1 G.2.1 d_Fi_seekField_85 rfl (lv_at hl 0 rfl) ?_
                  refine lv_aload_n G.1 G.2.1 d_Fi_seekField_86 rfl (lv_at hl 1 rfl) ?_
                  refine W.eq (g2 := F0 m 87 ls [.ref (ad a1), .ref (ad a0)]) rfl ?_
                  refine lv_aload_n G.1 G.2.1 d_Fi_seekField_87 rfl (lv_at hl 0 rfl) ?_
                  refine ugf (v := .int (sV s_12 a0 0)) G hP h_a0 iFi rfl 0 (by decide) rfl q726 rfl rfl d_Fi_seekField_88 ?_
                  refine lv_iload_n G.1 G.2.1 d_Fi_seekField_91 rfl (lv_at hl 2 rfl) ?_
                  refine lv_iload_n G.1 G.2.1 d_Fi_seekField_92 rfl (lv_at hl 3 rfl) ?_
                  refine ucVi (As := [.int (sV s_12 a0 0), .int x2h42, .int x3h42]) (rest := [.ref (ad a0)]) G hP hD hS (cu_Wd_fieldWith l D g ad y _ s_12 a1 (sV s_12 a0 0) x2h42 x3h42 H.size h_a1 h) w9_Wd_fieldWith q1865 ⟨Nat.le_of_ble_eq_true rfl, Nat.le_of_ble_eq_true rfl⟩ rfl rfl h_a1 (q := (RWd, TWd, 17)) rfl rfl hl.1 rfl (Nat.le_of_ble_eq_true rfl) rfl ⟨Nat.le_refl _, Nat.le_refl _⟩ d_Fi_seekField_93 (fun r_13 s_14 H locs h hP hD hS => ?_)
                  refine upf G hP hD hS h 1 putV h_a0 iFi tFi tFi_ok nFi rfl (by decide) rfl q729 rfl rfl fV rfl rfl d_Fi_seekField_96 (fun s_15 H locs h hP hD hS => ?_)
                  refine lv_iinc (v := x6h42 + 1) (lv' := [(6, .int (x6h42 + 1)), (0, .ref (ad a0)), (1, .ref (ad a1)), (2, .int x2h42), (3, .int x3h42), (4, .int x4h42), (5, .int x5h42)]) G.1 G.2.1 d_Fi_seekField_99 hl (k := 6) rfl rfl (by decide) rfl (fun ls hl => ?_)
                  refine lv_goto (tgt := 42) G.1 G.2.1 d_Fi_seekField_102 (by decide) ?_
                  have h := hK_42 s_15 x2h42 x3h42 x4h42 x5h42 (x6h42 + 1) h
                  exact ih_42 s_15 x2h42 x3h42 x4h42 x5h42 (x6h42 + 1) (Nat.lt_of_lt_of_le h.2 (Nat.le_of_lt_succ hμ_42)) h.1 H locs hP hD hS ls (lv_sub hl [1, 2, 3, 4, 5, 6, 0] rfl)
          exact L_42 _ s_4 x2h9 x3h9 x4h9 x5h9 0 (Nat.lt_succ_self _) hI_42 H locs hP hD hS ls (lv_sub hl [1, 2, 3, 4, 5, 6, 0] rfl)
  exact L_9 _ σ v2 v3 (sV σ a0 2) 0 (Nat.lt_succ_self _) hI_9 H locs hP hD hS ls (lv_sub hl [2, 3, 4, 5, 1, 0] rfl)
