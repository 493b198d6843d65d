theorem q2409 : Cond.methodLink "ClassWorks$Writer" 200 y_Wr_sameMethod ∈ lw_ok := lw_okmem (List.mem_of_getElem? (i := 2409) (by decide +kernel)) rfl
theorem q2411 : Cond.code y_Wr_sameMethod b_Wr_sameMethod 8 (some (.boolean)) ∈ lw_ok := lw_okmem (List.mem_of_getElem? (i := 2411) (by decide +kernel)) rfl
theorem q2410 : Cond.static y_Wr_sameMethod ∈ lw_ok := lw_okmem (List.mem_of_getElem? (i := 2410) (by decide +kernel)) rfl
theorem w9_Wr_sameMethod : CWv y_Wr_sameMethod b_Wr_sameMethod 8 (some (.boolean)) 4 ∧ Cond.static y_Wr_sameMethod ∈ lw_ok := ⟨⟨q2411, q343, by decide +kernel, by decide +kernel, by decide +kernel⟩, q2410⟩
def y_Wr_methodsOther : MethodName := ⟨"ClassWorks$Writer", "methodsOther", "(LClassWorks$World;ILClassWorks$World;I)I"⟩
abbrev b_Wr_methodsOther : ByteArray := prog_12_method_28_code
theorem d_Wr_methodsOther_0 : decode b_Wr_methodsOther 0 = .ok (.iconst 0, 1) := by decide +kernel
theorem d_Wr_methodsOther_1 : decode b_Wr_methodsOther 1 = .ok (.istore 5, 2) := by decide +kernel
theorem d_Wr_methodsOther_3 : decode b_Wr_methodsOther 3 = .ok (.iconst 0, 1) := by decide +kernel
theorem d_Wr_methodsOther_4 : decode b_Wr_methodsOther 4 = .ok (.istore 6, 2) := by decide +kernel
theorem d_Wr_methodsOther_6 : decode b_Wr_methodsOther 6 = .ok (.iload 6, 2) := by decide +kernel
theorem d_Wr_methodsOther_8 : decode b_Wr_methodsOther 8 = .ok (.aload_n 1, 1) := by decide +kernel
theorem d_Wr_methodsOther_9 : decode b_Wr_methodsOther 9 = .ok (.iload_n 2, 1) := by decide +kernel
theorem d_Wr_methodsOther_10 : decode b_Wr_methodsOther 10 = .ok (.bipush 11, 2) := by decide +kernel
theorem d_Wr_methodsOther_12 : decode b_Wr_methodsOther 12 = .ok (.invokevirtual 49, 3) := by decide +kernel
theorem d_Wr_methodsOther_15 : decode b_Wr_methodsOther 15 = .ok (.if_icmp .ge 75, 3) := by decide +kernel
theorem d_Wr_methodsOther_18 : decode b_Wr_methodsOther 18 = .ok (.aload_n 3, 1) := by decide +kernel
theorem d_Wr_methodsOther_19 : decode b_Wr_methodsOther 19 = .ok (.iload 4, 2) := by decide +kernel
theorem d_Wr_methodsOther_21 : decode b_Wr_methodsOther 21 = .ok (.aload_n 1, 1) := by decide +kernel
theorem d_Wr_methodsOther_22 : decode b_Wr_methodsOther 22 = .ok (.iload_n 2, 1) := by decide +kernel
theorem d_Wr_methodsOther_23 : decode b_Wr_methodsOther 23 = .ok (.iload 6, 2) := by decide +kernel
theorem d_Wr_methodsOther_25 : decode b_Wr_methodsOther 25 = .ok (.iconst 0, 1) := by decide +kernel
theorem d_Wr_methodsOther_26 : decode b_Wr_methodsOther 26 = .ok (.invokevirtual 109, 3) := by decide +kernel
theorem d_Wr_methodsOther_29 : decode b_Wr_methodsOther 29 = .ok (.invokevirtual 197, 3) := by decide +kernel
theorem d_Wr_methodsOther_32 : decode b_Wr_methodsOther 32 = .ok (.istore 7, 2) := by decide +kernel
theorem d_Wr_methodsOther_34 : decode b_Wr_methodsOther 34 = .ok (.iload 5, 2) := by decide +kernel
theorem d_Wr_methodsOther_36 : decode b_Wr_methodsOther 36 = .ok (.iload 7, 2) := by decide +kernel
theorem d_Wr_methodsOther_38 : decode b_Wr_methodsOther 38 = .ok (.ifCond .lt 42, 3) := by decide +kernel
theorem d_Wr_methodsOther_41 : decode b_Wr_methodsOther 41 = .ok (.aload_n 1, 1) := by decide +kernel
theorem d_Wr_methodsOther_42 : decode b_Wr_methodsOther 42 = .ok (.aload_n 1, 1) := by decide +kernel
theorem d_Wr_methodsOther_43 : decode b_Wr_methodsOther 43 = .ok (.iload_n 2, 1) := by decide +kernel
theorem d_Wr_methodsOther_44 : decode b_Wr_methodsOther 44 = .ok (.bipush 10, 2) := by decide +kernel
theorem d_Wr_methodsOther_46 : decode b_Wr_methodsOther 46 = .ok (.invokevirtual 49, 3) := by decide +kernel
theorem d_Wr_methodsOther_49 : decode b_Wr_methodsOther 49 = .ok (.iload 6, 2) := by decide +kernel
theorem d_Wr_methodsOther_51 : decode b_Wr_methodsOther 51 = .ok (.bipush 8, 2) := by decide +kernel
theorem d_Wr_methodsOther_53 : decode b_Wr_methodsOther 53 = .ok (.imul, 1) := by decide +kernel
theorem d_Wr_methodsOther_54 : decode b_Wr_methodsOther 54 = .ok (.iadd, 1) := by decide +kernel
theorem d_Wr_methodsOther_55 : decode b_Wr_methodsOther 55 = .ok (.aload_n 3, 1) := by decide +kernel
theorem d_Wr_methodsOther_56 : decode b_Wr_methodsOther 56 = .ok (.aload_n 3, 1) := by decide +kernel
theorem d_Wr_methodsOther_57 : decode b_Wr_methodsOther 57 = .ok (.iload 4, 2) := by decide +kernel
theorem d_Wr_methodsOther_59 : decode b_Wr_methodsOther 59 = .ok (.bipush 10, 2) := by decide +kernel
theorem d_Wr_methodsOther_61 : decode b_Wr_methodsOther 61 = .ok (.invokevirtual 49, 3) := by decide +kernel
theorem d_Wr_methodsOther_64 : decode b_Wr_methodsOther 64 = .ok (.iload 7, 2) := by decide +kernel
theorem d_Wr_methodsOther_66 : decode b_Wr_methodsOther 66 = .ok (.bipush 8, 2) := by decide +kernel
theorem d_Wr_methodsOther_68 : decode b_Wr_methodsOther 68 = .ok (.imul, 1) := by decide +kernel
theorem d_Wr_methodsOther_69 : decode b_Wr_methodsOther 69 = .ok (.iadd, 1) := by decide +kernel
theorem d_Wr_methodsOther_70 : decode b_Wr_methodsOther 70 = .ok (.invokestatic 200, 3) := by decide +kernel
theorem d_Wr_methodsOther_73 : decode b_Wr_methodsOther 73 = .ok (.ifCond .ne 7, 3) := by decide +kernel
theorem d_Wr_methodsOther_76 : decode b_Wr_methodsOther 76 = .ok (.iconst 1, 1) := by decide +kernel
theorem d_Wr_methodsOther_77 : decode b_Wr_methodsOther 77 = .ok (.goto 4, 3) := by decide +kernel
theorem d_Wr_methodsOther_80 : decode b_Wr_methodsOther 80 = .ok (.iconst 0, 1) := by decide +kernel
theorem d_Wr_methodsOther_81 : decode b_Wr_methodsOther 81 = .ok (.iadd, 1) := by decide +kernel
theorem d_Wr_methodsOther_82 : decode b_Wr_methodsOther 82 = .ok (.istore 5, 2) := by decide +kernel
theorem d_Wr_methodsOther_84 : decode b_Wr_methodsOther 84 = .ok (.iinc 6 1, 3) := by decide +kernel
theorem d_Wr_methodsOther_87 : decode b_Wr_methodsOther 87 = .ok (.goto (-81), 3) := by decide +kernel
theorem d_Wr_methodsOther_90 : decode b_Wr_methodsOther 90 = .ok (.iload 5, 2) := by decide +kernel
theorem d_Wr_methodsOther_92 : decode b_Wr_methodsOther 92 = .ok (.ireturn, 1) := by decide +kernel
abbrev ru_Wr_methodsOther : Room := { frames := 4, cells := 0, slots := 0, locals := 103 }
def wj_Wr_methodsOther_81 (y : Ly) (Post : St → Int32 → Prop) (K_6 : St → Int32 → Int32 → Int32 → Int32 → Prop) (a0 : Nat) (a1 : Nat) (a3 : Nat) (s_j81 : St) (x2j81 : Int32) (x4j81 : Int32) (x6j81 : Int32) (z0j81 : Int32) (z1j81 : Int32) : Prop := K_6 s_j81 x2j81 x4j81 (z0j81 + z1j81) (x6j81 + 1)
def wj_Wr_methodsOther_80 (y : Ly) (Post : St → Int32 → Prop) (K_6 : St → Int32 → Int32 → Int32 → Int32 → Prop) (a0 : Nat) (a1 : Nat) (a3 : Nat) (s_j80 : St) (x2j80 : Int32) (x4j80 : Int32) (x6j80 : Int32) (z0j80 : Int32) : Prop := wj_Wr_methodsOther_81 y Post K_6 a0 a1 a3 s_j80 x2j80 x4j80 x6j80 z0j80 0
def wb_Wr_methodsOther_6 (y : Ly) (Post : St → Int32 → Prop) (K_6 : St → Int32 → Int32 → Int32 → Int32 → Prop) (a0 : Nat) (a1 : Nat) (a3 : Nat) (s_h6 : St) (x2h6 : Int32) (x4h6 : Int32) (x5h6 : Int32) (x6h6 : Int32) : Prop := wu_Wd_of y (fun (s_2 : St) (r_1 : Int32) => ((r_1 ≤ x6h6 → Post s_2 x5h6) ∧ (¬ (r_1 ≤ x6h6) → wu_Wd_method y (fun (s_4 : St) (r_3 : Int32) => wu_Wd_methodWith y (fun (s_6 : St) (r_5 : Int32) => ((r_5 < 0 → wj_Wr_methodsOther_80 y Post K_6 a0 a1 a3 s_6 x2h6 x4h6 x6h6 x5h6) ∧ (¬ (r_5 < 0) → wu_Wd_of y (fun (s_8 : St) (r_7 : Int32) => wu_Wd_of y (fun (s_10 : St) (r_9 : Int32) => wu_Wr_sameMethod y (fun (s_12 : St) (r_11 : Int32) => ((¬ r_11 = 0 → wj_Wr_methodsOther_80 y Post K_6 a0 a1 a3 s_12 x2h6 x4h6 x6h6 x5h6) ∧ (r_11 = 0 → wj_Wr_methodsOther_81 y Post K_6 a0 a1 a3 s_12 x2h6 x4h6 x6h6 x5h6 1))) s_10 a1 (r_7 + (x6h6 * 8)) a3 (r_9 + (r_5 * 8))) s_8 a3 x4h6 10) s_6 a1 x2h6 10))) s_4 a3 x4h6 r_3) s_2 a1 x2h6 x6h6 0))) s_h6 a1 x2h6 11
def wl_Wr_methodsOther_6 (y : Ly) (Post : St → Int32 → Prop) (a0 : Nat) (a1 : Nat) (a3 : Nat) (s_h6 : St) (x2h6 : Int32) (x4h6 : Int32) (x5h6 : Int32) (x6h6 : Int32) : Prop := ∃ (I : St → Int32 → Int32 → Int32 → Int32 → Prop) (μ : St → Int32 → Int32 → Int32 → Int32 → Nat), I s_h6 x2h6 x4h6 x5h6 x6h6 ∧ ∀ (u : St) (t0 : Int32) (t1 : Int32) (t2 : Int32) (t3 : Int32), I u t0 t1 t2 t3 → wb_Wr_methodsOther_6 y Post (fun z t0q t1q t2q t3q => I z t0q t1q t2q t3q ∧ μ z t0q t1q t2q t3q < μ u t0 t1 t2 t3) a0 a1 a3 u t0 t1 t2 t3
def wu_Wr_methodsOther (y : Ly) (Post : St → Int32 → Prop) (σ : St) (a0 : Nat) (a1 : Nat) (v2 : Int32) (a3 : Nat) (v4 : Int32) : Prop := wl_Wr_methodsOther_6 y Post a0 a1 a3 σ v2 v4 0 0
set_option maxHeartbeats 4000000 in
set_option maxRecDepth 100000 in
theorem cu_Wr_methodsOther (l : Launch) (D : va_G) (g : Nat → ClassId) (ad : Nat → Nat) (y : Ly) (Post : St → Int32 → Prop) (σ : St) (a0 : Nat) (a1 : Nat) (v2 : Int32) (a3 : Nat) (v4 : Int32) (sz : Nat) (h_a0 : cl a0 = 10) (h_a1 : cl a1 = 9) (h_a3 : cl a3 = 9) (h : wu_Wr_methodsOther y Post σ a0 a1 v2 a3 v4) : Met l y_Wr_methodsOther (mw y_Wr_methodsOther b_Wr_methodsOther 8 (some .int)) ru_Wr_methodsOther (PC g D [] [.ref (ad a0), .ref (ad a1), .int v2, .ref (ad a3), .int v4] sz (ws g ad y σ)) (va_Qi (fun (r : Int32) (u : St) => Post u r) (QW D (va_A (ws g ad y σ) sz) (fun u => ws g ad y u)) (va_A (ws g ad y σ) sz)) 0 0 (va_A (ws g ad y σ) sz) := by
  refine ofI (by decide +kernel) (Nat.le_of_ble_eq_true rfl) ?_
  intro p e s m args below meth c A Q ls H locs G hsz hP hD hS hl hret
  subst hsz
  have hl : lv_has ls 8 [(0, .ref (ad a0)), (1, .ref (ad a1)), (2, .int v2), (3, .ref (ad a3)), (4, .int v4)] := hl
  unfold wu_Wr_methodsOther at h
  refine lv_iconst (v := 0) G.1 G.2.1 d_Wr_methodsOther_0 (by decide) ?_
  refine lv_istore (lv' := [(5, .int 0), (0, .ref (ad a0)), (1, .ref (ad a1)), (2, .int v2), (3, .ref (ad a3)), (4, .int v4)]) G.1 G.2.1 d_Wr_methodsOther_1 hl (by decide) rfl (fun ls hl => ?_)
  refine lv_iconst (v := 0) G.1 G.2.1 d_Wr_methodsOther_3 (by decide) ?_
  refine lv_istore (lv' := [(6, .int 0), (5, .int 0), (0, .ref (ad a0)), (1, .ref (ad a1)), (2, .int v2), (3, .ref (ad a3)), (4, .int v4)]) G.1 G.2.1 d_Wr_methodsOther_4 hl (by decide) rfl (fun ls hl => ?_)
  unfold wl_Wr_methodsOther_6 at h
  obtain ⟨I_6, μ_6, hI_6, hB_6⟩ := h
  have L_6 : ∀ (n_6 : Nat) (s_h6 : St) (x2h6 : Int32) (x4h6 : Int32) (x5h6 : Int32) (x6h6 : Int32), μ_6 s_h6 x2h6 x4h6 x5h6 x6h6 < n_6 → I_6 s_h6 x2h6 x4h6 x5h6 x6h6 → ∀ (H : Heap) (locs : List Loc), va_P D CL (ws g ad y s_h6) H → va_D A (ws g ad y s_h6) → va_S A s.heap H locs → ∀ ls, lv_has ls 8 [(1, .ref (ad a1)), (2, .int x2h6), (3, .ref (ad a3)), (4, .int x4h6), (5, .int x5h6), (6, .int x6h6)] → W p l e ru_Wr_methodsOther s m args below meth c H locs 0 0 Q (F0 m 6 ls []) := by
    intro n_6
    induction n_6 with
    | zero => intro s_h6 x2h6 x4h6 x5h6 x6h6 hμ; exact absurd hμ (Nat.not_lt_zero _)
    | succ n_6 ih_6 =>
      intro s_h6 x2h6 x4h6 x5h6 x6h6 hμ_6 hJ H locs hP hD hS ls hl
      obtain ⟨K_6, hK_6, h⟩ : ∃ K : St → Int32 → Int32 → Int32 → Int32 → Prop, (∀ z (t0 : Int32) (t1 : Int32) (t2 : Int32) (t3 : Int32), K z t0 t1 t2 t3 → I_6 z t0 t1 t2 t3 ∧ μ_6 z t0 t1 t2 t3 < μ_6 s_h6 x2h6 x4h6 x5h6 x6h6) ∧ wb_Wr_methodsOther_6 y Post K a0 a1 a3 s_h6 x2h6 x4h6 x5h6 x6h6 := ⟨_, fun _ _ _ _ _ h => h, hB_6 s_h6 x2h6 x4h6 x5h6 x6h6 hJ⟩
      unfold wb_Wr_methodsOther_6 at h
      refine lv_iload G.1 G.2.1 d_Wr_methodsOther_6 (lv_at hl 5 rfl) ?_
      refine lv_aload_n G.1 G.2.1 d_Wr_methodsOther_8 rfl (lv_at hl 0 rfl) ?_
      refine lv_iload_n G.1 G.2.1 d_Wr_methodsOther_9 rfl (lv_at hl 1 rfl) ?_
      refine lv_bipush (v := 11) G.1 G.2.1 d_Wr_methodsOther_10 (by decide) ?_
      refine ucVi (As := [.int x2h6, .int 11]) (rest := [.int x6h6]) G hP hD hS (cu_Wd_of l D g ad y _ s_h6 a1 x2h6 11 H.size h_a1 h) w9_Wd_of q2154 ⟨Nat.le_of_ble_eq_true rfl, Nat.le_of_ble_eq_true rfl⟩ rfl rfl h_a1 (q := (RWd, TWd, 17)) rfl rfl hl.1 rfl (Nat.le_of_ble_eq_true rfl) rfl ⟨Nat.le_refl _, Nat.le_refl _⟩ d_Wr_methodsOther_12 (fun r_1 s_2 H locs h hP hD hS => ?_)
      refine lv_icmp_ge (tgt := 90) G.1 G.2.1 d_Wr_methodsOther_15 (by decide) (fun c15 => ?_) (fun c15 => ?_)
      · skip
        have h := h.1 c15
        refine lv_iload G.1 G.2.1 d_Wr_methodsOther_90 (lv_at hl 4 rfl) ?_
        exact hret _ _ _ _ _ _ _ ls h hP hD hS (Nat.le_refl _) (Nat.le_refl _) d_Wr_methodsOther_92
      · skip
        have h := h.2 c15
        refine lv_aload_n G.1 G.2.1 d_Wr_methodsOther_18 rfl (lv_at hl 2 rfl) ?_
        refine lv_iload G.1 G.2.1 d_Wr_methodsOther_19 (lv_at hl 3 rfl) ?_
        refine lv_aload_n G.1 G.2.1 d_Wr_methodsOther_21 rfl (lv_at hl 0 rfl) ?_
        refine lv_iload_n G.1 G.2.1 d_Wr_methodsOther_22 rfl (lv_at hl 1 rfl) ?_
        refine lv_iload G.1 G.2.1 d_Wr_methodsOther_23 (lv_at hl 5 rfl) ?_
        refine W.eq (g2 := F0 m 25 ls [.int x6h6, .int x2h6, .ref (ad a1), .int x4h6, .ref (ad a3)]) rfl ?_
        refine lv_iconst (v := 0) G.1 G.2.1 d_Wr_methodsOther_25 (by decide) ?_
        refine ucVi (As := [.int x2h6, .int x6h6, .int 0]) (rest := [.int x4h6, .ref (ad a3)]) G hP hD hS (cu_Wd_method l D g ad y _ s_2 a1 x2h6 x6h6 0 H.size h_a1 h) w9_Wd_method q2202 ⟨Nat.le_of_ble_eq_true rfl, Nat.le_of_ble_eq_true rfl⟩ rfl rfl h_a1 (q := (RWd, TWd, 17)) rfl rfl hl.1 rfl (Nat.le_of_ble_eq_true rfl) rfl ⟨Nat.le_refl _, Nat.le_refl _⟩ d_Wr_methodsOther_26 (fun r_3 s_4 H locs h hP hD hS => ?_)
        refine ucVi (As := [.int x4h6, .int r_3]) (rest := []) G hP hD hS (cu_Wd_methodWith l D g ad y _ s_4 a3 x4h6 r_3 H.size h_a3 h) w9_Wd_methodWith q2404 ⟨Nat.le_of_ble_eq_true rfl, Nat.le_of_ble_eq_true rfl⟩ rfl rfl h_a3 (q := (RWd, TWd, 17)) rfl rfl hl.1 rfl (Nat.le_of_ble_eq_true rfl) rfl ⟨Nat.le_refl _, Nat.le_refl _⟩ d_Wr_methodsOther_29 (fun r_5 s_6 H locs h hP hD hS => ?_)
        refine lv_istore (lv' := [(7, .int r_5), (1, .ref (ad a1)), (2, .int x2h6), (3, .ref (ad a3)), (4, .int x4h6), (5, .int x5h6), (6, .int x6h6)]) G.1 G.2.1 d_Wr_methodsOther_32 hl (by decide) rfl (fun ls hl => ?_)
        refine lv_iload G.1 G.2.1 d_Wr_methodsOther_34 (lv_at hl 5 rfl) ?_
        refine lv_iload G.1 G.2.1 d_Wr_methodsOther_36 (lv_at hl 0 rfl) ?_
        have J_81 : ∀ (s_j81 : St) (x2j81 : Int32) (x4j81 : Int32) (x6j81 : Int32) (z0j81 : Int32) (z1j81 : Int32) (H : Heap) (locs : List Loc), wj_Wr_methodsOther_81 y Post K_6 a0 a1 a3 s_j81 x2j81 x4j81 x6j81 z0j81 z1j81 → va_P D CL (ws g ad y s_j81) H → va_D A (ws g ad y s_j81) → va_S A s.heap H locs → ∀ ls, lv_has ls 8 [(1, .ref (ad a1)), (2, .int x2j81), (3, .ref (ad a3)), (4, .int x4j81), (6, .int x6j81)] → W p l e ru_Wr_methodsOther s m args below meth c H locs 0 0 Q (F0 m 81 ls [.int z1j81, .int z0j81]) := by
          intro s_j81 x2j81 x4j81 x6j81 z0j81 z1j81 H locs h hP hD hS ls hl
          unfold wj_Wr_methodsOther_81 at h
          refine lv_iadd G.1 G.2.1 d_Wr_methodsOther_81 ?_
          refine lv_istore (lv' := [(5, .int (z0j81 + z1j81)), (1, .ref (ad a1)), (2, .int x2j81), (3, .ref (ad a3)), (4, .int x4j81), (6, .int x6j81)]) G.1 G.2.1 d_Wr_methodsOther_82 hl (by decide) rfl (fun ls hl => ?_)
          refine lv_iinc (v := x6j81 + 1) (lv' := [(6, .int (x6j81 + 1)), (5, .int (z0j81 + z1j81)), (1, .ref (ad a1)), (2, .int x2j81), (3, .ref (ad a3)), (4, .int x4j81)]) G.1 G.2.1 d_Wr_methodsOther_84 hl (k := 5) rfl rfl (by decide) rfl (fun ls hl => ?_)
          refine lv_goto (tgt := 6) G.1 G.2.1 d_Wr_methodsOther_87 (by decide) ?_
          have h := hK_6 s_j81 x2j81 x4j81 (z0j81 + z1j81) (x6j81 + 1) h
          exact ih_6 s_j81 x2j81 x4j81 (z0j81 + z1j81) (x6j81 + 1) (Nat.lt_of_lt_of_le h.2 (Nat.le_of_lt_succ hμ_6)) h.1 H locs hP hD hS ls (lv_sub hl [2, 3, 4, 5, 1, 0] rfl)
        have J_80 : ∀ (s_j80 : St) (x2j80 : Int32) (x4j80 : Int32) (x6j80 : Int32) (z0j80 : Int32) (H : Heap) (locs : List Loc), wj_Wr_methodsOther_80 y Post K_6 a0 a1 a3 s_j80 x2j80 x4j80 x6j80 z0j80 → va_P D CL (ws g ad y s_j80) H → va_D A (ws g ad y s_j80) → va_S A s.heap H locs → ∀ ls, lv_has ls 8 [(1, .ref (ad a1)), (2, .int x2j80), (3, .ref (ad a3)), (4, .int x4j80), (6, .int x6j80)] → W p l e ru_Wr_methodsOther s m args below meth c H locs 0 0 Q (F0 m 80 ls [.int z0j80]) := by
          intro s_j80 x2j80 x4j80 x6j80 z0j80 H locs h hP hD hS ls hl
          unfold wj_Wr_methodsOther_80 at h
          refine lv_iconst (v := 0) G.1 G.2.1 d_Wr_methodsOther_80 (by decide) ?_
          exact J_81 s_j80 x2j80 x4j80 x6j80 z0j80 0 H locs h hP hD hS ls (lv_sub hl [0, 1, 2, 3, 4] rfl)
        refine lv_if_lt (tgt := 80) G.1 G.2.1 d_Wr_methodsOther_38 (by decide) (fun c38 => ?_) (fun c38 => ?_)
        · skip
          have h := h.1 c38
          exact J_80 s_6 x2h6 x4h6 x6h6 x5h6 H locs h hP hD hS ls (lv_sub hl [1, 2, 3, 4, 6] rfl)
        · skip
          have h := h.2 c38
          refine lv_aload_n G.1 G.2.1 d_Wr_methodsOther_41 rfl (lv_at hl 1 rfl) ?_
          refine lv_aload_n G.1 G.2.1 d_Wr_methodsOther_42 rfl (lv_at hl 1 rfl) ?_
          refine lv_iload_n G.1 G.2.1 d_Wr_methodsOther_43 rfl (lv_at hl 2 rfl) ?_
          refine lv_bipush (v := 10) G.1 G.2.1 d_Wr_methodsOther_44 (by decide) ?_
          refine ucVi (As := [.int x2h6, .int 10]) (rest := [.ref (ad a1), .int x5h6]) G hP hD hS (cu_Wd_of l D g ad y _ s_6 a1 x2h6 10 H.size h_a1 h) w9_Wd_of q2154 ⟨Nat.le_of_ble_eq_true rfl, Nat.le_of_ble_eq_true rfl⟩ rfl rfl h_a1 (q := (RWd, TWd, 17)) rfl rfl hl.1 rfl (Nat.le_of_ble_eq_true rfl) rfl ⟨Nat.le_refl _, Nat.le_refl _⟩ d_Wr_methodsOther_46 (fun r_7 s_8 H locs h hP hD hS => ?_)
          refine W.eq (g2 := F0 m 49 ls [.int r_7, .ref (ad a1), .int x5h6]) rfl ?_
          refine lv_iload G.1 G.2.1 d_Wr_methodsOther_49 (lv_at hl 6 rfl) ?_
          refine lv_bipush (v := 8) G.1 G.2.1 d_Wr_methodsOther_51 (by decide) ?_
          refine lv_imul G.1 G.2.1 d_Wr_methodsOther_53 ?_
          refine lv_iadd G.1 G.2.1 d_Wr_methodsOther_54 ?_
          refine lv_aload_n G.1 G.2.1 d_Wr_methodsOther_55 rfl (lv_at hl 3 rfl) ?_
          refine lv_aload_n G.1 G.2.1 d_Wr_methodsOther_56 rfl (lv_at hl 3 rfl) ?_
          refine lv_iload G.1 G.2.1 d_Wr_methodsOther_57 (lv_at hl 4 rfl) ?_
          refine lv_bipush (v := 10) G.1 G.2.1 d_Wr_methodsOther_59 (by decide) ?_
          refine ucVi (As := [.int x4h6, .int 10]) (rest := [.ref (ad a3), .int (r_7 + (x6h6 * 8)), .ref (ad a1), .int x5h6]) G hP hD hS (cu_Wd_of l D g ad y _ s_8 a3 x4h6 10 H.size h_a3 h) w9_Wd_of q2154 ⟨Nat.le_of_ble_eq_true rfl, Nat.le_of_ble_eq_true rfl⟩ rfl rfl h_a3 (q := (RWd, TWd, 17)) rfl rfl hl.1 rfl (Nat.le_of_ble_eq_true rfl) rfl ⟨Nat.le_refl _, Nat.le_refl _⟩ d_Wr_methodsOther_61 (fun r_9 s_10 H locs h hP hD hS => ?_)
          refine lv_iload G.1 G.2.1 d_Wr_methodsOther_64 (lv_at hl 0 rfl) ?_
          refine lv_bipush (v := 8) G.1 G.2.1 d_Wr_methodsOther_66 (by decide) ?_
          refine lv_imul G.1 G.2.1 d_Wr_methodsOther_68 ?_
          refine W.eq (g2 := F0 m 69 ls [.int (r_5 * 8), .int r_9, .ref (ad a3), .int (r_7 + (x6h6 * 8)), .ref (ad a1), .int x5h6]) rfl ?_
          refine lv_iadd G.1 G.2.1 d_Wr_methodsOther_69 ?_
          refine ucSi (As := [.ref (ad a1), .int (r_7 + (x6h6 * 8)), .ref (ad a3), .int (r_9 + (r_5 * 8))]) (rest := [.int x5h6]) G hP hD hS (cu_Wr_sameMethod l D g ad y _ s_10 a1 (r_7 + (x6h6 * 8)) a3 (r_9 + (r_5 * 8)) H.size h_a1 h_a3 h) w9_Wr_sameMethod q2409 ⟨Nat.le_of_ble_eq_true rfl, Nat.le_of_ble_eq_true rfl⟩ rfl rfl hl.1 rfl (Nat.le_of_ble_eq_true rfl) rfl ⟨Nat.le_refl _, Nat.le_refl _⟩ d_Wr_methodsOther_70 (fun r_11 s_12 H locs h hP hD hS => ?_)
          refine lv_if_ne (tgt := 80) G.1 G.2.1 d_Wr_methodsOther_73 (by decide) (fun c73 => ?_) (fun c73 => ?_)
          · skip
            have h := h.1 c73
            exact J_80 s_12 x2h6 x4h6 x6h6 x5h6 H locs h hP hD hS ls (lv_sub hl [1, 2, 3, 4, 6] rfl)
          · skip
            have h := h.2 c73
            refine lv_iconst (v := 1) G.1 G.2.1 d_Wr_methodsOther_76 (by decide) ?_
            refine lv_goto (tgt := 81) G.1 G.2.1 d_Wr_methodsOther_77 (by decide) ?_
            exact J_81 s_12 x2h6 x4h6 x6h6 x5h6 1 H locs h hP hD hS ls (lv_sub hl [1, 2, 3, 4, 6] rfl)
  exact L_6 _ σ v2 v4 0 0 (Nat.lt_succ_self _) hI_6 H locs hP hD hS ls (lv_sub hl [3, 4, 5, 6, 1, 0] rfl)
theorem q2391 : Cond.methodLink "ClassWorks" 410 y_Wr_sameHead ∈ lw_ok := lw_okmem (List.mem_of_getElem? (i := 2391) (by decide +kernel)) rfl
theorem q2394 : Cond.code y_Wr_sameHead b_Wr_sameHead 7 (some (.boolean)) ∈ lw_ok := lw_okmem (List.mem_of_getElem? (i := 2394) (by decide +kernel)) rfl
theorem q2392 : Cond.instanceMethod y_Wr_sameHead ∈ lw_ok := lw_okmem (List.mem_of_getElem? (i := 2392) (by decide +kernel)) rfl
theorem q2393 : Cond.selects y_Wr_sameHead.cls y_Wr_sameHead y_Wr_sameHead ∈ lw_ok := lw_okmem (List.mem_of_getElem? (i := 2393) (by decide +kernel)) rfl
theorem w9_Wr_sameHead : CWv y_Wr_sameHead b_Wr_sameHead 7 (some (.boolean)) 4 ∧ Cond.instanceMethod y_Wr_sameHead ∈ lw_ok ∧ Cond.selects y_Wr_sameHead.cls y_Wr_sameHead y_Wr_sameHead ∈ lw_ok := ⟨⟨q2394, q343, by decide +kernel, by decide +kernel, by decide +kernel⟩, q2392, q2393⟩
theorem q2395 : Cond.methodLink "ClassWorks" 414 y_Wr_fieldsAlone ∈ lw_ok := lw_okmem (List.mem_of_getElem? (i := 2395) (by decide +kernel)) rfl
theorem q2398 : Cond.code y_Wr_fieldsAlone b_Wr_fieldsAlone 10 (some .int) ∈ lw_ok := lw_okmem (List.mem_of_getElem? (i := 2398) (by decide +kernel)) rfl
theorem q2396 : Cond.instanceMethod y_Wr_fieldsAlone ∈ lw_ok := lw_okmem (List.mem_of_getElem? (i := 2396) (by decide +kernel)) rfl
theorem q2397 : Cond.selects y_Wr_fieldsAlone.cls y_Wr_fieldsAlone y_Wr_fieldsAlone ∈ lw_ok := lw_okmem (List.mem_of_getElem? (i := 2397) (by decide +kernel)) rfl
theorem w9_Wr_fieldsAlone : CWv y_Wr_fieldsAlone b_Wr_fieldsAlone 10 (some .int) 4 ∧ Cond.instanceMethod y_Wr_fieldsAlone ∈ lw_ok ∧ Cond.selects y_Wr_fieldsAlone.cls y_Wr_fieldsAlone y_Wr_fieldsAlone ∈ lw_ok := ⟨⟨q2398, q343, by decide +kernel, by decide +kernel, by decide +kernel⟩, q2396, q2397⟩
theorem q2400 : Cond.methodLink "ClassWorks" 418 y_Wr_methodsAlone ∈ lw_ok := lw_okmem (List.mem_of_getElem? (i := 2400) (by decide +kernel)) rfl
theorem q2403 : Cond.code y_Wr_methodsAlone b_Wr_methodsAlone 7 (some .int) ∈ lw_ok := lw_okmem (List.mem_of_getElem? (i := 2403) (by decide +kernel)) rfl
theorem q2401 : Cond.instanceMethod y_Wr_methodsAlone ∈ lw_ok := lw_okmem (List.mem_of_getElem? (i := 2401) (by decide +kernel)) rfl
theorem q2402 : Cond.selects y_Wr_methodsAlone.cls y_Wr_methodsAlone y_Wr_methodsAlone ∈ lw_ok := lw_okmem (List.mem_of_getElem? (i := 2402) (by decide +kernel)) rfl
theorem w9_Wr_methodsAlone : CWv y_Wr_methodsAlone b_Wr_methodsAlone 7 (some .int) 4 ∧ Cond.instanceMethod y_Wr_methodsAlone ∈ lw_ok ∧ Cond.selects y_Wr_methodsAlone.cls y_Wr_methodsAlone y_Wr_methodsAlone ∈ lw_ok := ⟨⟨q2403, q343, by decide +kernel, by decide +kernel, by decide +kernel⟩, q2401, q2402⟩
theorem q2405 : Cond.methodLink "ClassWorks" 421 y_Wr_methodsOther ∈ lw_ok := lw_okmem (List.mem_of_getElem? (i := 2405) (by decide +kernel)) rfl
theorem q2408 : Cond.code y_Wr_methodsOther b_Wr_methodsOther 8 (some .int) ∈ lw_ok := lw_okmem (List.mem_of_getElem? (i := 2408) (by decide +kernel)) rfl
theorem q2406 : Cond.instanceMethod y_Wr_methodsOther ∈ lw_ok := lw_okmem (List.mem_of_getElem? (i := 2406) (by decide +kernel)) rfl
theorem q2407 : Cond.selects y_Wr_methodsOther.cls y_Wr_methodsOther y_Wr_methodsOther ∈ lw_ok := lw_okmem (List.mem_of_getElem? (i := 2407) (by decide +kernel)) rfl
theorem w9_Wr_methodsOther : CWv y_Wr_methodsOther b_Wr_methodsOther 8 (some .int) 4 ∧ Cond.instanceMethod y_Wr_methodsOther ∈ lw_ok ∧ Cond.selects y_Wr_methodsOther.cls y_Wr_methodsOther y_Wr_methodsOther ∈ lw_ok := ⟨⟨q2408, q343, by decide +kernel, by decide +kernel, by decide +kernel⟩, q2406, q2407⟩
def y_Cw_differ : MethodName := ⟨"ClassWorks", "differ", "(IIIII)I"⟩
abbrev b_Cw_differ : ByteArray := prog_1_method_42_code
theorem d_Cw_differ_0 : decode b_Cw_differ 0 = .ok (.aload_n 0, 1) := by decide +kernel
theorem d_Cw_differ_1 : decode b_Cw_differ 1 = .ok (.iload_n 1, 1) := by decide +kernel
theorem d_Cw_differ_2 : decode b_Cw_differ 2 = .ok (.iload_n 2, 1) := by decide +kernel
theorem d_Cw_differ_3 : decode b_Cw_differ 3 = .ok (.invokevirtual 150, 3) := by decide +kernel
theorem d_Cw_differ_6 : decode b_Cw_differ 6 = .ok (.astore 6, 2) := by decide +kernel
theorem d_Cw_differ_8 : decode b_Cw_differ 8 = .ok (.aload_n 0, 1) := by decide +kernel
theorem d_Cw_differ_9 : decode b_Cw_differ 9 = .ok (.iload_n 3, 1) := by decide +kernel
theorem d_Cw_differ_10 : decode b_Cw_differ 10 = .ok (.iload 4, 2) := by decide +kernel
theorem d_Cw_differ_12 : decode b_Cw_differ 12 = .ok (.invokevirtual 150, 3) := by decide +kernel
theorem d_Cw_differ_15 : decode b_Cw_differ 15 = .ok (.astore 7, 2) := by decide +kernel
theorem d_Cw_differ_17 : decode b_Cw_differ 17 = .ok (.aload 6, 2) := by decide +kernel
theorem d_Cw_differ_19 : decode b_Cw_differ 19 = .ok (.ifnull 19, 3) := by decide +kernel
theorem d_Cw_differ_22 : decode b_Cw_differ 22 = .ok (.aload 7, 2) := by decide +kernel
theorem d_Cw_differ_24 : decode b_Cw_differ 24 = .ok (.ifnull 14, 3) := by decide +kernel
theorem d_Cw_differ_27 : decode b_Cw_differ 27 = .ok (.iload 5, 2) := by decide +kernel
theorem d_Cw_differ_29 : decode b_Cw_differ 29 = .ok (.ifCond .lt 9, 3) := by decide +kernel
theorem d_Cw_differ_32 : decode b_Cw_differ 32 = .ok (.iload 5, 2) := by decide +kernel
theorem d_Cw_differ_34 : decode b_Cw_differ 34 = .ok (.iconst 3, 1) := by decide +kernel
theorem d_Cw_differ_35 : decode b_Cw_differ 35 = .ok (.if_icmp .le 5, 3) := by decide +kernel
theorem d_Cw_differ_38 : decode b_Cw_differ 38 = .ok (.iconst (-1), 1) := by decide +kernel
theorem d_Cw_differ_39 : decode b_Cw_differ 39 = .ok (.ireturn, 1) := by decide +kernel
theorem d_Cw_differ_40 : decode b_Cw_differ 40 = .ok (.iload 5, 2) := by decide +kernel
theorem d_Cw_differ_42 : decode b_Cw_differ 42 = .ok (.tableswitch 79 0 2 #[26, 49, 64], 26) := by decide +kernel
theorem d_Cw_differ_68 : decode b_Cw_differ 68 = .ok (.aload_n 0, 1) := by decide +kernel
theorem d_Cw_differ_69 : decode b_Cw_differ 69 = .ok (.getfield 104, 3) := by decide +kernel
theorem d_Cw_differ_72 : decode b_Cw_differ 72 = .ok (.aload 6, 2) := by decide +kernel
theorem d_Cw_differ_74 : decode b_Cw_differ 74 = .ok (.iload_n 2, 1) := by decide +kernel
theorem d_Cw_differ_75 : decode b_Cw_differ 75 = .ok (.aload 7, 2) := by decide +kernel
theorem d_Cw_differ_77 : decode b_Cw_differ 77 = .ok (.iload 4, 2) := by decide +kernel
theorem d_Cw_differ_79 : decode b_Cw_differ 79 = .ok (.invokevirtual 410, 3) := by decide +kernel
theorem d_Cw_differ_82 : decode b_Cw_differ 82 = .ok (.ifCond .eq 7, 3) := by decide +kernel
theorem d_Cw_differ_85 : decode b_Cw_differ 85 = .ok (.iconst 0, 1) := by decide +kernel
theorem d_Cw_differ_86 : decode b_Cw_differ 86 = .ok (.goto 4, 3) := by decide +kernel
theorem d_Cw_differ_89 : decode b_Cw_differ 89 = .ok (.iconst 1, 1) := by decide +kernel
theorem d_Cw_differ_90 : decode b_Cw_differ 90 = .ok (.ireturn, 1) := by decide +kernel
theorem d_Cw_differ_91 : decode b_Cw_differ 91 = .ok (.aload_n 0, 1) := by decide +kernel
theorem d_Cw_differ_92 : decode b_Cw_differ 92 = .ok (.getfield 104, 3) := by decide +kernel
theorem d_Cw_differ_95 : decode b_Cw_differ 95 = .ok (.aload 6, 2) := by decide +kernel
theorem d_Cw_differ_97 : decode b_Cw_differ 97 = .ok (.iload_n 2, 1) := by decide +kernel
theorem d_Cw_differ_98 : decode b_Cw_differ 98 = .ok (.aload 7, 2) := by decide +kernel
theorem d_Cw_differ_100 : decode b_Cw_differ 100 = .ok (.iload 4, 2) := by decide +kernel
theorem d_Cw_differ_102 : decode b_Cw_differ 102 = .ok (.invokevirtual 414, 3) := by decide +kernel
theorem d_Cw_differ_105 : decode b_Cw_differ 105 = .ok (.ireturn, 1) := by decide +kernel
theorem d_Cw_differ_106 : decode b_Cw_differ 106 = .ok (.aload_n 0, 1) := by decide +kernel
theorem d_Cw_differ_107 : decode b_Cw_differ 107 = .ok (.getfield 104, 3) := by decide +kernel
theorem d_Cw_differ_110 : decode b_Cw_differ 110 = .ok (.aload 6, 2) := by decide +kernel
theorem d_Cw_differ_112 : decode b_Cw_differ 112 = .ok (.iload_n 2, 1) := by decide +kernel
theorem d_Cw_differ_113 : decode b_Cw_differ 113 = .ok (.aload 7, 2) := by decide +kernel
theorem d_Cw_differ_115 : decode b_Cw_differ 115 = .ok (.iload 4, 2) := by decide +kernel
theorem d_Cw_differ_117 : decode b_Cw_differ 117 = .ok (.invokevirtual 418, 3) := by decide +kernel
theorem d_Cw_differ_120 : decode b_Cw_differ 120 = .ok (.ireturn, 1) := by decide +kernel
theorem d_Cw_differ_121 : decode b_Cw_differ 121 = .ok (.aload_n 0, 1) := by decide +kernel
theorem d_Cw_differ_122 : decode b_Cw_differ 122 = .ok (.getfield 104, 3) := by decide +kernel
theorem d_Cw_differ_125 : decode b_Cw_differ 125 = .ok (.aload 6, 2) := by decide +kernel
theorem d_Cw_differ_127 : decode b_Cw_differ 127 = .ok (.iload_n 2, 1) := by decide +kernel
theorem d_Cw_differ_128 : decode b_Cw_differ 128 = .ok (.aload 7, 2) := by decide +kernel
theorem d_Cw_differ_130 : decode b_Cw_differ 130 = .ok (.iload 4, 2) := by decide +kernel
theorem d_Cw_differ_132 : decode b_Cw_differ 132 = .ok (.invokevirtual 421, 3) := by decide +kernel
theorem d_Cw_differ_135 : decode b_Cw_differ 135 = .ok (.ireturn, 1) := by decide +kernel
abbrev ru_Cw_differ : Room := { frames := 5, cells := 0, slots := 0, locals := 130 }
def wj_Cw_differ_38 (y : Ly) (Post : St → Int32 → Prop) (a0 : Nat) (s_j38 : St) : Prop := Post s_j38 (-1)
def wj_Cw_differ_90 (y : Ly) (Post : St → Int32 → Prop) (a0 : Nat) (s_j90 : St) (z0j90 : Int32) : Prop := Post s_j90 z0j90
def wu_Cw_differ (y : Ly) (Post : St → Int32 → Prop) (σ : St) (a0 : Nat) (v1 : Int32) (v2 : Int32) (v3 : Int32) (v4 : Int32) (v5 : Int32) : Prop := wu_Cw_worldWith y (fun (s_2 : St) (r_1 : Option Nat) => ((r_1 = none → wu_Cw_worldWith y (fun (s_4 : St) (r_3 : Option Nat) => ((r_3 = none → wj_Cw_differ_38 y Post a0 s_4) ∧ (∀ r_3b : Nat, r_3 = some r_3b → (cl r_3b = 9 ∧ wj_Cw_differ_38 y Post a0 s_4)))) s_2 a0 v3 v4) ∧ (∀ r_1b : Nat, r_1 = some r_1b → (cl r_1b = 9 ∧ wu_Cw_worldWith y (fun (s_6 : St) (r_5 : Option Nat) => ((r_5 = none → wj_Cw_differ_38 y Post a0 s_6) ∧ (∀ r_5b : Nat, r_5 = some r_5b → (cl r_5b = 9 ∧ ((v5 < 0 → wj_Cw_differ_38 y Post a0 s_6) ∧ (¬ (v5 < 0) → ((v5 ≤ 3 → ((v5 = 0 → wu_Wr_sameHead y (fun (s_8 : St) (r_7 : Int32) => ((r_7 = 0 → wj_Cw_differ_90 y Post a0 s_8 1) ∧ (¬ (r_7 = 0) → wj_Cw_differ_90 y Post a0 s_8 0))) s_6 (lk a0 4) r_1b v2 r_5b v4) ∧ (¬ (v5 = 0) → ((v5 = 1 → wu_Wr_fieldsAlone y (fun (s_10 : St) (r_9 : Int32) => Post s_10 r_9) s_6 (lk a0 4) r_1b v2 r_5b v4) ∧ (¬ (v5 = 1) → ((v5 = 2 → wu_Wr_methodsAlone y (fun (s_12 : St) (r_11 : Int32) => Post s_12 r_11) s_6 (lk a0 4) r_1b v2 r_5b v4) ∧ (¬ (v5 = 2) → wu_Wr_methodsOther y (fun (s_14 : St) (r_13 : Int32) => Post s_14 r_13) s_6 (lk a0 4) r_1b v2 r_5b v4))))))) ∧ (¬ (v5 ≤ 3) → wj_Cw_differ_38 y Post a0 s_6)))))))) s_2 a0 v3 v4)))) σ a0 v1 v2
set_option maxHeartbeats 4000000 in
set_option maxRecDepth 100000 in
theorem cu_Cw_differ (l : Launch) (D : va_G) (g : Nat → ClassId) (ad : Nat → Nat) (y : Ly) (Post : St → Int32 → Prop) (σ : St) (a0 : Nat) (v1 : Int32) (v2 : Int32) (v3 : Int32) (v4 : Int32) (v5 : Int32) (sz : Nat) (h_a0 : cl a0 = 11) (h : wu_Cw_differ y Post σ a0 v1 v2 v3 v4 v5) : Met l y_Cw_differ (mw y_Cw_differ b_Cw_differ 8 (some .int)) ru_Cw_differ (PC g D [] [.ref (ad a0), .int v1, .int v2, .int v3, .int v4, .int v5] sz (ws g ad y σ)) (va_Qi (fun (r : Int32) (u : St) => Post u r) (QW D (va_A (ws g ad y σ) sz) (fun u => ws g ad y u)) (va_A (ws g ad y σ) sz)) 0 0 (va_A (ws g ad y σ) sz) := by
  refine ofI (by decide +kernel) (Nat.le_of_ble_eq_true rfl) ?_
  intro p e s m args below meth c A Q ls H locs G hsz hP hD hS hl hret
  subst hsz
  have hl : lv_has ls 8 [(0, .ref (ad a0)), (1, .int v1), (2, .int v2), (3, .int v3), (4, .int v4), (5, .int v5)] := hl
  unfold wu_Cw_differ at h
  refine lv_aload_n G.1 G.2.1 d_Cw_differ_0 rfl (lv_at hl 0 rfl) ?_
  refine lv_iload_n G.1 G.2.1 d_Cw_differ_1 rfl (lv_at hl 1 rfl) ?_
  refine lv_iload_n G.1 G.2.1 d_Cw_differ_2 rfl (lv_at hl 2 rfl) ?_
  refine ucVq (As := [.int v1, .int v2]) (rest := []) G hP hD hS (cu_Cw_worldWith l D g ad y _ σ a0 v1 v2 H.size h_a0 h) w9_Cw_worldWith q1481 ⟨Nat.le_of_ble_eq_true rfl, Nat.le_of_ble_eq_true rfl⟩ rfl rfl h_a0 (q := (RCw, TCw, 20)) rfl rfl hl.1 rfl (Nat.le_of_ble_eq_true rfl) rfl ⟨Nat.le_refl _, Nat.le_refl _⟩ d_Cw_differ_3 (fun r_1 s_2 H locs h hP hD hS => ?_)
  rcases r_1 with _ | r_1b
  · skip
    have h := h.1 rfl
    show W p l e ru_Cw_differ s m args below meth c H locs 0 0 Q (F0 m 6 ls [.null])
    refine lv_astoreN (lv' := [(6, .null), (0, .ref (ad a0)), (1, .int v1), (2, .int v2), (3, .int v3), (4, .int v4), (5, .int v5)]) G.1 G.2.1 d_Cw_differ_6 hl (by decide) rfl (fun ls hl => ?_)
    refine lv_aload_n G.1 G.2.1 d_Cw_differ_8 rfl (lv_at hl 1 rfl) ?_
    refine lv_iload_n G.1 G.2.1 d_Cw_differ_9 rfl (lv_at hl 4 rfl) ?_
    refine lv_iload G.1 G.2.1 d_Cw_differ_10 (lv_at hl 5 rfl) ?_
    refine ucVq (As := [.int v3, .int v4]) (rest := []) G hP hD hS (cu_Cw_worldWith l D g ad y _ s_2 a0 v3 v4 H.size h_a0 h) w9_Cw_worldWith q1481 ⟨Nat.le_of_ble_eq_true rfl, Nat.le_of_ble_eq_true rfl⟩ rfl rfl h_a0 (q := (RCw, TCw, 20)) rfl rfl hl.1 rfl (Nat.le_of_ble_eq_true rfl) rfl ⟨Nat.le_refl _, Nat.le_refl _⟩ d_Cw_differ_12 (fun r_3 s_4 H locs h hP hD hS => ?_)
    rcases r_3 with _ | r_3b
    · skip
      have h := h.1 rfl
      show W p l e ru_Cw_differ s m args below meth c H locs 0 0 Q (F0 m 15 ls [.null])
      refine lv_astoreN (lv' := [(7, .null), (6, .null), (0, .ref (ad a0)), (1, .int v1), (2, .int v2), (3, .int v3), (4, .int v4), (5, .int v5)]) G.1 G.2.1 d_Cw_differ_15 hl (by decide) rfl (fun ls hl => ?_)
      refine lv_aloadN G.1 G.2.1 d_Cw_differ_17 (lv_at hl 1 rfl) ?_
      have J_38 : ∀ (s_j38 : St) (H : Heap) (locs : List Loc), wj_Cw_differ_38 y Post a0 s_j38 → va_P D CL (ws g ad y s_j38) H → va_D A (ws g ad y s_j38) → va_S A s.heap H locs → ∀ ls, lv_has ls 8 [] → W p l e ru_Cw_differ s m args below meth c H locs 0 0 Q (F0 m 38 ls []) := by
        intro s_j38 H locs h hP hD hS ls hl
        unfold wj_Cw_differ_38 at h
        refine lv_iconst (v := (-1)) G.1 G.2.1 d_Cw_differ_38 (by decide) ?_
        exact hret _ _ _ _ _ _ _ ls h hP hD hS (Nat.le_refl _) (Nat.le_refl _) d_Cw_differ_39
      refine W.eq (g2 := F0 m 19 ls [.null]) rfl ?_
      refine lv_ifnullN (tgt := 38) G.1 G.2.1 d_Cw_differ_19 (by decide) ?_
      exact J_38 s_4 H locs h hP hD hS ls (lv_sub hl [] rfl)
    · skip
      obtain ⟨c_r_3b, h⟩ := h.2 _ rfl
      show W p l e ru_Cw_differ s m args below meth c H locs 0 0 Q (F0 m 15 ls [.ref (ad r_3b)])
      refine lv_astore (lv' := [(7, .ref (ad r_3b)), (6, .null), (0, .ref (ad a0)), (1, .int v1), (2, .int v2), (3, .int v3), (4, .int v4), (5, .int v5)]) G.1 G.2.1 d_Cw_differ_15 hl (by decide) rfl (fun ls hl => ?_)
      refine lv_aloadN G.1 G.2.1 d_Cw_differ_17 (lv_at hl 1 rfl) ?_
      have J_38 : ∀ (s_j38 : St) (H : Heap) (locs : List Loc), wj_Cw_differ_38 y Post a0 s_j38 → va_P D CL (ws g ad y s_j38) H → va_D A (ws g ad y s_j38) → va_S A s.heap H locs → ∀ ls, lv_has ls 8 [] → W p l e ru_Cw_differ s m args below meth c H locs 0 0 Q (F0 m 38 ls []) := by
        intro s_j38 H locs h hP hD hS ls hl
        unfold wj_Cw_differ_38 at h
        refine lv_iconst (v := (-1)) G.1 G.2.1 d_Cw_differ_38 (by decide) ?_
        exact hret _ _ _ _ _ _ _ ls h hP hD hS (Nat.le_refl _) (Nat.le_refl _) d_Cw_differ_39
      refine W.eq (g2 := F0 m 19 ls [.null]) rfl ?_
      refine lv_ifnullN (tgt := 38) G.1 G.2.1 d_Cw_differ_19 (by decide) ?_
      exact J_38 s_4 H locs h hP hD hS ls (lv_sub hl [] rfl)
  · skip
    obtain ⟨c_r_1b, h⟩ := h.2 _ rfl
    show W p l e ru_Cw_differ s m args below meth c H locs 0 0 Q (F0 m 6 ls [.ref (ad r_1b)])
    refine lv_astore (lv' := [(6, .ref (ad r_1b)), (0, .ref (ad a0)), (1, .int v1), (2, .int v2), (3, .int v3), (4, .int v4), (5, .int v5)]) G.1 G.2.1 d_Cw_differ_6 hl (by decide) rfl (fun ls hl => ?_)
    refine lv_aload_n G.1 G.2.1 d_Cw_differ_8 rfl (lv_at hl 1 rfl) ?_
    refine lv_iload_n G.1 G.2.1 d_Cw_differ_9 rfl (lv_at hl 4 rfl) ?_
    refine lv_iload G.1 G.2.1 d_Cw_differ_10 (lv_at hl 5 rfl) ?_
    refine ucVq (As := [.int v3, .int v4]) (rest := []) G hP hD hS (cu_Cw_worldWith l D g ad y _ s_2 a0 v3 v4 H.size h_a0 h) w9_Cw_worldWith q1481 ⟨Nat.le_of_ble_eq_true rfl, Nat.le_of_ble_eq_true rfl⟩ rfl rfl h_a0 (q := (RCw, TCw, 20)) rfl rfl hl.1 rfl (Nat.le_of_ble_eq_true rfl) rfl ⟨Nat.le_refl _, Nat.le_refl _⟩ d_Cw_differ_12 (fun r_5 s_6 H locs h hP hD hS => ?_)
    rcases r_5 with _ | r_5b
    · skip
      have h := h.1 rfl
      show W p l e ru_Cw_differ s m args below meth c H locs 0 0 Q (F0 m 15 ls [.null])
      refine lv_astoreN (lv' := [(7, .null), (6, .ref (ad r_1b)), (0, .ref (ad a0)), (1, .int v1), (2, .int v2), (3, .int v3), (4, .int v4), (5, .int v5)]) G.1 G.2.1 d_Cw_differ_15 hl (by decide) rfl (fun ls hl => ?_)
      refine lv_aload G.1 G.2.1 d_Cw_differ_17 (lv_at hl 1 rfl) ?_
      have J_38 : ∀ (s_j38 : St) (H : Heap) (locs : List Loc), wj_Cw_differ_38 y Post a0 s_j38 → va_P D CL (ws g ad y s_j38) H → va_D A (ws g ad y s_j38) → va_S A s.heap H locs → ∀ ls, lv_has ls 8 [] → W p l e ru_Cw_differ s m args below meth c H locs 0 0 Q (F0 m 38 ls []) := by
        intro s_j38 H locs h hP hD hS ls hl
        unfold wj_Cw_differ_38 at h
        refine lv_iconst (v := (-1)) G.1 G.2.1 d_Cw_differ_38 (by decide) ?_
        exact hret _ _ _ _ _ _ _ ls h hP hD hS (Nat.le_refl _) (Nat.le_refl _) d_Cw_differ_39
      refine W.eq (g2 := F0 m 19 ls [.ref (ad r_1b)]) rfl ?_
      refine lv_ifnull G.1 G.2.1 d_Cw_differ_19 ?_
      refine lv_aloadN G.1 G.2.1 d_Cw_differ_22 (lv_at hl 0 rfl) ?_
      refine lv_ifnullN (tgt := 38) G.1 G.2.1 d_Cw_differ_24 (by decide) ?_
      exact J_38 s_6 H locs h hP hD hS ls (lv_sub hl [] rfl)
    · skip
      obtain ⟨c_r_5b, h⟩ := h.2 _ rfl
      show W p l e ru_Cw_differ s m args below meth c H locs 0 0 Q (F0 m 15 ls [.ref (ad r_5b)])
      refine lv_astore (lv' := [(7, .ref (ad r_5b)), (6, .ref (ad r_1b)), (0, .ref (ad a0)), (1, .int v1), (2, .int v2), (3, .int v3), (4, .int v4), (5, .int v5)]) G.1 G.2.1 d_Cw_differ_15 hl (by decide) rfl (fun ls hl => ?_)
      refine lv_aload G.1 G.2.1 d_Cw_differ_17 (lv_at hl 1 rfl) ?_
      have J_38 : ∀ (s_j38 : St) (H : Heap) (locs : List Loc), wj_Cw_differ_38 y Post a0 s_j38 → va_P D CL (ws g ad y s_j38) H → va_D A (ws g ad y s_j38) → va_S A s.heap H locs → ∀ ls, lv_has ls 8 [] → W p l e ru_Cw_differ s m args below meth c H locs 0 0 Q (F0 m 38 ls []) := by
        intro s_j38 H locs h hP hD hS ls hl
        unfold wj_Cw_differ_38 at h
        refine lv_iconst (v := (-1)) G.1 G.2.1 d_Cw_differ_38 (by decide) ?_
        exact hret _ _ _ _ _ _ _ ls h hP hD hS (Nat.le_refl _) (Nat.le_refl _) d_Cw_differ_39
      refine W.eq (g2 := F0 m 19 ls [.ref (ad r_1b)]) rfl ?_
      refine lv_ifnull G.1 G.2.1 d_Cw_differ_19 ?_
      refine lv_aload G.1 G.2.1 d_Cw_differ_22 (lv_at hl 0 rfl) ?_
      refine lv_ifnull G.1 G.2.1 d_Cw_differ_24 ?_
      refine lv_iload G.1 G.2.1 d_Cw_differ_27 (lv_at hl 7 rfl) ?_
      refine lv_if_lt (tgt := 38) G.1 G.2.1 d_Cw_differ_29 (by decide) (fun c29 => ?_) (fun c29 => ?_)
      · skip
        have h := h.1 c29
        exact J_38 s_6 H locs h hP hD hS ls (lv_sub hl [] rfl)
      · skip
        have h := h.2 c29
        refine lv_iload G.1 G.2.1 d_Cw_differ_32 (lv_at hl 7 rfl) ?_
        refine lv_iconst (v := 3) G.1 G.2.1 d_Cw_differ_34 (by decide) ?_
        refine lv_icmp_le (tgt := 40) G.1 G.2.1 d_Cw_differ_35 (by decide) (fun c35 => ?_) (fun c35 => ?_)
        · skip
          have h := h.1 c35
          refine lv_iload G.1 G.2.1 d_Cw_differ_40 (lv_at hl 7 rfl) ?_
          by_cases e42_0 : v5 = 0
          · skip
            have h := h.1 e42_0
            refine lv_tableIn (off := 26) (tgt := 68) G.1 G.2.1 d_Cw_differ_42 (by rw [e42_0]; decide) (by rw [e42_0]; decide) (by rw [e42_0]; rfl) (by decide) ?_
            refine lv_aload_n G.1 G.2.1 d_Cw_differ_68 rfl (lv_at hl 2 rfl) ?_
            refine ugf (v := .ref (ad (lk a0 4))) G hP h_a0 iCw rfl 4 (by decide) rfl q1138 rfl rfl d_Cw_differ_69 ?_
            refine W.eq (g2 := F0 m 72 ls [.ref (ad (lk a0 4))]) rfl ?_
            refine lv_aload G.1 G.2.1 d_Cw_differ_72 (lv_at hl 1 rfl) ?_
            refine lv_iload_n G.1 G.2.1 d_Cw_differ_74 rfl (lv_at hl 4 rfl) ?_
            refine lv_aload G.1 G.2.1 d_Cw_differ_75 (lv_at hl 0 rfl) ?_
            refine lv_iload G.1 G.2.1 d_Cw_differ_77 (lv_at hl 6 rfl) ?_
            refine ucVi (As := [.ref (ad r_1b), .int v2, .ref (ad r_5b), .int v4]) (rest := []) G hP hD hS (cu_Wr_sameHead l D g ad y _ s_6 (lk a0 4) r_1b v2 r_5b v4 H.size (lk_11_4 h_a0) c_r_1b c_r_5b h) w9_Wr_sameHead q2391 ⟨Nat.le_of_ble_eq_true rfl, Nat.le_of_ble_eq_true rfl⟩ rfl rfl (lk_11_4 h_a0) (q := (RWr, TWr, 7)) rfl rfl hl.1 rfl (Nat.le_of_ble_eq_true rfl) rfl ⟨Nat.le_refl _, Nat.le_refl _⟩ d_Cw_differ_79 (fun r_7 s_8 H locs h hP hD hS => ?_)
            have J_90 : ∀ (s_j90 : St) (z0j90 : Int32) (H : Heap) (locs : List Loc), wj_Cw_differ_90 y Post a0 s_j90 z0j90 → va_P D CL (ws g ad y s_j90) H → va_D A (ws g ad y s_j90) → va_S A s.heap H locs → ∀ ls, lv_has ls 8 [] → W p l e ru_Cw_differ s m args below meth c H locs 0 0 Q (F0 m 90 ls [.int z0j90]) := by
              intro s_j90 z0j90 H locs h hP hD hS ls hl
              unfold wj_Cw_differ_90 at h
              exact hret _ _ _ _ _ _ _ ls h hP hD hS (Nat.le_refl _) (Nat.le_refl _) d_Cw_differ_90
            refine lv_if_eq (tgt := 89) G.1 G.2.1 d_Cw_differ_82 (by decide) (fun c82 => ?_) (fun c82 => ?_)
            · skip
              have h := h.1 c82
              refine lv_iconst (v := 1) G.1 G.2.1 d_Cw_differ_89 (by decide) ?_
              exact J_90 s_8 1 H locs h hP hD hS ls (lv_sub hl [] rfl)
            · skip
              have h := h.2 c82
              refine lv_iconst (v := 0) G.1 G.2.1 d_Cw_differ_85 (by decide) ?_
              refine lv_goto (tgt := 90) G.1 G.2.1 d_Cw_differ_86 (by decide) ?_
              exact J_90 s_8 0 H locs h hP hD hS ls (lv_sub hl [] rfl)
          replace h := h.2 e42_0
          by_cases e42_1 : v5 = 1
          · skip
            have h := h.1 e42_1
            refine lv_tableIn (off := 49) (tgt := 91) G.1 G.2.1 d_Cw_differ_42 (by rw [e42_1]; decide) (by rw [e42_1]; decide) (by rw [e42_1]; rfl) (by decide) ?_
            refine lv_aload_n G.1 G.2.1 d_Cw_differ_91 rfl (lv_at hl 2 rfl) ?_
            refine ugf (v := .ref (ad (lk a0 4))) G hP h_a0 iCw rfl 4 (by decide) rfl q1138 rfl rfl d_Cw_differ_92 ?_
            refine W.eq (g2 := F0 m 95 ls [.ref (ad (lk a0 4))]) rfl ?_
            refine lv_aload G.1 G.2.1 d_Cw_differ_95 (lv_at hl 1 rfl) ?_
            refine lv_iload_n G.1 G.2.1 d_Cw_differ_97 rfl (lv_at hl 4 rfl) ?_
            refine lv_aload G.1 G.2.1 d_Cw_differ_98 (lv_at hl 0 rfl) ?_
            refine lv_iload G.1 G.2.1 d_Cw_differ_100 (lv_at hl 6 rfl) ?_
            refine ucVi (As := [.ref (ad r_1b), .int v2, .ref (ad r_5b), .int v4]) (rest := []) G hP hD hS (cu_Wr_fieldsAlone l D g ad y _ s_6 (lk a0 4) r_1b v2 r_5b v4 H.size (lk_11_4 h_a0) c_r_1b c_r_5b h) w9_Wr_fieldsAlone q2395 ⟨Nat.le_of_ble_eq_true rfl, Nat.le_of_ble_eq_true rfl⟩ rfl rfl (lk_11_4 h_a0) (q := (RWr, TWr, 7)) rfl rfl hl.1 rfl (Nat.le_of_ble_eq_true rfl) rfl ⟨Nat.le_refl _, Nat.le_refl _⟩ d_Cw_differ_102 (fun r_9 s_10 H locs h hP hD hS => ?_)
            exact hret _ _ _ _ _ _ _ ls h hP hD hS (Nat.le_refl _) (Nat.le_refl _) d_Cw_differ_105
          replace h := h.2 e42_1
          by_cases e42_2 : v5 = 2
          · skip
            have h := h.1 e42_2
            refine lv_tableIn (off := 64) (tgt := 106) G.1 G.2.1 d_Cw_differ_42 (by rw [e42_2]; decide) (by rw [e42_2]; decide) (by rw [e42_2]; rfl) (by decide) ?_
            refine lv_aload_n G.1 G.2.1 d_Cw_differ_106 rfl (lv_at hl 2 rfl) ?_
            refine ugf (v := .ref (ad (lk a0 4))) G hP h_a0 iCw rfl 4 (by decide) rfl q1138 rfl rfl d_Cw_differ_107 ?_
            refine W.eq (g2 := F0 m 110 ls [.ref (ad (lk a0 4))]) rfl ?_
            refine lv_aload G.1 G.2.1 d_Cw_differ_110 (lv_at hl 1 rfl) ?_
            refine lv_iload_n G.1 G.2.1 d_Cw_differ_112 rfl (lv_at hl 4 rfl) ?_
            refine lv_aload G.1 G.2.1 d_Cw_differ_113 (lv_at hl 0 rfl) ?_
            refine lv_iload G.1 G.2.1 d_Cw_differ_115 (lv_at hl 6 rfl) ?_
            refine ucVi (As := [.ref (ad r_1b), .int v2, .ref (ad r_5b), .int v4]) (rest := []) G hP hD hS (cu_Wr_methodsAlone l D g ad y _ s_6 (lk a0 4) r_1b v2 r_5b v4 H.size (lk_11_4 h_a0) c_r_1b c_r_5b h) w9_Wr_methodsAlone q2400 ⟨Nat.le_of_ble_eq_true rfl, Nat.le_of_ble_eq_true rfl⟩ rfl rfl (lk_11_4 h_a0) (q := (RWr, TWr, 7)) rfl rfl hl.1 rfl (Nat.le_of_ble_eq_true rfl) rfl ⟨Nat.le_refl _, Nat.le_refl _⟩ d_Cw_differ_117 (fun r_11 s_12 H locs h hP hD hS => ?_)
            exact hret _ _ _ _ _ _ _ ls h hP hD hS (Nat.le_refl _) (Nat.le_refl _) d_Cw_differ_120
          replace h := h.2 e42_2
          have te42_0 := lv_neT (a := 0) e42_0 (by decide)
          have te42_1 := lv_neT (a := 1) e42_1 (by decide)
          have te42_2 := lv_neT (a := 2) e42_2 (by decide)
          refine lv_tableOut (tgt := 121) G.1 G.2.1 d_Cw_differ_42 (by omega) (by decide) ?_
          refine lv_aload_n G.1 G.2.1 d_Cw_differ_121 rfl (lv_at hl 2 rfl) ?_
          refine ugf (v := .ref (ad (lk a0 4))) G hP h_a0 iCw rfl 4 (by decide) rfl q1138 rfl rfl d_Cw_differ_122 ?_
          refine W.eq (g2 := F0 m 125 ls [.ref (ad (lk a0 4))]) rfl ?_
          refine lv_aload G.1 G.2.1 d_Cw_differ_125 (lv_at hl 1 rfl) ?_
          refine lv_iload_n G.1 G.2.1 d_Cw_differ_127 rfl (lv_at hl 4 rfl) ?_
          refine lv_aload G.1 G.2.1 d_Cw_differ_128 (lv_at hl 0 rfl) ?_
          refine lv_iload G.1 G.2.1 d_Cw_differ_130 (lv_at hl 6 rfl) ?_
          refine ucVi (As := [.ref (ad r_1b), .int v2, .ref (ad r_5b), .int v4]) (rest := []) G hP hD hS (cu_Wr_methodsOther l D g ad y _ s_6 (lk a0 4) r_1b v2 r_5b v4 H.size (lk_11_4 h_a0) c_r_1b c_r_5b h) w9_Wr_methodsOther q2405 ⟨Nat.le_of_ble_eq_true rfl, Nat.le_of_ble_eq_true rfl⟩ rfl rfl (lk_11_4 h_a0) (q := (RWr, TWr, 7)) rfl rfl hl.1 rfl (Nat.le_of_ble_eq_true rfl) rfl ⟨Nat.le_refl _, Nat.le_refl _⟩ d_Cw_differ_132 (fun r_13 s_14 H locs h hP hD hS => ?_)
          exact hret _ _ _ _ _ _ _ ls h hP hD hS (Nat.le_refl _) (Nat.le_refl _) d_Cw_differ_135
        · skip
          have h := h.2 c35
          exact J_38 s_6 H locs h hP hD hS ls (lv_sub hl [] rfl)
def y_Cw_reached : MethodName := ⟨"ClassWorks", "reached", "(I)I"⟩
abbrev b_Cw_reached : ByteArray := prog_1_method_44_code
theorem q1137 : Cond.fieldLink "ClassWorks" 97 "ClassWorks" "finder" "LClassWorks$Finder;" ∈ lw_ok := lw_okmem (List.mem_of_getElem? (i := 1137) (by decide +kernel)) rfl
theorem q735 : Cond.fieldLink "ClassWorks" 427 "ClassWorks$Finder" "reachList" "LClassWorks$Ints;" ∈ lw_ok := lw_okmem (List.mem_of_getElem? (i := 735) (by decide +kernel)) rfl
theorem d_Cw_reached_0 : decode b_Cw_reached 0 = .ok (.iload_n 1, 1) := by decide +kernel
theorem d_Cw_reached_1 : decode b_Cw_reached 1 = .ok (.ifCond .lt 17, 3) := by decide +kernel
theorem d_Cw_reached_4 : decode b_Cw_reached 4 = .ok (.iload_n 1, 1) := by decide +kernel
theorem d_Cw_reached_5 : decode b_Cw_reached 5 = .ok (.aload_n 0, 1) := by decide +kernel
theorem d_Cw_reached_6 : decode b_Cw_reached 6 = .ok (.getfield 97, 3) := by decide +kernel
theorem d_Cw_reached_9 : decode b_Cw_reached 9 = .ok (.getfield 427, 3) := by decide +kernel
theorem d_Cw_reached_12 : decode b_Cw_reached 12 = .ok (.getfield 353, 3) := by decide +kernel
theorem d_Cw_reached_15 : decode b_Cw_reached 15 = .ok (.if_icmp .lt 8, 3) := by decide +kernel
theorem d_Cw_reached_18 : decode b_Cw_reached 18 = .ok (.bipush (-2), 2) := by decide +kernel
theorem d_Cw_reached_20 : decode b_Cw_reached 20 = .ok (.goto 15, 3) := by decide +kernel
theorem d_Cw_reached_23 : decode b_Cw_reached 23 = .ok (.aload_n 0, 1) := by decide +kernel
theorem d_Cw_reached_24 : decode b_Cw_reached 24 = .ok (.getfield 97, 3) := by decide +kernel
theorem d_Cw_reached_27 : decode b_Cw_reached 27 = .ok (.getfield 427, 3) := by decide +kernel
theorem d_Cw_reached_30 : decode b_Cw_reached 30 = .ok (.getfield 358, 3) := by decide +kernel
theorem d_Cw_reached_33 : decode b_Cw_reached 33 = .ok (.iload_n 1, 1) := by decide +kernel
theorem d_Cw_reached_34 : decode b_Cw_reached 34 = .ok (.iaload, 1) := by decide +kernel
theorem d_Cw_reached_35 : decode b_Cw_reached 35 = .ok (.ireturn, 1) := by decide +kernel
abbrev ru_Cw_reached : Room := { frames := 0, cells := 0, slots := 0, locals := 0 }
def wj_Cw_reached_35 (y : Ly) (Post : St → Int32 → Prop) (a0 : Nat) (s_j35 : St) (z0j35 : Int32) : Prop := Post s_j35 z0j35
def wj_Cw_reached_18 (y : Ly) (Post : St → Int32 → Prop) (a0 : Nat) (s_j18 : St) : Prop := wj_Cw_reached_35 y Post a0 s_j18 (-2)
def wu_Cw_reached (y : Ly) (Post : St → Int32 → Prop) (σ : St) (a0 : Nat) (v1 : Int32) : Prop := ((v1 < 0 → wj_Cw_reached_18 y Post a0 σ) ∧ (¬ (v1 < 0) → ((v1 < (sV σ (lk (lk a0 3) 3) 1) → xA y σ (lk (lk a0 3) 3) 0 v1 (fun x_1 : Int32 => wj_Cw_reached_35 y Post a0 σ x_1)) ∧ (¬ (v1 < (sV σ (lk (lk a0 3) 3) 1)) → wj_Cw_reached_18 y Post a0 σ))))
set_option maxHeartbeats 4000000 in
set_option maxRecDepth 100000 in
theorem cu_Cw_reached (l : Launch) (D : va_G) (g : Nat → ClassId) (ad : Nat → Nat) (y : Ly) (Post : St → Int32 → Prop) (σ : St) (a0 : Nat) (v1 : Int32) (sz : Nat) (h_a0 : cl a0 = 11) (h : wu_Cw_reached y Post σ a0 v1) : Met l y_Cw_reached (mw y_Cw_reached b_Cw_reached 2 (some .int)) ru_Cw_reached (PC g D [] [.ref (ad a0), .int v1] sz (ws g ad y σ)) (va_Qi (fun (r : Int32) (u : St) => Post u r) (QW D (va_A (ws g ad y σ) sz) (fun u => ws g ad y u)) (va_A (ws g ad y σ) sz)) 0 0 (va_A (ws g ad y σ) sz) := by
  refine ofI (by decide +kernel) (Nat.le_of_ble_eq_true rfl) ?_
  intro p e s m args below meth c A Q ls H locs G hsz hP hD hS hl hret
  subst hsz
  have hl : lv_has ls 2 [(0, .ref (ad a0)), (1, .int v1)] := hl
  unfold wu_Cw_reached at h
  refine lv_iload_n G.1 G.2.1 d_Cw_reached_0 rfl (lv_at hl 1 rfl) ?_
  have J_35 : ∀ (s_j35 : St) (z0j35 : Int32) (H : Heap) (locs : List Loc), wj_Cw_reached_35 y Post a0 s_j35 z0j35 → va_P D CL (ws g ad y s_j35) H → va_D A (ws g ad y s_j35) → va_S A s.heap H locs → ∀ ls, lv_has ls 2 [] → W p l e ru_Cw_reached s m args below meth c H locs 0 0 Q (F0 m 35 ls [.int z0j35]) := by
    intro s_j35 z0j35 H locs h hP hD hS ls hl
    unfold wj_Cw_reached_35 at h
    exact hret _ _ _ _ _ _ _ ls h hP hD hS (Nat.le_refl _) (Nat.le_refl _) d_Cw_reached_35
  have J_18 : ∀ (s_j18 : St) (H : Heap) (locs : List Loc), wj_Cw_reached_18 y Post a0 s_j18 → va_P D CL (ws g ad y s_j18) H → va_D A (ws g ad y s_j18) → va_S A s.heap H locs → ∀ ls, lv_has ls 2 [] → W p l e ru_Cw_reached s m args below meth c H locs 0 0 Q (F0 m 18 ls []) := by
    intro s_j18 H locs h hP hD hS ls hl
    unfold wj_Cw_reached_18 at h
    refine lv_bipush (v := (-2)) G.1 G.2.1 d_Cw_reached_18 (by decide) ?_
    refine lv_goto (tgt := 35) G.1 G.2.1 d_Cw_reached_20 (by decide) ?_
    exact J_35 s_j18 (-2) H locs h hP hD hS ls (lv_sub hl [] rfl)
  refine lv_if_lt (tgt := 18) G.1 G.2.1 d_Cw_reached_1 (by decide) (fun c1 => ?_) (fun c1 => ?_)
  · skip
    have h := h.1 c1
    exact J_18 σ H locs h hP hD hS ls (lv_sub hl [] rfl)
  · skip
    have h := h.2 c1
    refine lv_iload_n G.1 G.2.1 d_Cw_reached_4 rfl (lv_at hl 1 rfl) ?_
    refine lv_aload_n G.1 G.2.1 d_Cw_reached_5 rfl (lv_at hl 0 rfl) ?_
    refine ugf (v := .ref (ad (lk a0 3))) G hP h_a0 iCw rfl 3 (by decide) rfl q1137 rfl rfl d_Cw_reached_6 ?_
    refine ugf (v := .ref (ad (lk (lk a0 3) 3))) G hP (lk_11_3 h_a0) iFi rfl 3 (by decide) rfl q735 rfl rfl d_Cw_reached_9 ?_
    refine ugf (v := .int (sV σ (lk (lk a0 3) 3) 1)) G hP (lk_1_3 (lk_11_3 h_a0)) iIn rfl 1 (by decide) rfl q397 rfl rfl d_Cw_reached_12 ?_
    refine lv_icmp_lt (tgt := 23) G.1 G.2.1 d_Cw_reached_15 (by decide) (fun c15 => ?_) (fun c15 => ?_)
    · skip
      have h := h.1 c15
      refine lv_aload_n G.1 G.2.1 d_Cw_reached_23 rfl (lv_at hl 0 rfl) ?_
      refine ugf (v := .ref (ad (lk a0 3))) G hP h_a0 iCw rfl 3 (by decide) rfl q1137 rfl rfl d_Cw_reached_24 ?_
      refine ugf (v := .ref (ad (lk (lk a0 3) 3))) G hP (lk_11_3 h_a0) iFi rfl 3 (by decide) rfl q735 rfl rfl d_Cw_reached_27 ?_
      refine W.eq (g2 := F0 m 30 ls [.ref (ad (lk (lk a0 3) 3))]) rfl ?_
      refine ugf (v := .ref (yP y (lk (lk a0 3) 3) 0)) G hP (lk_1_3 (lk_11_3 h_a0)) iIn rfl 0 (by decide) rfl q388 rfl rfl d_Cw_reached_30 ?_
      refine lv_iload_n G.1 G.2.1 d_Cw_reached_33 rfl (lv_at hl 1 rfl) ?_
      refine uiald G hP (kdp (lk_1_3 (lk_11_3 h_a0)) rfl) (typ (lk_1_3 (lk_11_3 h_a0)) rfl) h d_Cw_reached_34 (fun x_1 h => ?_)
      exact J_35 σ x_1 H locs h hP hD hS ls (lv_sub hl [] rfl)
    · skip
      have h := h.2 c15
      exact J_18 σ H locs h hP hD hS ls (lv_sub hl [] rfl)
def y_Cw_keepLine : MethodName := ⟨"ClassWorks", "keepLine", "([BIII)I"⟩
abbrev b_Cw_keepLine : ByteArray := prog_1_method_47_code
theorem q1149 : Cond.fieldLink "ClassWorks" 49 "ClassWorks" "draft" "[B" ∈ lw_ok := lw_okmem (List.mem_of_getElem? (i := 1149) (by decide +kernel)) rfl
theorem d_Cw_keepLine_0 : decode b_Cw_keepLine 0 = .ok (.iload 4, 2) := by decide +kernel
theorem d_Cw_keepLine_2 : decode b_Cw_keepLine 2 = .ok (.istore 5, 2) := by decide +kernel
theorem d_Cw_keepLine_4 : decode b_Cw_keepLine 4 = .ok (.iload_n 2, 1) := by decide +kernel
theorem d_Cw_keepLine_5 : decode b_Cw_keepLine 5 = .ok (.istore 6, 2) := by decide +kernel
theorem d_Cw_keepLine_7 : decode b_Cw_keepLine 7 = .ok (.iload 6, 2) := by decide +kernel
theorem d_Cw_keepLine_9 : decode b_Cw_keepLine 9 = .ok (.iload_n 3, 1) := by decide +kernel
theorem d_Cw_keepLine_10 : decode b_Cw_keepLine 10 = .ok (.if_icmp .ge 44, 3) := by decide +kernel
theorem d_Cw_keepLine_13 : decode b_Cw_keepLine 13 = .ok (.aload_n 1, 1) := by decide +kernel
theorem d_Cw_keepLine_14 : decode b_Cw_keepLine 14 = .ok (.iload 6, 2) := by decide +kernel
theorem d_Cw_keepLine_16 : decode b_Cw_keepLine 16 = .ok (.baload, 1) := by decide +kernel
theorem d_Cw_keepLine_17 : decode b_Cw_keepLine 17 = .ok (.bipush 10, 2) := by decide +kernel
theorem d_Cw_keepLine_19 : decode b_Cw_keepLine 19 = .ok (.if_icmp .eq 35, 3) := by decide +kernel
theorem d_Cw_keepLine_22 : decode b_Cw_keepLine 22 = .ok (.iload 5, 2) := by decide +kernel
theorem d_Cw_keepLine_24 : decode b_Cw_keepLine 24 = .ok (.aload_n 0, 1) := by decide +kernel
theorem d_Cw_keepLine_25 : decode b_Cw_keepLine 25 = .ok (.getfield 49, 3) := by decide +kernel
theorem d_Cw_keepLine_28 : decode b_Cw_keepLine 28 = .ok (.arraylength, 1) := by decide +kernel
theorem d_Cw_keepLine_29 : decode b_Cw_keepLine 29 = .ok (.iconst 1, 1) := by decide +kernel
theorem d_Cw_keepLine_30 : decode b_Cw_keepLine 30 = .ok (.isub, 1) := by decide +kernel
theorem d_Cw_keepLine_31 : decode b_Cw_keepLine 31 = .ok (.if_icmp .ge 23, 3) := by decide +kernel
theorem d_Cw_keepLine_34 : decode b_Cw_keepLine 34 = .ok (.aload_n 0, 1) := by decide +kernel
theorem d_Cw_keepLine_35 : decode b_Cw_keepLine 35 = .ok (.getfield 49, 3) := by decide +kernel
theorem d_Cw_keepLine_38 : decode b_Cw_keepLine 38 = .ok (.iload 5, 2) := by decide +kernel
theorem d_Cw_keepLine_40 : decode b_Cw_keepLine 40 = .ok (.aload_n 1, 1) := by decide +kernel
theorem d_Cw_keepLine_41 : decode b_Cw_keepLine 41 = .ok (.iload 6, 2) := by decide +kernel
theorem d_Cw_keepLine_43 : decode b_Cw_keepLine 43 = .ok (.baload, 1) := by decide +kernel
theorem d_Cw_keepLine_44 : decode b_Cw_keepLine 44 = .ok (.bastore, 1) := by decide +kernel
theorem d_Cw_keepLine_45 : decode b_Cw_keepLine 45 = .ok (.iinc 5 1, 3) := by decide +kernel
theorem d_Cw_keepLine_48 : decode b_Cw_keepLine 48 = .ok (.iinc 6 1, 3) := by decide +kernel
theorem d_Cw_keepLine_51 : decode b_Cw_keepLine 51 = .ok (.goto (-44), 3) := by decide +kernel
theorem d_Cw_keepLine_54 : decode b_Cw_keepLine 54 = .ok (.iload 5, 2) := by decide +kernel
theorem d_Cw_keepLine_56 : decode b_Cw_keepLine 56 = .ok (.aload_n 0, 1) := by decide +kernel
theorem d_Cw_keepLine_57 : decode b_Cw_keepLine 57 = .ok (.getfield 49, 3) := by decide +kernel
theorem d_Cw_keepLine_60 : decode b_Cw_keepLine 60 = .ok (.arraylength, 1) := by decide +kernel
theorem d_Cw_keepLine_61 : decode b_Cw_keepLine 61 = .ok (.if_icmp .ge 15, 3) := by decide +kernel
theorem d_Cw_keepLine_64 : decode b_Cw_keepLine 64 = .ok (.aload_n 0, 1) := by decide +kernel
theorem d_Cw_keepLine_65 : decode b_Cw_keepLine 65 = .ok (.getfield 49, 3) := by decide +kernel
theorem d_Cw_keepLine_68 : decode b_Cw_keepLine 68 = .ok (.iload 5, 2) := by decide +kernel
theorem d_Cw_keepLine_70 : decode b_Cw_keepLine 70 = .ok (.bipush 10, 2) := by decide +kernel
theorem d_Cw_keepLine_72 : decode b_Cw_keepLine 72 = .ok (.bastore, 1) := by decide +kernel
theorem d_Cw_keepLine_73 : decode b_Cw_keepLine 73 = .ok (.iinc 5 1, 3) := by decide +kernel
theorem d_Cw_keepLine_76 : decode b_Cw_keepLine 76 = .ok (.iload 5, 2) := by decide +kernel
theorem d_Cw_keepLine_78 : decode b_Cw_keepLine 78 = .ok (.ireturn, 1) := by decide +kernel
abbrev ru_Cw_keepLine : Room := { frames := 0, cells := 0, slots := 0, locals := 0 }
def wj_Cw_keepLine_76 (y : Ly) (Post : St → Int32 → Prop) (a0 : Nat) (a1 : Nat) (k1 : Nat) (s_j76 : St) (x5j76 : Int32) : Prop := Post s_j76 x5j76
def wj_Cw_keepLine_54 (y : Ly) (Post : St → Int32 → Prop) (a0 : Nat) (a1 : Nat) (k1 : Nat) (s_j54 : St) (x5j54 : Int32) : Prop := (((nI (yN y a0 15)) ≤ x5j54 → wj_Cw_keepLine_76 y Post a0 a1 k1 s_j54 x5j54) ∧ (¬ ((nI (yN y a0 15)) ≤ x5j54) → xS y s_j54 a0 15 x5j54 (vp_nar .byte 10) (fun s_1 : St => wj_Cw_keepLine_76 y Post a0 a1 k1 s_1 (x5j54 + 1))))
def wb_Cw_keepLine_7 (y : Ly) (Post : St → Int32 → Prop) (K_7 : St → Int32 → Int32 → Int32 → Prop) (a0 : Nat) (a1 : Nat) (k1 : Nat) (s_h7 : St) (x3h7 : Int32) (x5h7 : Int32) (x6h7 : Int32) : Prop := ((x3h7 ≤ x6h7 → wj_Cw_keepLine_54 y Post a0 a1 k1 s_h7 x5h7) ∧ (¬ (x3h7 ≤ x6h7) → xA y s_h7 a1 k1 x6h7 (fun x_2 : Int32 => ((x_2 = 10 → wj_Cw_keepLine_54 y Post a0 a1 k1 s_h7 x5h7) ∧ (¬ (x_2 = 10) → ((((nI (yN y a0 15)) - 1) ≤ x5h7 → wj_Cw_keepLine_54 y Post a0 a1 k1 s_h7 x5h7) ∧ (¬ (((nI (yN y a0 15)) - 1) ≤ x5h7) → xA y s_h7 a1 k1 x6h7 (fun x_3 : Int32 => xS y s_h7 a0 15 x5h7 (vp_nar .byte x_3) (fun s_4 : St => K_7 s_4 x3h7 (x5h7 + 1) (x6h7 + 1))))))))))
def wl_Cw_keepLine_7 (y : Ly) (Post : St → Int32 → Prop) (a0 : Nat) (a1 : Nat) (k1 : Nat) (s_h7 : St) (x3h7 : Int32) (x5h7 : Int32) (x6h7 : Int32) : Prop := ∃ (I : St → Int32 → Int32 → Int32 → Prop) (μ : St → Int32 → Int32 → Int32 → Nat), I s_h7 x3h7 x5h7 x6h7 ∧ ∀ (u : St) (t0 : Int32) (t1 : Int32) (t2 : Int32), I u t0 t1 t2 → wb_Cw_keepLine_7 y Post (fun z t0q t1q t2q => I z t0q t1q t2q ∧ μ z t0q t1q t2q < μ u t0 t1 t2) a0 a1 k1 u t0 t1 t2
def wu_Cw_keepLine (y : Ly) (Post : St → Int32 → Prop) (σ : St) (a0 : Nat) (a1 : Nat) (k1 : Nat) (v2 : Int32) (v3 : Int32) (v4 : Int32) : Prop := wl_Cw_keepLine_7 y Post a0 a1 k1 σ v3 v4 v2
set_option maxHeartbeats 4000000 in
set_option maxRecDepth 100000 in
theorem cu_Cw_keepLine (l : Launch) (D : va_G) (g : Nat → ClassId) (ad : Nat → Nat) (y : Ly) (Post : St → Int32 → Prop) (σ : St) (a0 : Nat) (a1 : Nat) (k1 : Nat) (v2 : Int32) (v3 : Int32) (v4 : Int32) (sz : Nat) (h_a0 : cl a0 = 11) (h_a1 : kd (cl a1) k1 = 2 ∧ tyx (cl a1) k1 = 1) (h : wu_Cw_keepLine y Post σ a0 a1 k1 v2 v3 v4) : Met l y_Cw_keepLine (mw y_Cw_keepLine b_Cw_keepLine 7 (some .int)) ru_Cw_keepLine (PC g D [] [.ref (ad a0), .ref (yP y a1 k1), .int v2, .int v3, .int v4] sz (ws g ad y σ)) (va_Qi (fun (r : Int32) (u : St) => Post u r) (QW D (va_A (ws g ad y σ) sz) (fun u => ws g ad y u)) (va_A (ws g ad y σ) sz)) 0 0 (va_A (ws g ad y σ) sz) := by
  refine ofI (by decide +kernel) (Nat.le_of_ble_eq_true rfl) ?_
  intro p e s m args below meth c A Q ls H locs G hsz hP hD hS hl hret
  subst hsz
  have hl : lv_has ls 7 [(0, .ref (ad a0)), (1, .ref (yP y a1 k1)), (2, .int v2), (3, .int v3), (4, .int v4)] := hl
  unfold wu_Cw_keepLine at h
  refine lv_iload G.1 G.2.1 d_Cw_keepLine_0 (lv_at hl 4 rfl) ?_
  refine lv_istore (lv' := [(5, .int v4), (0, .ref (ad a0)), (1, .ref (yP y a1 k1)), (2, .int v2), (3, .int v3), (4, .int v4)]) G.1 G.2.1 d_Cw_keepLine_2 hl (by decide) rfl (fun ls hl => ?_)
  refine lv_iload_n G.1 G.2.1 d_Cw_keepLine_4 rfl (lv_at hl 3 rfl) ?_
  refine lv_istore (lv' := [(6, .int v2), (5, .int v4), (0, .ref (ad a0)), (1, .ref (yP y a1 k1)), (2, .int v2), (3, .int v3), (4, .int v4)]) G.1 G.2.1 d_Cw_keepLine_5 hl (by decide) rfl (fun ls hl => ?_)
  unfold wl_Cw_keepLine_7 at h
  obtain ⟨I_7, μ_7, hI_7, hB_7⟩ := h
  have L_7 : ∀ (n_7 : Nat) (s_h7 : St) (x3h7 : Int32) (x5h7 : Int32) (x6h7 : Int32), μ_7 s_h7 x3h7 x5h7 x6h7 < n_7 → I_7 s_h7 x3h7 x5h7 x6h7 → ∀ (H : Heap) (locs : List Loc), va_P D CL (ws g ad y s_h7) H → va_D A (ws g ad y s_h7) → va_S A s.heap H locs → ∀ ls, lv_has ls 7 [(0, .ref (ad a0)), (1, .ref (yP y a1 k1)), (3, .int x3h7), (5, .int x5h7), (6, .int x6h7)] → W p l e ru_Cw_keepLine s m args below meth c H locs 0 0 Q (F0 m 7 ls []) := by
    intro n_7
    induction n_7 with
    | zero => intro s_h7 x3h7 x5h7 x6h7 hμ; exact absurd hμ (Nat.not_lt_zero _)
    | succ n_7 ih_7 =>
      intro s_h7 x3h7 x5h7 x6h7 hμ_7 hJ H locs hP hD hS ls hl
      obtain ⟨K_7, hK_7, h⟩ : ∃ K : St → Int32 → Int32 → Int32 → Prop, (∀ z (t0 : Int32) (t1 : Int32) (t2 : Int32), K z t0 t1 t2 → I_7 z t0 t1 t2 ∧ μ_7 z t0 t1 t2 < μ_7 s_h7 x3h7 x5h7 x6h7) ∧ wb_Cw_keepLine_7 y Post K a0 a1 k1 s_h7 x3h7 x5h7 x6h7 := ⟨_, fun _ _ _ _ h => h, hB_7 s_h7 x3h7 x5h7 x6h7 hJ⟩
      unfold wb_Cw_keepLine_7 at h
      refine lv_iload G.1 G.2.1 d_Cw_keepLine_7 (lv_at hl 4 rfl) ?_
      refine lv_iload_n G.1 G.2.1 d_Cw_keepLine_9 rfl (lv_at hl 2 rfl) ?_
      have J_54 : ∀ (s_j54 : St) (x5j54 : Int32) (H : Heap) (locs : List Loc), wj_Cw_keepLine_54 y Post a0 a1 k1 s_j54 x5j54 → va_P D CL (ws g ad y s_j54) H → va_D A (ws g ad y s_j54) → va_S A s.heap H locs → ∀ ls, lv_has ls 7 [(0, .ref (ad a0)), (5, .int x5j54)] → W p l e ru_Cw_keepLine s m args below meth c H locs 0 0 Q (F0 m 54 ls []) := by
        intro s_j54 x5j54 H locs h hP hD hS ls hl
        unfold wj_Cw_keepLine_54 at h
        refine lv_iload G.1 G.2.1 d_Cw_keepLine_54 (lv_at hl 1 rfl) ?_
        refine lv_aload_n G.1 G.2.1 d_Cw_keepLine_56 rfl (lv_at hl 0 rfl) ?_
        refine ugf (v := .ref (yP y a0 15)) G hP h_a0 iCw rfl 15 (by decide) rfl q1149 rfl rfl d_Cw_keepLine_57 ?_
        refine ualen G hP (kdp h_a0 rfl) (by decide) (by decide) (typ h_a0 rfl) rfl d_Cw_keepLine_60 ?_
        have J_76 : ∀ (s_j76 : St) (x5j76 : Int32) (H : Heap) (locs : List Loc), wj_Cw_keepLine_76 y Post a0 a1 k1 s_j76 x5j76 → va_P D CL (ws g ad y s_j76) H → va_D A (ws g ad y s_j76) → va_S A s.heap H locs → ∀ ls, lv_has ls 7 [(5, .int x5j76)] → W p l e ru_Cw_keepLine s m args below meth c H locs 0 0 Q (F0 m 76 ls []) := by
          intro s_j76 x5j76 H locs h hP hD hS ls hl
          unfold wj_Cw_keepLine_76 at h
          refine lv_iload G.1 G.2.1 d_Cw_keepLine_76 (lv_at hl 0 rfl) ?_
          exact hret _ _ _ _ _ _ _ ls h hP hD hS (Nat.le_refl _) (Nat.le_refl _) d_Cw_keepLine_78
        refine lv_icmp_ge (tgt := 76) G.1 G.2.1 d_Cw_keepLine_61 (by decide) (fun c61 => ?_) (fun c61 => ?_)
        · skip
          have h := h.1 c61
          exact J_76 s_j54 x5j54 H locs h hP hD hS ls (lv_sub hl [1] rfl)
        · skip
          have h := h.2 c61
          refine lv_aload_n G.1 G.2.1 d_Cw_keepLine_64 rfl (lv_at hl 0 rfl) ?_
          refine ugf (v := .ref (yP y a0 15)) G hP h_a0 iCw rfl 15 (by decide) rfl q1149 rfl rfl d_Cw_keepLine_65 ?_
          refine lv_iload G.1 G.2.1 d_Cw_keepLine_68 (lv_at hl 1 rfl) ?_
          refine lv_bipush (v := 10) G.1 G.2.1 d_Cw_keepLine_70 (by decide) ?_
          refine ubast G hP hD hS (kdp h_a0 rfl) (typ h_a0 rfl) h d_Cw_keepLine_72 (fun s_1 H locs h hP hD hS => ?_)
          refine lv_iinc (v := x5j54 + 1) (lv' := [(5, .int (x5j54 + 1)), (0, .ref (ad a0))]) G.1 G.2.1 d_Cw_keepLine_73 hl (k := 1) rfl rfl (by decide) rfl (fun ls hl => ?_)
          exact J_76 s_1 (x5j54 + 1) H locs h hP hD hS ls (lv_sub hl [0] rfl)
      refine lv_icmp_ge (tgt := 54) G.1 G.2.1 d_Cw_keepLine_10 (by decide) (fun c10 => ?_) (fun c10 => ?_)
      · skip
        have h := h.1 c10
        exact J_54 s_h7 x5h7 H locs h hP hD hS ls (lv_sub hl [0, 3] rfl)
      · skip
        have h := h.2 c10
        refine lv_aload_n G.1 G.2.1 d_Cw_keepLine_13 rfl (lv_at hl 1 rfl) ?_
        refine lv_iload G.1 G.2.1 d_Cw_keepLine_14 (lv_at hl 4 rfl) ?_
        refine ubald G hP h_a1.1 h_a1.2 h d_Cw_keepLine_16 (fun x_2 h => ?_)
        refine lv_bipush (v := 10) G.1 G.2.1 d_Cw_keepLine_17 (by decide) ?_
        refine lv_icmp_eq (tgt := 54) G.1 G.2.1 d_Cw_keepLine_19 (by decide) (fun c19 => ?_) (fun c19 => ?_)
        · skip
          have h := h.1 c19
          exact J_54 s_h7 x5h7 H locs h hP hD hS ls (lv_sub hl [0, 3] rfl)
        · skip
          have h := h.2 c19
          refine lv_iload G.1 G.2.1 d_Cw_keepLine_22 (lv_at hl 3 rfl) ?_
          refine lv_aload_n G.1 G.2.1 d_Cw_keepLine_24 rfl (lv_at hl 0 rfl) ?_
          refine ugf (v := .ref (yP y a0 15)) G hP h_a0 iCw rfl 15 (by decide) rfl q1149 rfl rfl d_Cw_keepLine_25 ?_
          refine W.eq (g2 := F0 m 28 ls [.ref (yP y a0 15), .int x5h7]) rfl ?_
          refine ualen G hP (kdp h_a0 rfl) (by decide) (by decide) (typ h_a0 rfl) rfl d_Cw_keepLine_28 ?_
          refine lv_iconst (v := 1) G.1 G.2.1 d_Cw_keepLine_29 (by decide) ?_
          refine lv_isub G.1 G.2.1 d_Cw_keepLine_30 ?_
          refine lv_icmp_ge (tgt := 54) G.1 G.2.1 d_Cw_keepLine_31 (by decide) (fun c31 => ?_) (fun c31 => ?_)
          · skip
            have h := h.1 c31
            exact J_54 s_h7 x5h7 H locs h hP hD hS ls (lv_sub hl [0, 3] rfl)
          · skip
            have h := h.2 c31
            refine lv_aload_n G.1 G.2.1 d_Cw_keepLine_34 rfl (lv_at hl 0 rfl) ?_
            refine ugf (v := .ref (yP y a0 15)) G hP h_a0 iCw rfl 15 (by decide) rfl q1149 rfl rfl d_Cw_keepLine_35 ?_
            refine lv_iload G.1 G.2.1 d_Cw_keepLine_38 (lv_at hl 3 rfl) ?_
            refine lv_aload_n G.1 G.2.1 d_Cw_keepLine_40 rfl (lv_at hl 1 rfl) ?_
            refine lv_iload G.1 G.2.1 d_Cw_keepLine_41 (lv_at hl 4 rfl) ?_
            refine ubald G hP h_a1.1 h_a1.2 h d_Cw_keepLine_43 (fun x_3 h => ?_)
            refine ubast G hP hD hS (kdp h_a0 rfl) (typ h_a0 rfl) h d_Cw_keepLine_44 (fun s_4 H locs h hP hD hS => ?_)
            refine lv_iinc (v := x5h7 + 1) (lv' := [(5, .int (x5h7 + 1)), (0, .ref (ad a0)), (1, .ref (yP y a1 k1)), (3, .int x3h7), (6, .int x6h7)]) G.1 G.2.1 d_Cw_keepLine_45 hl (k := 3) rfl rfl (by decide) rfl (fun ls hl => ?_)
            refine W.eq (g2 := F0 m 48 ls []) rfl ?_
            refine lv_iinc (v := x6h7 + 1) (lv' := [(6, .int (x6h7 + 1)), (5, .int (x5h7 + 1)), (0, .ref (ad a0)), (1, .ref (yP y a1 k1)), (3, .int x3h7)]) G.1 G.2.1 d_Cw_keepLine_48 hl (k := 4) rfl rfl (by decide) rfl (fun ls hl => ?_)
            refine lv_goto (tgt := 7) G.1 G.2.1 d_Cw_keepLine_51 (by decide) ?_
            have h := hK_7 s_4 x3h7 (x5h7 + 1) (x6h7 + 1) h
            exact ih_7 s_4 x3h7 (x5h7 + 1) (x6h7 + 1) (Nat.lt_of_lt_of_le h.2 (Nat.le_of_lt_succ hμ_7)) h.1 H locs hP hD hS ls (lv_sub hl [2, 3, 4, 1, 0] rfl)
  exact L_7 _ σ v3 v4 v2 (Nat.lt_succ_self _) hI_7 H locs hP hD hS ls (lv_sub hl [2, 3, 5, 1, 0] rfl)
def y_Cw_keepDraft : MethodName := ⟨"ClassWorks", "keepDraft", "(I)I"⟩
abbrev b_Cw_keepDraft : ByteArray := prog_1_method_48_code
theorem q1144 : Cond.fieldLink "ClassWorks" 33 "ClassWorks" "stock" "[B" ∈ lw_ok := lw_okmem (List.mem_of_getElem? (i := 1144) (by decide +kernel)) rfl
theorem q1148 : Cond.fieldLink "ClassWorks" 46 "ClassWorks" "trials" "I" ∈ lw_ok := lw_okmem (List.mem_of_getElem? (i := 1148) (by decide +kernel)) rfl
theorem q2468 : Cond.methodLink "ClassWorks" 450 arraycopyName ∈ lw_ok := lw_okmem (List.mem_of_getElem? (i := 2468) (by decide +kernel)) rfl
theorem q1145 : Cond.fieldLink "ClassWorks" 36 "ClassWorks" "sizes" "[I" ∈ lw_ok := lw_okmem (List.mem_of_getElem? (i := 1145) (by decide +kernel)) rfl
theorem q1146 : Cond.fieldLink "ClassWorks" 40 "ClassWorks" "met" "[I" ∈ lw_ok := lw_okmem (List.mem_of_getElem? (i := 1146) (by decide +kernel)) rfl
theorem q1147 : Cond.fieldLink "ClassWorks" 43 "ClassWorks" "found" "[I" ∈ lw_ok := lw_okmem (List.mem_of_getElem? (i := 1147) (by decide +kernel)) rfl
theorem d_Cw_keepDraft_0 : decode b_Cw_keepDraft 0 = .ok (.aload_n 0, 1) := by decide +kernel
theorem d_Cw_keepDraft_1 : decode b_Cw_keepDraft 1 = .ok (.getfield 49, 3) := by decide +kernel
theorem d_Cw_keepDraft_4 : decode b_Cw_keepDraft 4 = .ok (.iconst 0, 1) := by decide +kernel
theorem d_Cw_keepDraft_5 : decode b_Cw_keepDraft 5 = .ok (.aload_n 0, 1) := by decide +kernel
theorem d_Cw_keepDraft_6 : decode b_Cw_keepDraft 6 = .ok (.getfield 33, 3) := by decide +kernel
theorem d_Cw_keepDraft_9 : decode b_Cw_keepDraft 9 = .ok (.aload_n 0, 1) := by decide +kernel
theorem d_Cw_keepDraft_10 : decode b_Cw_keepDraft 10 = .ok (.getfield 46, 3) := by decide +kernel
theorem d_Cw_keepDraft_13 : decode b_Cw_keepDraft 13 = .ok (.sipush 1204, 3) := by decide +kernel
theorem d_Cw_keepDraft_16 : decode b_Cw_keepDraft 16 = .ok (.imul, 1) := by decide +kernel
theorem d_Cw_keepDraft_17 : decode b_Cw_keepDraft 17 = .ok (.iload_n 1, 1) := by decide +kernel
theorem d_Cw_keepDraft_18 : decode b_Cw_keepDraft 18 = .ok (.invokestatic 450, 3) := by decide +kernel
theorem d_Cw_keepDraft_21 : decode b_Cw_keepDraft 21 = .ok (.aload_n 0, 1) := by decide +kernel
theorem d_Cw_keepDraft_22 : decode b_Cw_keepDraft 22 = .ok (.getfield 36, 3) := by decide +kernel
theorem d_Cw_keepDraft_25 : decode b_Cw_keepDraft 25 = .ok (.aload_n 0, 1) := by decide +kernel
theorem d_Cw_keepDraft_26 : decode b_Cw_keepDraft 26 = .ok (.getfield 46, 3) := by decide +kernel
theorem d_Cw_keepDraft_29 : decode b_Cw_keepDraft 29 = .ok (.iload_n 1, 1) := by decide +kernel
theorem d_Cw_keepDraft_30 : decode b_Cw_keepDraft 30 = .ok (.iastore, 1) := by decide +kernel
theorem d_Cw_keepDraft_31 : decode b_Cw_keepDraft 31 = .ok (.aload_n 0, 1) := by decide +kernel
theorem d_Cw_keepDraft_32 : decode b_Cw_keepDraft 32 = .ok (.getfield 40, 3) := by decide +kernel
theorem d_Cw_keepDraft_35 : decode b_Cw_keepDraft 35 = .ok (.aload_n 0, 1) := by decide +kernel
theorem d_Cw_keepDraft_36 : decode b_Cw_keepDraft 36 = .ok (.getfield 46, 3) := by decide +kernel
theorem d_Cw_keepDraft_39 : decode b_Cw_keepDraft 39 = .ok (.iconst (-1), 1) := by decide +kernel
theorem d_Cw_keepDraft_40 : decode b_Cw_keepDraft 40 = .ok (.iastore, 1) := by decide +kernel
theorem d_Cw_keepDraft_41 : decode b_Cw_keepDraft 41 = .ok (.aload_n 0, 1) := by decide +kernel
theorem d_Cw_keepDraft_42 : decode b_Cw_keepDraft 42 = .ok (.getfield 43, 3) := by decide +kernel
theorem d_Cw_keepDraft_45 : decode b_Cw_keepDraft 45 = .ok (.aload_n 0, 1) := by decide +kernel
theorem d_Cw_keepDraft_46 : decode b_Cw_keepDraft 46 = .ok (.getfield 46, 3) := by decide +kernel
theorem d_Cw_keepDraft_49 : decode b_Cw_keepDraft 49 = .ok (.iconst (-1), 1) := by decide +kernel
theorem d_Cw_keepDraft_50 : decode b_Cw_keepDraft 50 = .ok (.iastore, 1) := by decide +kernel
theorem d_Cw_keepDraft_51 : decode b_Cw_keepDraft 51 = .ok (.aload_n 0, 1) := by decide +kernel
theorem d_Cw_keepDraft_52 : decode b_Cw_keepDraft 52 = .ok (.dup, 1) := by decide +kernel
theorem d_Cw_keepDraft_53 : decode b_Cw_keepDraft 53 = .ok (.getfield 46, 3) := by decide +kernel
theorem d_Cw_keepDraft_56 : decode b_Cw_keepDraft 56 = .ok (.iconst 1, 1) := by decide +kernel
theorem d_Cw_keepDraft_57 : decode b_Cw_keepDraft 57 = .ok (.iadd, 1) := by decide +kernel
theorem d_Cw_keepDraft_58 : decode b_Cw_keepDraft 58 = .ok (.putfield 46, 3) := by decide +kernel
theorem d_Cw_keepDraft_61 : decode b_Cw_keepDraft 61 = .ok (.aload_n 0, 1) := by decide +kernel
theorem d_Cw_keepDraft_62 : decode b_Cw_keepDraft 62 = .ok (.getfield 46, 3) := by decide +kernel
theorem d_Cw_keepDraft_65 : decode b_Cw_keepDraft 65 = .ok (.iconst 1, 1) := by decide +kernel
theorem d_Cw_keepDraft_66 : decode b_Cw_keepDraft 66 = .ok (.isub, 1) := by decide +kernel
theorem d_Cw_keepDraft_67 : decode b_Cw_keepDraft 67 = .ok (.ireturn, 1) := by decide +kernel
abbrev ru_Cw_keepDraft : Room := { frames := 1, cells := 0, slots := 0, locals := 120 }
def wu_Cw_keepDraft (y : Ly) (Post : St → Int32 → Prop) (σ : St) (a0 : Nat) (v1 : Int32) : Prop := xC y σ a0 15 a0 10 .byte 0 ((sV σ a0 14) * 1204) v1 (fun s_1 : St => xS y s_1 a0 11 (sV s_1 a0 14) v1 (fun s_2 : St => xS y s_2 a0 12 (sV s_2 a0 14) (-1) (fun s_3 : St => xS y s_3 a0 13 (sV s_3 a0 14) (-1) (fun s_4 : St => xP (uV s_4 a0 14 ((sV s_4 a0 14) + 1)) (fun s_5 : St => Post s_5 ((sV s_5 a0 14) - 1))))))
set_option maxHeartbeats 4000000 in
set_option maxRecDepth 100000 in
theorem cu_Cw_keepDraft (l : Launch) (D : va_G) (g : Nat → ClassId) (ad : Nat → Nat) (y : Ly) (Post : St → Int32 → Prop) (σ : St) (a0 : Nat) (v1 : Int32) (sz : Nat) (h_a0 : cl a0 = 11) (h : wu_Cw_keepDraft y Post σ a0 v1) : Met l y_Cw_keepDraft (mw y_Cw_keepDraft b_Cw_keepDraft 2 (some .int)) ru_Cw_keepDraft (PC g D [] [.ref (ad a0), .int v1] sz (ws g ad y σ)) (va_Qi (fun (r : Int32) (u : St) => Post u r) (QW D (va_A (ws g ad y σ) sz) (fun u => ws g ad y u)) (va_A (ws g ad y σ) sz)) 0 0 (va_A (ws g ad y σ) sz) := by
  refine ofI (by decide +kernel) (Nat.le_of_ble_eq_true rfl) ?_
  intro p e s m args below meth c A Q ls H locs G hsz hP hD hS hl hret
  subst hsz
  have hl : lv_has ls 2 [(0, .ref (ad a0)), (1, .int v1)] := hl
  unfold wu_Cw_keepDraft at h
  refine lv_aload_n G.1 G.2.1 d_Cw_keepDraft_0 rfl (lv_at hl 0 rfl) ?_
  refine ugf (v := .ref (yP y a0 15)) G hP h_a0 iCw rfl 15 (by decide) rfl q1149 rfl rfl d_Cw_keepDraft_1 ?_
  refine lv_iconst (v := 0) G.1 G.2.1 d_Cw_keepDraft_4 (by decide) ?_
  refine lv_aload_n G.1 G.2.1 d_Cw_keepDraft_5 rfl (lv_at hl 0 rfl) ?_
  refine ugf (v := .ref (yP y a0 10)) G hP h_a0 iCw rfl 10 (by decide) rfl q1144 rfl rfl d_Cw_keepDraft_6 ?_
  refine lv_aload_n G.1 G.2.1 d_Cw_keepDraft_9 rfl (lv_at hl 0 rfl) ?_
  refine ugf (v := .int (sV σ a0 14)) G hP h_a0 iCw rfl 14 (by decide) rfl q1148 rfl rfl d_Cw_keepDraft_10 ?_
  refine lv_sipush (v := 1204) G.1 G.2.1 d_Cw_keepDraft_13 (by decide) ?_
  refine lv_imul G.1 G.2.1 d_Cw_keepDraft_16 ?_
  refine lv_iload_n G.1 G.2.1 d_Cw_keepDraft_17 rfl (lv_at hl 1 rfl) ?_
  refine ucpy G hP hD hS (kdp h_a0 rfl) (typ h_a0 rfl) (kdp h_a0 rfl) (typ h_a0 rfl) rfl rfl h hl.1 q2468 q488 q487 q338 (Nat.le_of_ble_eq_true rfl) (Nat.le_of_ble_eq_true rfl) d_Cw_keepDraft_18 (fun s_1 H locs h hP hD hS => ?_)
  refine W.eq (g2 := F0 m 21 ls []) rfl ?_
  refine lv_aload_n G.1 G.2.1 d_Cw_keepDraft_21 rfl (lv_at hl 0 rfl) ?_
  refine ugf (v := .ref (yP y a0 11)) G hP h_a0 iCw rfl 11 (by decide) rfl q1145 rfl rfl d_Cw_keepDraft_22 ?_
  refine lv_aload_n G.1 G.2.1 d_Cw_keepDraft_25 rfl (lv_at hl 0 rfl) ?_
  refine ugf (v := .int (sV s_1 a0 14)) G hP h_a0 iCw rfl 14 (by decide) rfl q1148 rfl rfl d_Cw_keepDraft_26 ?_
  refine lv_iload_n G.1 G.2.1 d_Cw_keepDraft_29 rfl (lv_at hl 1 rfl) ?_
  refine uiast G hP hD hS (kdp h_a0 rfl) (typ h_a0 rfl) h d_Cw_keepDraft_30 (fun s_2 H locs h hP hD hS => ?_)
  refine lv_aload_n G.1 G.2.1 d_Cw_keepDraft_31 rfl (lv_at hl 0 rfl) ?_
  refine ugf (v := .ref (yP y a0 12)) G hP h_a0 iCw rfl 12 (by decide) rfl q1146 rfl rfl d_Cw_keepDraft_32 ?_
  refine lv_aload_n G.1 G.2.1 d_Cw_keepDraft_35 rfl (lv_at hl 0 rfl) ?_
  refine ugf (v := .int (sV s_2 a0 14)) G hP h_a0 iCw rfl 14 (by decide) rfl q1148 rfl rfl d_Cw_keepDraft_36 ?_
  refine lv_iconst (v := (-1)) G.1 G.2.1 d_Cw_keepDraft_39 (by decide) ?_
  refine uiast G hP hD hS (kdp h_a0 rfl) (typ h_a0 rfl) h d_Cw_keepDraft_40 (fun s_3 H locs h hP hD hS => ?_)
  refine W.eq (g2 := F0 m 41 ls []) rfl ?_
  refine lv_aload_n G.1 G.2.1 d_Cw_keepDraft_41 rfl (lv_at hl 0 rfl) ?_
  refine ugf (v := .ref (yP y a0 13)) G hP h_a0 iCw rfl 13 (by decide) rfl q1147 rfl rfl d_Cw_keepDraft_42 ?_
  refine lv_aload_n G.1 G.2.1 d_Cw_keepDraft_45 rfl (lv_at hl 0 rfl) ?_
  refine ugf (v := .int (sV s_3 a0 14)) G hP h_a0 iCw rfl 14 (by decide) rfl q1148 rfl rfl d_Cw_keepDraft_46 ?_
  refine lv_iconst (v := (-1)) G.1 G.2.1 d_Cw_keepDraft_49 (by decide) ?_
  refine uiast G hP hD hS (kdp h_a0 rfl) (typ h_a0 rfl) h d_Cw_keepDraft_50 (fun s_4 H locs h hP hD hS => ?_)
  refine lv_aload_n G.1 G.2.1 d_Cw_keepDraft_51 rfl (lv_at hl 0 rfl) ?_
  refine lv_dup G.1 G.2.1 d_Cw_keepDraft_52 rfl ?_
  refine ugf (v := .int (sV s_4 a0 14)) G hP h_a0 iCw rfl 14 (by decide) rfl q1148 rfl rfl d_Cw_keepDraft_53 ?_
  refine lv_iconst (v := 1) G.1 G.2.1 d_Cw_keepDraft_56 (by decide) ?_
  refine lv_iadd G.1 G.2.1 d_Cw_keepDraft_57 ?_
  refine upf G hP hD hS h 14 putV h_a0 iCw tCw tCw_ok nCw rfl (by decide) rfl q1148 rfl rfl fV rfl rfl d_Cw_keepDraft_58 (fun s_5 H locs h hP hD hS => ?_)
  refine W.eq (g2 := F0 m 61 ls []) rfl ?_
  refine lv_aload_n G.1 G.2.1 d_Cw_keepDraft_61 rfl (lv_at hl 0 rfl) ?_
  refine ugf (v := .int (sV s_5 a0 14)) G hP h_a0 iCw rfl 14 (by decide) rfl q1148 rfl rfl d_Cw_keepDraft_62 ?_
  refine lv_iconst (v := 1) G.1 G.2.1 d_Cw_keepDraft_65 (by decide) ?_
  refine lv_isub G.1 G.2.1 d_Cw_keepDraft_66 ?_
  exact hret _ _ _ _ _ _ _ ls h hP hD hS (Nat.le_refl _) (Nat.le_refl _) d_Cw_keepDraft_67
def y_Cw_isTrial : MethodName := ⟨"ClassWorks", "isTrial", "(I)Z"⟩
abbrev b_Cw_isTrial : ByteArray := prog_1_method_49_code
theorem d_Cw_isTrial_0 : decode b_Cw_isTrial 0 = .ok (.iload_n 1, 1) := by decide +kernel
theorem d_Cw_isTrial_1 : decode b_Cw_isTrial 1 = .ok (.ifCond .lt 15, 3) := by decide +kernel
theorem d_Cw_isTrial_4 : decode b_Cw_isTrial 4 = .ok (.iload_n 1, 1) := by decide +kernel
theorem d_Cw_isTrial_5 : decode b_Cw_isTrial 5 = .ok (.aload_n 0, 1) := by decide +kernel
theorem d_Cw_isTrial_6 : decode b_Cw_isTrial 6 = .ok (.getfield 46, 3) := by decide +kernel
theorem d_Cw_isTrial_9 : decode b_Cw_isTrial 9 = .ok (.if_icmp .ge 7, 3) := by decide +kernel
theorem d_Cw_isTrial_12 : decode b_Cw_isTrial 12 = .ok (.iconst 1, 1) := by decide +kernel
theorem d_Cw_isTrial_13 : decode b_Cw_isTrial 13 = .ok (.goto 4, 3) := by decide +kernel
theorem d_Cw_isTrial_16 : decode b_Cw_isTrial 16 = .ok (.iconst 0, 1) := by decide +kernel
theorem d_Cw_isTrial_17 : decode b_Cw_isTrial 17 = .ok (.ireturn, 1) := by decide +kernel
abbrev ru_Cw_isTrial : Room := { frames := 0, cells := 0, slots := 0, locals := 0 }
def wj_Cw_isTrial_17 (y : Ly) (Post : St → Int32 → Prop) (a0 : Nat) (s_j17 : St) (z0j17 : Int32) : Prop := (nb z0j17 ∧ Post s_j17 z0j17)
def wj_Cw_isTrial_16 (y : Ly) (Post : St → Int32 → Prop) (a0 : Nat) (s_j16 : St) : Prop := wj_Cw_isTrial_17 y Post a0 s_j16 0
def wu_Cw_isTrial (y : Ly) (Post : St → Int32 → Prop) (σ : St) (a0 : Nat) (v1 : Int32) : Prop := ((v1 < 0 → wj_Cw_isTrial_16 y Post a0 σ) ∧ (¬ (v1 < 0) → (((sV σ a0 14) ≤ v1 → wj_Cw_isTrial_16 y Post a0 σ) ∧ (¬ ((sV σ a0 14) ≤ v1) → wj_Cw_isTrial_17 y Post a0 σ 1))))
set_option maxHeartbeats 4000000 in
set_option maxRecDepth 100000 in
theorem cu_Cw_isTrial (l : Launch) (D : va_G) (g : Nat → ClassId) (ad : Nat → Nat) (y : Ly) (Post : St → Int32 → Prop) (σ : St) (a0 : Nat) (v1 : Int32) (sz : Nat) (h_a0 : cl a0 = 11) (h : wu_Cw_isTrial y Post σ a0 v1) : Met l y_Cw_isTrial (mw y_Cw_isTrial b_Cw_isTrial 2 (some (.boolean))) ru_Cw_isTrial (PC g D [] [.ref (ad a0), .int v1] sz (ws g ad y σ)) (va_Qi (fun (r : Int32) (u : St) => Post u r) (QW D (va_A (ws g ad y σ) sz) (fun u => ws g ad y u)) (va_A (ws g ad y σ) sz)) 0 0 (va_A (ws g ad y σ) sz) := by
  refine ofZ (by decide +kernel) (Nat.le_of_ble_eq_true rfl) ?_
  intro p e s m args below meth c A Q ls H locs G hsz hP hD hS hl hret
  subst hsz
  have hl : lv_has ls 2 [(0, .ref (ad a0)), (1, .int v1)] := hl
  unfold wu_Cw_isTrial at h
  refine lv_iload_n G.1 G.2.1 d_Cw_isTrial_0 rfl (lv_at hl 1 rfl) ?_
  have J_17 : ∀ (s_j17 : St) (z0j17 : Int32) (H : Heap) (locs : List Loc), wj_Cw_isTrial_17 y Post a0 s_j17 z0j17 → va_P D CL (ws g ad y s_j17) H → va_D A (ws g ad y s_j17) → va_S A s.heap H locs → ∀ ls, lv_has ls 2 [] → W p l e ru_Cw_isTrial s m args below meth c H locs 0 0 Q (F0 m 17 ls [.int z0j17]) := by
    intro s_j17 z0j17 H locs h hP hD hS ls hl
    unfold wj_Cw_isTrial_17 at h
    exact hret _ _ _ _ _ _ _ ls (nb_n h.1) h.2 hP hD hS (Nat.le_refl _) (Nat.le_refl _) d_Cw_isTrial_17
  have J_16 : ∀ (s_j16 : St) (H : Heap) (locs : List Loc), wj_Cw_isTrial_16 y Post a0 s_j16 → va_P D CL (ws g ad y s_j16) H → va_D A (ws g ad y s_j16) → va_S A s.heap H locs → ∀ ls, lv_has ls 2 [] → W p l e ru_Cw_isTrial s m args below meth c H locs 0 0 Q (F0 m 16 ls []) := by
    intro s_j16 H locs h hP hD hS ls hl
    unfold wj_Cw_isTrial_16 at h
    refine lv_iconst (v := 0) G.1 G.2.1 d_Cw_isTrial_16 (by decide) ?_
    exact J_17 s_j16 0 H locs h hP hD hS ls (lv_sub hl [] rfl)
  refine lv_if_lt (tgt := 16) G.1 G.2.1 d_Cw_isTrial_1 (by decide) (fun c1 => ?_) (fun c1 => ?_)
  · skip
    have h := h.1 c1
    exact J_16 σ H locs h hP hD hS ls (lv_sub hl [] rfl)
  · skip
    have h := h.2 c1
    refine lv_iload_n G.1 G.2.1 d_Cw_isTrial_4 rfl (lv_at hl 1 rfl) ?_
    refine lv_aload_n G.1 G.2.1 d_Cw_isTrial_5 rfl (lv_at hl 0 rfl) ?_
    refine ugf (v := .int (sV σ a0 14)) G hP h_a0 iCw rfl 14 (by decide) rfl q1148 rfl rfl d_Cw_isTrial_6 ?_
    refine lv_icmp_ge (tgt := 16) G.1 G.2.1 d_Cw_isTrial_9 (by decide) (fun c9 => ?_) (fun c9 => ?_)
    · skip
      have h := h.1 c9
      exact J_16 σ H locs h hP hD hS ls (lv_sub hl [] rfl)
    · skip
      have h := h.2 c9
      refine lv_iconst (v := 1) G.1 G.2.1 d_Cw_isTrial_12 (by decide) ?_
      refine lv_goto (tgt := 17) G.1 G.2.1 d_Cw_isTrial_13 (by decide) ?_
      exact J_17 σ 1 H locs h hP hD hS ls (lv_sub hl [] rfl)
def y_Cw_tellOutcome : MethodName := ⟨"ClassWorks", "tellOutcome", "(LClassWorks$Runner;)V"⟩
abbrev b_Cw_tellOutcome : ByteArray := prog_1_method_53_code
theorem q1727 : Cond.methodLink "ClassWorks" 206 y_Ru_on ∈ lw_ok := lw_okmem (List.mem_of_getElem? (i := 1727) (by decide +kernel)) rfl
theorem q987 : Cond.fieldLink "ClassWorks" 460 "ClassWorks$Runner" "mode" "I" ∈ lw_ok := lw_okmem (List.mem_of_getElem? (i := 987) (by decide +kernel)) rfl
theorem q1150 : Cond.fieldLink "ClassWorks" 52 "ClassWorks" "outcomeKind" "I" ∈ lw_ok := lw_okmem (List.mem_of_getElem? (i := 1150) (by decide +kernel)) rfl
theorem q2489 : Cond.methodLink "ClassWorks" 463 Lib.Math.max.name ∈ lw_ok := lw_okmem (List.mem_of_getElem? (i := 2489) (by decide +kernel)) rfl
theorem q1151 : Cond.fieldLink "ClassWorks" 55 "ClassWorks" "outcomeNumber" "I" ∈ lw_ok := lw_okmem (List.mem_of_getElem? (i := 1151) (by decide +kernel)) rfl
theorem d_Cw_tellOutcome_0 : decode b_Cw_tellOutcome 0 = .ok (.aload_n 1, 1) := by decide +kernel
theorem d_Cw_tellOutcome_1 : decode b_Cw_tellOutcome 1 = .ok (.invokevirtual 206, 3) := by decide +kernel
theorem d_Cw_tellOutcome_4 : decode b_Cw_tellOutcome 4 = .ok (.ifCond .eq 16, 3) := by decide +kernel
theorem d_Cw_tellOutcome_7 : decode b_Cw_tellOutcome 7 = .ok (.aload_n 0, 1) := by decide +kernel
theorem d_Cw_tellOutcome_8 : decode b_Cw_tellOutcome 8 = .ok (.iconst 5, 1) := by decide +kernel
theorem d_Cw_tellOutcome_9 : decode b_Cw_tellOutcome 9 = .ok (.putfield 52, 3) := by decide +kernel
theorem d_Cw_tellOutcome_12 : decode b_Cw_tellOutcome 12 = .ok (.aload_n 0, 1) := by decide +kernel
theorem d_Cw_tellOutcome_13 : decode b_Cw_tellOutcome 13 = .ok (.iconst 0, 1) := by decide +kernel
theorem d_Cw_tellOutcome_14 : decode b_Cw_tellOutcome 14 = .ok (.putfield 55, 3) := by decide +kernel
theorem d_Cw_tellOutcome_17 : decode b_Cw_tellOutcome 17 = .ok (.goto 92, 3) := by decide +kernel
theorem d_Cw_tellOutcome_20 : decode b_Cw_tellOutcome 20 = .ok (.aload_n 1, 1) := by decide +kernel
theorem d_Cw_tellOutcome_21 : decode b_Cw_tellOutcome 21 = .ok (.getfield 460, 3) := by decide +kernel
theorem d_Cw_tellOutcome_24 : decode b_Cw_tellOutcome 24 = .ok (.iconst 3, 1) := by decide +kernel
theorem d_Cw_tellOutcome_25 : decode b_Cw_tellOutcome 25 = .ok (.if_icmp .ne 41, 3) := by decide +kernel
theorem d_Cw_tellOutcome_28 : decode b_Cw_tellOutcome 28 = .ok (.aload_n 0, 1) := by decide +kernel
theorem d_Cw_tellOutcome_29 : decode b_Cw_tellOutcome 29 = .ok (.iconst 4, 1) := by decide +kernel
theorem d_Cw_tellOutcome_30 : decode b_Cw_tellOutcome 30 = .ok (.putfield 52, 3) := by decide +kernel
theorem d_Cw_tellOutcome_33 : decode b_Cw_tellOutcome 33 = .ok (.aload_n 0, 1) := by decide +kernel
theorem d_Cw_tellOutcome_34 : decode b_Cw_tellOutcome 34 = .ok (.bipush 100, 2) := by decide +kernel
theorem d_Cw_tellOutcome_36 : decode b_Cw_tellOutcome 36 = .ok (.aload_n 1, 1) := by decide +kernel
theorem d_Cw_tellOutcome_37 : decode b_Cw_tellOutcome 37 = .ok (.getfield 289, 3) := by decide +kernel
theorem d_Cw_tellOutcome_40 : decode b_Cw_tellOutcome 40 = .ok (.imul, 1) := by decide +kernel
theorem d_Cw_tellOutcome_41 : decode b_Cw_tellOutcome 41 = .ok (.aload_n 1, 1) := by decide +kernel
theorem d_Cw_tellOutcome_42 : decode b_Cw_tellOutcome 42 = .ok (.getfield 286, 3) := by decide +kernel
theorem d_Cw_tellOutcome_45 : decode b_Cw_tellOutcome 45 = .ok (.bipush 21, 2) := by decide +kernel
theorem d_Cw_tellOutcome_47 : decode b_Cw_tellOutcome 47 = .ok (.if_icmp .ge 10, 3) := by decide +kernel
theorem d_Cw_tellOutcome_50 : decode b_Cw_tellOutcome 50 = .ok (.aload_n 1, 1) := by decide +kernel
theorem d_Cw_tellOutcome_51 : decode b_Cw_tellOutcome 51 = .ok (.getfield 286, 3) := by decide +kernel
theorem d_Cw_tellOutcome_54 : decode b_Cw_tellOutcome 54 = .ok (.goto 5, 3) := by decide +kernel
theorem d_Cw_tellOutcome_57 : decode b_Cw_tellOutcome 57 = .ok (.bipush 99, 2) := by decide +kernel
theorem d_Cw_tellOutcome_59 : decode b_Cw_tellOutcome 59 = .ok (.iadd, 1) := by decide +kernel
theorem d_Cw_tellOutcome_60 : decode b_Cw_tellOutcome 60 = .ok (.putfield 55, 3) := by decide +kernel
theorem d_Cw_tellOutcome_63 : decode b_Cw_tellOutcome 63 = .ok (.goto 46, 3) := by decide +kernel
theorem d_Cw_tellOutcome_66 : decode b_Cw_tellOutcome 66 = .ok (.aload_n 1, 1) := by decide +kernel
theorem d_Cw_tellOutcome_67 : decode b_Cw_tellOutcome 67 = .ok (.getfield 280, 3) := by decide +kernel
theorem d_Cw_tellOutcome_70 : decode b_Cw_tellOutcome 70 = .ok (.iconst 1, 1) := by decide +kernel
theorem d_Cw_tellOutcome_71 : decode b_Cw_tellOutcome 71 = .ok (.if_icmp .ne 19, 3) := by decide +kernel
theorem d_Cw_tellOutcome_74 : decode b_Cw_tellOutcome 74 = .ok (.aload_n 0, 1) := by decide +kernel
theorem d_Cw_tellOutcome_75 : decode b_Cw_tellOutcome 75 = .ok (.iconst 2, 1) := by decide +kernel
theorem d_Cw_tellOutcome_76 : decode b_Cw_tellOutcome 76 = .ok (.putfield 52, 3) := by decide +kernel
theorem d_Cw_tellOutcome_79 : decode b_Cw_tellOutcome 79 = .ok (.aload_n 0, 1) := by decide +kernel
theorem d_Cw_tellOutcome_80 : decode b_Cw_tellOutcome 80 = .ok (.aload_n 1, 1) := by decide +kernel
theorem d_Cw_tellOutcome_81 : decode b_Cw_tellOutcome 81 = .ok (.getfield 283, 3) := by decide +kernel
theorem d_Cw_tellOutcome_84 : decode b_Cw_tellOutcome 84 = .ok (.putfield 55, 3) := by decide +kernel
theorem d_Cw_tellOutcome_87 : decode b_Cw_tellOutcome 87 = .ok (.goto 22, 3) := by decide +kernel
theorem d_Cw_tellOutcome_90 : decode b_Cw_tellOutcome 90 = .ok (.aload_n 0, 1) := by decide +kernel
theorem d_Cw_tellOutcome_91 : decode b_Cw_tellOutcome 91 = .ok (.iconst 3, 1) := by decide +kernel
theorem d_Cw_tellOutcome_92 : decode b_Cw_tellOutcome 92 = .ok (.putfield 52, 3) := by decide +kernel
theorem d_Cw_tellOutcome_95 : decode b_Cw_tellOutcome 95 = .ok (.aload_n 0, 1) := by decide +kernel
theorem d_Cw_tellOutcome_96 : decode b_Cw_tellOutcome 96 = .ok (.aload_n 1, 1) := by decide +kernel
theorem d_Cw_tellOutcome_97 : decode b_Cw_tellOutcome 97 = .ok (.getfield 280, 3) := by decide +kernel
theorem d_Cw_tellOutcome_100 : decode b_Cw_tellOutcome 100 = .ok (.iconst 2, 1) := by decide +kernel
theorem d_Cw_tellOutcome_101 : decode b_Cw_tellOutcome 101 = .ok (.isub, 1) := by decide +kernel
theorem d_Cw_tellOutcome_102 : decode b_Cw_tellOutcome 102 = .ok (.iconst 0, 1) := by decide +kernel
theorem d_Cw_tellOutcome_103 : decode b_Cw_tellOutcome 103 = .ok (.invokestatic 463, 3) := by decide +kernel
theorem d_Cw_tellOutcome_106 : decode b_Cw_tellOutcome 106 = .ok (.putfield 55, 3) := by decide +kernel
theorem d_Cw_tellOutcome_109 : decode b_Cw_tellOutcome 109 = .ok (.return_, 1) := by decide +kernel
abbrev ru_Cw_tellOutcome : Room := { frames := 1, cells := 0, slots := 0, locals := 30 }
def wj_Cw_tellOutcome_109 (y : Ly) (Post : St → Prop) (a0 : Nat) (a1 : Nat) (s_j109 : St) : Prop := Post s_j109
def wj_Cw_tellOutcome_59 (y : Ly) (Post : St → Prop) (a0 : Nat) (a1 : Nat) (s_j59 : St) (z1j59 : Int32) (z2j59 : Int32) : Prop := xP (uV s_j59 a0 17 (z1j59 + z2j59)) (fun s_8 : St => wj_Cw_tellOutcome_109 y Post a0 a1 s_8)
def wu_Cw_tellOutcome (y : Ly) (Post : St → Prop) (σ : St) (a0 : Nat) (a1 : Nat) : Prop := wu_Ru_on y (fun (s_2 : St) (r_1 : Int32) => ((r_1 = 0 → ((¬ (sV s_2 a1 3) = 3 → ((¬ (sV s_2 a1 6) = 1 → xP (uV s_2 a0 16 3) (fun s_3 : St => xP (uV s_3 a0 17 (if ((sV s_3 a1 6) - 2) < 0 then 0 else ((sV s_3 a1 6) - 2))) (fun s_4 : St => wj_Cw_tellOutcome_109 y Post a0 a1 s_4))) ∧ ((sV s_2 a1 6) = 1 → xP (uV s_2 a0 16 2) (fun s_5 : St => xP (uV s_5 a0 17 (sV s_5 a1 7)) (fun s_6 : St => wj_Cw_tellOutcome_109 y Post a0 a1 s_6))))) ∧ ((sV s_2 a1 3) = 3 → xP (uV s_2 a0 16 4) (fun s_7 : St => ((21 ≤ (sV s_7 a1 8) → wj_Cw_tellOutcome_59 y Post a0 a1 s_7 (100 * (sV s_7 a1 9)) 99) ∧ (¬ (21 ≤ (sV s_7 a1 8)) → wj_Cw_tellOutcome_59 y Post a0 a1 s_7 (100 * (sV s_7 a1 9)) (sV s_7 a1 8))))))) ∧ (¬ (r_1 = 0) → xP (uV s_2 a0 16 5) (fun s_9 : St => xP (uV s_9 a0 17 0) (fun s_10 : St => wj_Cw_tellOutcome_109 y Post a0 a1 s_10))))) σ a1
set_option maxHeartbeats 4000000 in
set_option maxRecDepth 100000 in
theorem cu_Cw_tellOutcome (l : Launch) (D : va_G) (g : Nat → ClassId) (ad : Nat → Nat) (y : Ly) (Post : St → Prop) (σ : St) (a0 : Nat) (a1 : Nat) (sz : Nat) (h_a0 : cl a0 = 11) (h_a1 : cl a1 = 7) (h : wu_Cw_tellOutcome y Post σ a0 a1) : Met l y_Cw_tellOutcome (mw y_Cw_tellOutcome b_Cw_tellOutcome 2 (none)) ru_Cw_tellOutcome (PC g D [] [.ref (ad a0), .ref (ad a1)] sz (ws g ad y σ)) (va_Qv (fun u : St => Post u) (QW D (va_A (ws g ad y σ) sz) (fun u => ws g ad y u)) (va_A (ws g ad y σ) sz)) 0 0 (va_A (ws g ad y σ) sz) := by
  refine ofV (by decide +kernel) (Nat.le_of_ble_eq_true rfl) ?_
  intro p e s m args below meth c A Q ls H locs G hsz hP hD hS hl hret
  subst hsz
  have hl : lv_has ls 2 [(0, .ref (ad a0)), (1, .ref (ad a1))] := hl
  unfold wu_Cw_tellOutcome at h
  refine lv_aload_n G.1 G.2.1 d_Cw_tellOutcome_0 rfl (lv_at hl 1 rfl) ?_
  refine ucVi (As := []) (rest := []) G hP hD hS (cu_Ru_on l D g ad y _ σ a1 H.size h_a1 h) w9_Ru_on q1727 ⟨Nat.le_of_ble_eq_true rfl, Nat.le_of_ble_eq_true rfl⟩ rfl rfl h_a1 (q := (RRu, TRu, 19)) rfl rfl hl.1 rfl (Nat.le_of_ble_eq_true rfl) rfl ⟨Nat.le_refl _, Nat.le_refl _⟩ d_Cw_tellOutcome_1 (fun r_1 s_2 H locs h hP hD hS => ?_)
  have J_109 : ∀ (s_j109 : St) (H : Heap) (locs : List Loc), wj_Cw_tellOutcome_109 y Post a0 a1 s_j109 → va_P D CL (ws g ad y s_j109) H → va_D A (ws g ad y s_j109) → va_S A s.heap H locs → ∀ ls, lv_has ls 2 [] → W p l e ru_Cw_tellOutcome s m args below meth c H locs 0 0 Q (F0 m 109 ls []) := by
    intro s_j109 H locs h hP hD hS ls hl
    unfold wj_Cw_tellOutcome_109 at h
    exact hret _ _ _ _ _ _ ls h hP hD hS (Nat.le_refl _) (Nat.le_refl _) d_Cw_tellOutcome_109
  refine lv_if_eq (tgt := 20) G.1 G.2.1 d_Cw_tellOutcome_4 (by decide) (fun c4 => ?_) (fun c4 => ?_)
  · skip
    have h := h.1 c4
    refine lv_aload_n G.1 G.2.1 d_Cw_tellOutcome_20 rfl (lv_at hl 1 rfl) ?_
    refine ugf (v := .int (sV s_2 a1 3)) G hP h_a1 iRu rfl 3 (by decide) rfl q987 rfl rfl d_Cw_tellOutcome_21 ?_
    refine lv_iconst (v := 3) G.1 G.2.1 d_Cw_tellOutcome_24 (by decide) ?_
    refine lv_icmp_ne (tgt := 66) G.1 G.2.1 d_Cw_tellOutcome_25 (by decide) (fun c25 => ?_) (fun c25 => ?_)
    · skip
      have h := h.1 c25
      refine lv_aload_n G.1 G.2.1 d_Cw_tellOutcome_66 rfl (lv_at hl 1 rfl) ?_
      refine ugf (v := .int (sV s_2 a1 6)) G hP h_a1 iRu rfl 6 (by decide) rfl q994 rfl rfl d_Cw_tellOutcome_67 ?_
      refine lv_iconst (v := 1) G.1 G.2.1 d_Cw_tellOutcome_70 (by decide) ?_
      refine lv_icmp_ne (tgt := 90) G.1 G.2.1 d_Cw_tellOutcome_71 (by decide) (fun c71 => ?_) (fun c71 => ?_)
      · skip
        have h := h.1 c71
        refine W.eq (g2 := F0 m 90 ls []) rfl ?_
        refine lv_aload_n G.1 G.2.1 d_Cw_tellOutcome_90 rfl (lv_at hl 0 rfl) ?_
        refine lv_iconst (v := 3) G.1 G.2.1 d_Cw_tellOutcome_91 (by decide) ?_
        refine upf G hP hD hS h 16 putV h_a0 iCw tCw tCw_ok nCw rfl (by decide) rfl q1150 rfl rfl fV rfl rfl d_Cw_tellOutcome_92 (fun s_3 H locs h hP hD hS => ?_)
        refine lv_aload_n G.1 G.2.1 d_Cw_tellOutcome_95 rfl (lv_at hl 0 rfl) ?_
        refine lv_aload_n G.1 G.2.1 d_Cw_tellOutcome_96 rfl (lv_at hl 1 rfl) ?_
        refine ugf (v := .int (sV s_3 a1 6)) G hP h_a1 iRu rfl 6 (by decide) rfl q994 rfl rfl d_Cw_tellOutcome_97 ?_
        refine lv_iconst (v := 2) G.1 G.2.1 d_Cw_tellOutcome_100 (by decide) ?_
        refine lv_isub G.1 G.2.1 d_Cw_tellOutcome_101 ?_
        refine lv_iconst (v := 0) G.1 G.2.1 d_Cw_tellOutcome_102 (by decide) ?_
        refine va_mmax G.1 G.2.1 (G.2.2.1.trans hl.1.symm) G.2.2.2.2.2.2.1 (G.2.2.2.2.2.1 _ q2489) (G.2.2.2.2.2.1 _ q1804) (G.2.2.2.2.2.1 _ q337) (G.2.2.2.2.2.1 _ q1805) (Nat.le_of_ble_eq_true rfl) (Nat.le_of_ble_eq_true rfl) (Nat.zero_le _) (Nat.zero_le _) d_Cw_tellOutcome_103 ?_
        refine upf G hP hD hS h 17 putV h_a0 iCw tCw tCw_ok nCw rfl (by decide) rfl q1151 rfl rfl fV rfl rfl d_Cw_tellOutcome_106 (fun s_4 H locs h hP hD hS => ?_)
        exact J_109 s_4 H locs h hP hD hS ls (lv_sub hl [] rfl)
      · skip
        have h := h.2 c71
        refine W.eq (g2 := F0 m 74 ls []) rfl ?_
        refine lv_aload_n G.1 G.2.1 d_Cw_tellOutcome_74 rfl (lv_at hl 0 rfl) ?_
        refine lv_iconst (v := 2) G.1 G.2.1 d_Cw_tellOutcome_75 (by decide) ?_
        refine upf G hP hD hS h 16 putV h_a0 iCw tCw tCw_ok nCw rfl (by decide) rfl q1150 rfl rfl fV rfl rfl d_Cw_tellOutcome_76 (fun s_5 H locs h hP hD hS => ?_)
        refine lv_aload_n G.1 G.2.1 d_Cw_tellOutcome_79 rfl (lv_at hl 0 rfl) ?_
        refine lv_aload_n G.1 G.2.1 d_Cw_tellOutcome_80 rfl (lv_at hl 1 rfl) ?_
        refine ugf (v := .int (sV s_5 a1 7)) G hP h_a1 iRu rfl 7 (by decide) rfl q997 rfl rfl d_Cw_tellOutcome_81 ?_
        refine upf G hP hD hS h 17 putV h_a0 iCw tCw tCw_ok nCw rfl (by decide) rfl q1151 rfl rfl fV rfl rfl d_Cw_tellOutcome_84 (fun s_6 H locs h hP hD hS => ?_)
        refine lv_goto (tgt := 109) G.1 G.2.1 d_Cw_tellOutcome_87 (by decide) ?_
        exact J_109 s_6 H locs h hP hD hS ls (lv_sub hl [] rfl)
    · skip
      have h := h.2 c25
      refine lv_aload_n G.1 G.2.1 d_Cw_tellOutcome_28 rfl (lv_at hl 0 rfl) ?_
      refine lv_iconst (v := 4) G.1 G.2.1 d_Cw_tellOutcome_29 (by decide) ?_
      refine upf G hP hD hS h 16 putV h_a0 iCw tCw tCw_ok nCw rfl (by decide) rfl q1150 rfl rfl fV rfl rfl d_Cw_tellOutcome_30 (fun s_7 H locs h hP hD hS => ?_)
      refine lv_aload_n G.1 G.2.1 d_Cw_tellOutcome_33 rfl (lv_at hl 0 rfl) ?_
      refine W.eq (g2 := F0 m 34 ls [.ref (ad a0)]) rfl ?_
      refine lv_bipush (v := 100) G.1 G.2.1 d_Cw_tellOutcome_34 (by decide) ?_
      refine lv_aload_n G.1 G.2.1 d_Cw_tellOutcome_36 rfl (lv_at hl 1 rfl) ?_
      refine ugf (v := .int (sV s_7 a1 9)) G hP h_a1 iRu rfl 9 (by decide) rfl q1004 rfl rfl d_Cw_tellOutcome_37 ?_
      refine lv_imul G.1 G.2.1 d_Cw_tellOutcome_40 ?_
      refine lv_aload_n G.1 G.2.1 d_Cw_tellOutcome_41 rfl (lv_at hl 1 rfl) ?_
      refine ugf (v := .int (sV s_7 a1 8)) G hP h_a1 iRu rfl 8 (by decide) rfl q1001 rfl rfl d_Cw_tellOutcome_42 ?_
      refine lv_bipush (v := 21) G.1 G.2.1 d_Cw_tellOutcome_45 (by decide) ?_
      have J_59 : ∀ (s_j59 : St) (z1j59 : Int32) (z2j59 : Int32) (H : Heap) (locs : List Loc), wj_Cw_tellOutcome_59 y Post a0 a1 s_j59 z1j59 z2j59 → va_P D CL (ws g ad y s_j59) H → va_D A (ws g ad y s_j59) → va_S A s.heap H locs → ∀ ls, lv_has ls 2 [] → W p l e ru_Cw_tellOutcome s m args below meth c H locs 0 0 Q (F0 m 59 ls [.int z2j59, .int z1j59, .ref (ad a0)]) := by
        intro s_j59 z1j59 z2j59 H locs h hP hD hS ls hl
        unfold wj_Cw_tellOutcome_59 at h
        refine lv_iadd G.1 G.2.1 d_Cw_tellOutcome_59 ?_
        refine upf G hP hD hS h 17 putV h_a0 iCw tCw tCw_ok nCw rfl (by decide) rfl q1151 rfl rfl fV rfl rfl d_Cw_tellOutcome_60 (fun s_8 H locs h hP hD hS => ?_)
        refine lv_goto (tgt := 109) G.1 G.2.1 d_Cw_tellOutcome_63 (by decide) ?_
        exact J_109 s_8 H locs h hP hD hS ls (lv_sub hl [] rfl)
      refine lv_icmp_ge (tgt := 57) G.1 G.2.1 d_Cw_tellOutcome_47 (by decide) (fun c47 => ?_) (fun c47 => ?_)
      · skip
        have h := h.1 c47
        refine lv_bipush (v := 99) G.1 G.2.1 d_Cw_tellOutcome_57 (by decide) ?_
        exact J_59 s_7 (100 * (sV s_7 a1 9)) 99 H locs h hP hD hS ls (lv_sub hl [] rfl)
      · skip
        have h := h.2 c47
        refine lv_aload_n G.1 G.2.1 d_Cw_tellOutcome_50 rfl (lv_at hl 1 rfl) ?_
        refine ugf (v := .int (sV s_7 a1 8)) G hP h_a1 iRu rfl 8 (by decide) rfl q1001 rfl rfl d_Cw_tellOutcome_51 ?_
        refine lv_goto (tgt := 59) G.1 G.2.1 d_Cw_tellOutcome_54 (by decide) ?_
        exact J_59 s_7 (100 * (sV s_7 a1 9)) (sV s_7 a1 8) H locs h hP hD hS ls (lv_sub hl [] rfl)
  · skip
    have h := h.2 c4
    refine lv_aload_n G.1 G.2.1 d_Cw_tellOutcome_7 rfl (lv_at hl 0 rfl) ?_
    refine lv_iconst (v := 5) G.1 G.2.1 d_Cw_tellOutcome_8 (by decide) ?_
    refine upf G hP hD hS h 16 putV h_a0 iCw tCw tCw_ok nCw rfl (by decide) rfl q1150 rfl rfl fV rfl rfl d_Cw_tellOutcome_9 (fun s_9 H locs h hP hD hS => ?_)
    refine lv_aload_n G.1 G.2.1 d_Cw_tellOutcome_12 rfl (lv_at hl 0 rfl) ?_
    refine lv_iconst (v := 0) G.1 G.2.1 d_Cw_tellOutcome_13 (by decide) ?_
    refine upf G hP hD hS h 17 putV h_a0 iCw tCw tCw_ok nCw rfl (by decide) rfl q1151 rfl rfl fV rfl rfl d_Cw_tellOutcome_14 (fun s_10 H locs h hP hD hS => ?_)
    refine lv_goto (tgt := 109) G.1 G.2.1 d_Cw_tellOutcome_17 (by decide) ?_
    exact J_109 s_10 H locs h hP hD hS ls (lv_sub hl [] rfl)
def y_Cw_isRule : MethodName := ⟨"ClassWorks", "isRule", "(I)Z"⟩
abbrev b_Cw_isRule : ByteArray := prog_1_method_59_code
theorem d_Cw_isRule_0 : decode b_Cw_isRule 0 = .ok (.iload_n 0, 1) := by decide +kernel
theorem d_Cw_isRule_1 : decode b_Cw_isRule 1 = .ok (.iconst 1, 1) := by decide +kernel
theorem d_Cw_isRule_2 : decode b_Cw_isRule 2 = .ok (.if_icmp .lt 9, 3) := by decide +kernel
theorem d_Cw_isRule_5 : decode b_Cw_isRule 5 = .ok (.iload_n 0, 1) := by decide +kernel
theorem d_Cw_isRule_6 : decode b_Cw_isRule 6 = .ok (.bipush 14, 2) := by decide +kernel
theorem d_Cw_isRule_8 : decode b_Cw_isRule 8 = .ok (.if_icmp .le 39, 3) := by decide +kernel
theorem d_Cw_isRule_11 : decode b_Cw_isRule 11 = .ok (.iload_n 0, 1) := by decide +kernel
theorem d_Cw_isRule_12 : decode b_Cw_isRule 12 = .ok (.bipush 20, 2) := by decide +kernel
theorem d_Cw_isRule_14 : decode b_Cw_isRule 14 = .ok (.if_icmp .lt 9, 3) := by decide +kernel
theorem d_Cw_isRule_17 : decode b_Cw_isRule 17 = .ok (.iload_n 0, 1) := by decide +kernel
theorem d_Cw_isRule_18 : decode b_Cw_isRule 18 = .ok (.bipush 25, 2) := by decide +kernel
theorem d_Cw_isRule_20 : decode b_Cw_isRule 20 = .ok (.if_icmp .le 27, 3) := by decide +kernel
theorem d_Cw_isRule_23 : decode b_Cw_isRule 23 = .ok (.iload_n 0, 1) := by decide +kernel
theorem d_Cw_isRule_24 : decode b_Cw_isRule 24 = .ok (.bipush 30, 2) := by decide +kernel
theorem d_Cw_isRule_26 : decode b_Cw_isRule 26 = .ok (.if_icmp .lt 9, 3) := by decide +kernel
theorem d_Cw_isRule_29 : decode b_Cw_isRule 29 = .ok (.iload_n 0, 1) := by decide +kernel
theorem d_Cw_isRule_30 : decode b_Cw_isRule 30 = .ok (.bipush 43, 2) := by decide +kernel
theorem d_Cw_isRule_32 : decode b_Cw_isRule 32 = .ok (.if_icmp .le 15, 3) := by decide +kernel
theorem d_Cw_isRule_35 : decode b_Cw_isRule 35 = .ok (.iload_n 0, 1) := by decide +kernel
theorem d_Cw_isRule_36 : decode b_Cw_isRule 36 = .ok (.bipush 50, 2) := by decide +kernel
theorem d_Cw_isRule_38 : decode b_Cw_isRule 38 = .ok (.if_icmp .lt 13, 3) := by decide +kernel
theorem d_Cw_isRule_41 : decode b_Cw_isRule 41 = .ok (.iload_n 0, 1) := by decide +kernel
theorem d_Cw_isRule_42 : decode b_Cw_isRule 42 = .ok (.bipush 59, 2) := by decide +kernel
theorem d_Cw_isRule_44 : decode b_Cw_isRule 44 = .ok (.if_icmp .gt 7, 3) := by decide +kernel
theorem d_Cw_isRule_47 : decode b_Cw_isRule 47 = .ok (.iconst 1, 1) := by decide +kernel
theorem d_Cw_isRule_48 : decode b_Cw_isRule 48 = .ok (.goto 4, 3) := by decide +kernel
theorem d_Cw_isRule_51 : decode b_Cw_isRule 51 = .ok (.iconst 0, 1) := by decide +kernel
theorem d_Cw_isRule_52 : decode b_Cw_isRule 52 = .ok (.ireturn, 1) := by decide +kernel
abbrev ru_Cw_isRule : Room := { frames := 0, cells := 0, slots := 0, locals := 0 }
def wj_Cw_isRule_52 (y : Ly) (Post : St → Int32 → Prop) (s_j52 : St) (z0j52 : Int32) : Prop := (nb z0j52 ∧ Post s_j52 z0j52)
def wj_Cw_isRule_47 (y : Ly) (Post : St → Int32 → Prop) (s_j47 : St) : Prop := wj_Cw_isRule_52 y Post s_j47 1
def wj_Cw_isRule_51 (y : Ly) (Post : St → Int32 → Prop) (s_j51 : St) : Prop := wj_Cw_isRule_52 y Post s_j51 0
def wj_Cw_isRule_35 (y : Ly) (Post : St → Int32 → Prop) (s_j35 : St) (x0j35 : Int32) : Prop := ((x0j35 < 50 → wj_Cw_isRule_51 y Post s_j35) ∧ (¬ (x0j35 < 50) → ((59 < x0j35 → wj_Cw_isRule_51 y Post s_j35) ∧ (¬ (59 < x0j35) → wj_Cw_isRule_47 y Post s_j35))))
def wj_Cw_isRule_23 (y : Ly) (Post : St → Int32 → Prop) (s_j23 : St) (x0j23 : Int32) : Prop := ((x0j23 < 30 → wj_Cw_isRule_35 y Post s_j23 x0j23) ∧ (¬ (x0j23 < 30) → ((x0j23 ≤ 43 → wj_Cw_isRule_47 y Post s_j23) ∧ (¬ (x0j23 ≤ 43) → wj_Cw_isRule_35 y Post s_j23 x0j23))))
def wj_Cw_isRule_11 (y : Ly) (Post : St → Int32 → Prop) (s_j11 : St) (x0j11 : Int32) : Prop := ((x0j11 < 20 → wj_Cw_isRule_23 y Post s_j11 x0j11) ∧ (¬ (x0j11 < 20) → ((x0j11 ≤ 25 → wj_Cw_isRule_47 y Post s_j11) ∧ (¬ (x0j11 ≤ 25) → wj_Cw_isRule_23 y Post s_j11 x0j11))))
def wu_Cw_isRule (y : Ly) (Post : St → Int32 → Prop) (σ : St) (v0 : Int32) : Prop := ((v0 < 1 → wj_Cw_isRule_11 y Post σ v0) ∧ (¬ (v0 < 1) → ((v0 ≤ 14 → wj_Cw_isRule_47 y Post σ) ∧ (¬ (v0 ≤ 14) → wj_Cw_isRule_11 y Post σ v0))))
set_option maxHeartbeats 4000000 in
set_option maxRecDepth 100000 in
theorem cu_Cw_isRule (l : Launch) (D : va_G) (g : Nat → ClassId) (ad : Nat → Nat) (y : Ly) (Post : St → Int32 → Prop) (σ : St) (v0 : Int32) (sz : Nat) (h : wu_Cw_isRule y Post σ v0) : Met l y_Cw_isRule (mw y_Cw_isRule b_Cw_isRule 1 (some (.boolean))) ru_Cw_isRule (PC g D [] [.int v0] sz (ws g ad y σ)) (va_Qi (fun (r : Int32) (u : St) => Post u r) (QW D (va_A (ws g ad y σ) sz) (fun u => ws g ad y u)) (va_A (ws g ad y σ) sz)) 0 0 (va_A (ws g ad y σ) sz) := by
  refine ofZ (by decide +kernel) (Nat.le_of_ble_eq_true rfl) ?_
  intro p e s m args below meth c A Q ls H locs G hsz hP hD hS hl hret
  subst hsz
  have hl : lv_has ls 1 [(0, .int v0)] := hl
  unfold wu_Cw_isRule at h
  refine lv_iload_n G.1 G.2.1 d_Cw_isRule_0 rfl (lv_at hl 0 rfl) ?_
  refine lv_iconst (v := 1) G.1 G.2.1 d_Cw_isRule_1 (by decide) ?_
  have J_52 : ∀ (s_j52 : St) (z0j52 : Int32) (H : Heap) (locs : List Loc), wj_Cw_isRule_52 y Post s_j52 z0j52 → va_P D CL (ws g ad y s_j52) H → va_D A (ws g ad y s_j52) → va_S A s.heap H locs → ∀ ls, lv_has ls 1 [] → W p l e ru_Cw_isRule s m args below meth c H locs 0 0 Q (F0 m 52 ls [.int z0j52]) := by
    intro s_j52 z0j52 H locs h hP hD hS ls hl
    unfold wj_Cw_isRule_52 at h
    exact hret _ _ _ _ _ _ _ ls (nb_n h.1) h.2 hP hD hS (Nat.le_refl _) (Nat.le_refl _) d_Cw_isRule_52
  have J_47 : ∀ (s_j47 : St) (H : Heap) (locs : List Loc), wj_Cw_isRule_47 y Post s_j47 → va_P D CL (ws g ad y s_j47) H → va_D A (ws g ad y s_j47) → va_S A s.heap H locs → ∀ ls, lv_has ls 1 [] → W p l e ru_Cw_isRule s m args below meth c H locs 0 0 Q (F0 m 47 ls []) := by
    intro s_j47 H locs h hP hD hS ls hl
    unfold wj_Cw_isRule_47 at h
    refine lv_iconst (v := 1) G.1 G.2.1 d_Cw_isRule_47 (by decide) ?_
    refine lv_goto (tgt := 52) G.1 G.2.1 d_Cw_isRule_48 (by decide) ?_
    exact J_52 s_j47 1 H locs h hP hD hS ls (lv_sub hl [] rfl)
  have J_11 : ∀ (s_j11 : St) (x0j11 : Int32) (H : Heap) (locs : List Loc), wj_Cw_isRule_11 y Post s_j11 x0j11 → va_P D CL (ws g ad y s_j11) H → va_D A (ws g ad y s_j11) → va_S A s.heap H locs → ∀ ls, lv_has ls 1 [(0, .int x0j11)] → W p l e ru_Cw_isRule s m args below meth c H locs 0 0 Q (F0 m 11 ls []) := by
    intro s_j11 x0j11 H locs h hP hD hS ls hl
    unfold wj_Cw_isRule_11 at h
    refine lv_iload_n G.1 G.2.1 d_Cw_isRule_11 rfl (lv_at hl 0 rfl) ?_
    refine lv_bipush (v := 20) G.1 G.2.1 d_Cw_isRule_12 (by decide) ?_
    have J_23 : ∀ (s_j23 : St) (x0j23 : Int32) (H : Heap) (locs : List Loc), wj_Cw_isRule_23 y Post s_j23 x0j23 → va_P D CL (ws g ad y s_j23) H → va_D A (ws g ad y s_j23) → va_S A s.heap H locs → ∀ ls, lv_has ls 1 [(0, .int x0j23)] → W p l e ru_Cw_isRule s m args below meth c H locs 0 0 Q (F0 m 23 ls []) := by
      intro s_j23 x0j23 H locs h hP hD hS ls hl
      unfold wj_Cw_isRule_23 at h
      refine lv_iload_n G.1 G.2.1 d_Cw_isRule_23 rfl (lv_at hl 0 rfl) ?_
      refine lv_bipush (v := 30) G.1 G.2.1 d_Cw_isRule_24 (by decide) ?_
      have J_35 : ∀ (s_j35 : St) (x0j35 : Int32) (H : Heap) (locs : List Loc), wj_Cw_isRule_35 y Post s_j35 x0j35 → va_P D CL (ws g ad y s_j35) H → va_D A (ws g ad y s_j35) → va_S A s.heap H locs → ∀ ls, lv_has ls 1 [(0, .int x0j35)] → W p l e ru_Cw_isRule s m args below meth c H locs 0 0 Q (F0 m 35 ls []) := by
        intro s_j35 x0j35 H locs h hP hD hS ls hl
        unfold wj_Cw_isRule_35 at h
        refine lv_iload_n G.1 G.2.1 d_Cw_isRule_35 rfl (lv_at hl 0 rfl) ?_
        refine lv_bipush (v := 50) G.1 G.2.1 d_Cw_isRule_36 (by decide) ?_
        have J_51 : ∀ (s_j51 : St) (H : Heap) (locs : List Loc), wj_Cw_isRule_51 y Post s_j51 → va_P D CL (ws g ad y s_j51) H → va_D A (ws g ad y s_j51) → va_S A s.heap H locs → ∀ ls, lv_has ls 1 [] → W p l e ru_Cw_isRule s m args below meth c H locs 0 0 Q (F0 m 51 ls []) := by
          intro s_j51 H locs h hP hD hS ls hl
          unfold wj_Cw_isRule_51 at h
          refine lv_iconst (v := 0) G.1 G.2.1 d_Cw_isRule_51 (by decide) ?_
          exact J_52 s_j51 0 H locs h hP hD hS ls (lv_sub hl [] rfl)
        refine lv_icmp_lt (tgt := 51) G.1 G.2.1 d_Cw_isRule_38 (by decide) (fun c38 => ?_) (fun c38 => ?_)
        · skip
          have h := h.1 c38
          exact J_51 s_j35 H locs h hP hD hS ls (lv_sub hl [] rfl)
        · skip
          have h := h.2 c38
          refine lv_iload_n G.1 G.2.1 d_Cw_isRule_41 rfl (lv_at hl 0 rfl) ?_
          refine lv_bipush (v := 59) G.1 G.2.1 d_Cw_isRule_42 (by decide) ?_
          refine lv_icmp_gt (tgt := 51) G.1 G.2.1 d_Cw_isRule_44 (by decide) (fun c44 => ?_) (fun c44 => ?_)
          · skip
            have h := h.1 c44
            exact J_51 s_j35 H locs h hP hD hS ls (lv_sub hl [] rfl)
          · skip
            have h := h.2 c44
            exact J_47 s_j35 H locs h hP hD hS ls (lv_sub hl [] rfl)
      refine lv_icmp_lt (tgt := 35) G.1 G.2.1 d_Cw_isRule_26 (by decide) (fun c26 => ?_) (fun c26 => ?_)
      · skip
        have h := h.1 c26
        exact J_35 s_j23 x0j23 H locs h hP hD hS ls (lv_sub hl [0] rfl)
      · skip
        have h := h.2 c26
        refine lv_iload_n G.1 G.2.1 d_Cw_isRule_29 rfl (lv_at hl 0 rfl) ?_
        refine lv_bipush (v := 43) G.1 G.2.1 d_Cw_isRule_30 (by decide) ?_
        refine lv_icmp_le (tgt := 47) G.1 G.2.1 d_Cw_isRule_32 (by decide) (fun c32 => ?_) (fun c32 => ?_)
        · skip
          have h := h.1 c32
          exact J_47 s_j23 H locs h hP hD hS ls (lv_sub hl [] rfl)
        · skip
          have h := h.2 c32
          exact J_35 s_j23 x0j23 H locs h hP hD hS ls (lv_sub hl [0] rfl)
    refine lv_icmp_lt (tgt := 23) G.1 G.2.1 d_Cw_isRule_14 (by decide) (fun c14 => ?_) (fun c14 => ?_)
    · skip
      have h := h.1 c14
      exact J_23 s_j11 x0j11 H locs h hP hD hS ls (lv_sub hl [0] rfl)
    · skip
      have h := h.2 c14
      refine lv_iload_n G.1 G.2.1 d_Cw_isRule_17 rfl (lv_at hl 0 rfl) ?_
      refine lv_bipush (v := 25) G.1 G.2.1 d_Cw_isRule_18 (by decide) ?_
      refine lv_icmp_le (tgt := 47) G.1 G.2.1 d_Cw_isRule_20 (by decide) (fun c20 => ?_) (fun c20 => ?_)
      · skip
        have h := h.1 c20
        exact J_47 s_j11 H locs h hP hD hS ls (lv_sub hl [] rfl)
      · skip
        have h := h.2 c20
        exact J_23 s_j11 x0j11 H locs h hP hD hS ls (lv_sub hl [0] rfl)
  refine lv_icmp_lt (tgt := 11) G.1 G.2.1 d_Cw_isRule_2 (by decide) (fun c2 => ?_) (fun c2 => ?_)
  · skip
    have h := h.1 c2
    exact J_11 σ v0 H locs h hP hD hS ls (lv_sub hl [0] rfl)
  · skip
    have h := h.2 c2
    refine lv_iload_n G.1 G.2.1 d_Cw_isRule_5 rfl (lv_at hl 0 rfl) ?_
    refine lv_bipush (v := 14) G.1 G.2.1 d_Cw_isRule_6 (by decide) ?_
    refine lv_icmp_le (tgt := 47) G.1 G.2.1 d_Cw_isRule_8 (by decide) (fun c8 => ?_) (fun c8 => ?_)
    · skip
      have h := h.1 c8
      exact J_47 σ H locs h hP hD hS ls (lv_sub hl [] rfl)
    · skip
      have h := h.2 c8
      exact J_11 σ v0 H locs h hP hD hS ls (lv_sub hl [0] rfl)
def y_Cw_isMet : MethodName := ⟨"ClassWorks", "isMet", "(I)Z"⟩
abbrev b_Cw_isMet : ByteArray := prog_1_method_60_code
theorem d_Cw_isMet_0 : decode b_Cw_isMet 0 = .ok (.iconst 0, 1) := by decide +kernel
theorem d_Cw_isMet_1 : decode b_Cw_isMet 1 = .ok (.istore_n 2, 1) := by decide +kernel
theorem d_Cw_isMet_2 : decode b_Cw_isMet 2 = .ok (.iload_n 2, 1) := by decide +kernel
theorem d_Cw_isMet_3 : decode b_Cw_isMet 3 = .ok (.aload_n 0, 1) := by decide +kernel
theorem d_Cw_isMet_4 : decode b_Cw_isMet 4 = .ok (.getfield 46, 3) := by decide +kernel
theorem d_Cw_isMet_7 : decode b_Cw_isMet 7 = .ok (.if_icmp .ge 21, 3) := by decide +kernel
theorem d_Cw_isMet_10 : decode b_Cw_isMet 10 = .ok (.aload_n 0, 1) := by decide +kernel
theorem d_Cw_isMet_11 : decode b_Cw_isMet 11 = .ok (.getfield 40, 3) := by decide +kernel
theorem d_Cw_isMet_14 : decode b_Cw_isMet 14 = .ok (.iload_n 2, 1) := by decide +kernel
theorem d_Cw_isMet_15 : decode b_Cw_isMet 15 = .ok (.iaload, 1) := by decide +kernel
theorem d_Cw_isMet_16 : decode b_Cw_isMet 16 = .ok (.iload_n 1, 1) := by decide +kernel
theorem d_Cw_isMet_17 : decode b_Cw_isMet 17 = .ok (.if_icmp .ne 5, 3) := by decide +kernel
theorem d_Cw_isMet_20 : decode b_Cw_isMet 20 = .ok (.iconst 1, 1) := by decide +kernel
theorem d_Cw_isMet_21 : decode b_Cw_isMet 21 = .ok (.ireturn, 1) := by decide +kernel
theorem d_Cw_isMet_22 : decode b_Cw_isMet 22 = .ok (.iinc 2 1, 3) := by decide +kernel
theorem d_Cw_isMet_25 : decode b_Cw_isMet 25 = .ok (.goto (-23), 3) := by decide +kernel
theorem d_Cw_isMet_28 : decode b_Cw_isMet 28 = .ok (.iconst 0, 1) := by decide +kernel
theorem d_Cw_isMet_29 : decode b_Cw_isMet 29 = .ok (.ireturn, 1) := by decide +kernel
abbrev ru_Cw_isMet : Room := { frames := 0, cells := 0, slots := 0, locals := 0 }
def wb_Cw_isMet_2 (y : Ly) (Post : St → Int32 → Prop) (K_2 : St → Int32 → Int32 → Prop) (a0 : Nat) (s_h2 : St) (x1h2 : Int32) (x2h2 : Int32) : Prop := (((sV s_h2 a0 14) ≤ x2h2 → (nb 0 ∧ Post s_h2 0)) ∧ (¬ ((sV s_h2 a0 14) ≤ x2h2) → xA y s_h2 a0 12 x2h2 (fun x_1 : Int32 => ((¬ x_1 = x1h2 → K_2 s_h2 x1h2 (x2h2 + 1)) ∧ (x_1 = x1h2 → (nb 1 ∧ Post s_h2 1))))))
def wl_Cw_isMet_2 (y : Ly) (Post : St → Int32 → Prop) (a0 : Nat) (s_h2 : St) (x1h2 : Int32) (x2h2 : Int32) : Prop := ∃ (I : St → Int32 → Int32 → Prop) (μ : St → Int32 → Int32 → Nat), I s_h2 x1h2 x2h2 ∧ ∀ (u : St) (t0 : Int32) (t1 : Int32), I u t0 t1 → wb_Cw_isMet_2 y Post (fun z t0q t1q => I z t0q t1q ∧ μ z t0q t1q < μ u t0 t1) a0 u t0 t1
def wu_Cw_isMet (y : Ly) (Post : St → Int32 → Prop) (σ : St) (a0 : Nat) (v1 : Int32) : Prop := wl_Cw_isMet_2 y Post a0 σ v1 0
set_option maxHeartbeats 4000000 in
set_option maxRecDepth 100000 in
theorem cu_Cw_isMet (l : Launch) (D : va_G) (g : Nat → ClassId) (ad : Nat → Nat) (y : Ly) (Post : St → Int32 → Prop) (σ : St) (a0 : Nat) (v1 : Int32) (sz : Nat) (h_a0 : cl a0 = 11) (h : wu_Cw_isMet y Post σ a0 v1) : Met l y_Cw_isMet (mw y_Cw_isMet b_Cw_isMet 3 (some (.boolean))) ru_Cw_isMet (PC g D [] [.ref (ad a0), .int v1] sz (ws g ad y σ)) (va_Qi (fun (r : Int32) (u : St) => Post u r) (QW D (va_A (ws g ad y σ) sz) (fun u => ws g ad y u)) (va_A (ws g ad y σ) sz)) 0 0 (va_A (ws g ad y σ) sz) := by
  refine ofZ (by decide +kernel) (Nat.le_of_ble_eq_true rfl) ?_
  intro p e s m args below meth c A Q ls H locs G hsz hP hD hS hl hret
  subst hsz
  have hl : lv_has ls 3 [(0, .ref (ad a0)), (1, .int v1)] := hl
  unfold wu_Cw_isMet at h
  refine lv_iconst (v := 0) G.1 G.2.1 d_Cw_isMet_0 (by decide) ?_
  refine lv_istore_n (lv' := [(2, .int 0), (0, .ref (ad a0)), (1, .int v1)]) G.1 G.2.1 d_Cw_isMet_1 rfl hl (by decide) rfl (fun ls hl => ?_)
  unfold wl_Cw_isMet_2 at h
  obtain ⟨I_2, μ_2, hI_2, hB_2⟩ := h
  have L_2 : ∀ (n_2 : Nat) (s_h2 : St) (x1h2 : Int32) (x2h2 : Int32), μ_2 s_h2 x1h2 x2h2 < n_2 → I_2 s_h2 x1h2 x2h2 → ∀ (H : Heap) (locs : List Loc), va_P D CL (ws g ad y s_h2) H → va_D A (ws g ad y s_h2) → va_S A s.heap H locs → ∀ ls, lv_has ls 3 [(0, .ref (ad a0)), (1, .int x1h2), (2, .int x2h2)] → W p l e ru_Cw_isMet s m args below meth c H locs 0 0 Q (F0 m 2 ls []) := by
    intro n_2
    induction n_2 with
    | zero => intro s_h2 x1h2 x2h2 hμ; exact absurd hμ (Nat.not_lt_zero _)
    | succ n_2 ih_2 =>
      intro s_h2 x1h2 x2h2 hμ_2 hJ H locs hP hD hS ls hl
      obtain ⟨K_2, hK_2, h⟩ : ∃ K : St → Int32 → Int32 → Prop, (∀ z (t0 : Int32) (t1 : Int32), K z t0 t1 → I_2 z t0 t1 ∧ μ_2 z t0 t1 < μ_2 s_h2 x1h2 x2h2) ∧ wb_Cw_isMet_2 y Post K a0 s_h2 x1h2 x2h2 := ⟨_, fun _ _ _ h => h, hB_2 s_h2 x1h2 x2h2 hJ⟩
      unfold wb_Cw_isMet_2 at h
      refine lv_iload_n G.1 G.2.1 d_Cw_isMet_2 rfl (lv_at hl 2 rfl) ?_
      refine lv_aload_n G.1 G.2.1 d_Cw_isMet_3 rfl (lv_at hl 0 rfl) ?_
      refine ugf (v := .int (sV s_h2 a0 14)) G hP h_a0 iCw rfl 14 (by decide) rfl q1148 rfl rfl d_Cw_isMet_4 ?_
      refine lv_icmp_ge (tgt := 28) G.1 G.2.1 d_Cw_isMet_7 (by decide) (fun c7 => ?_) (fun c7 => ?_)
      · skip
        have h := h.1 c7
        refine lv_iconst (v := 0) G.1 G.2.1 d_Cw_isMet_28 (by decide) ?_
        exact hret _ _ _ _ _ _ _ ls (nb_n h.1) h.2 hP hD hS (Nat.le_refl _) (Nat.le_refl _) d_Cw_isMet_29
      · skip
        have h := h.2 c7
        refine lv_aload_n G.1 G.2.1 d_Cw_isMet_10 rfl (lv_at hl 0 rfl) ?_
        refine ugf (v := .ref (yP y a0 12)) G hP h_a0 iCw rfl 12 (by decide) rfl q1146 rfl rfl d_Cw_isMet_11 ?_
        refine lv_iload_n G.1 G.2.1 d_Cw_isMet_14 rfl (lv_at hl 2 rfl) ?_
        refine uiald G hP (kdp h_a0 rfl) (typ h_a0 rfl) h d_Cw_isMet_15 (fun x_1 h => ?_)
        refine lv_iload_n G.1 G.2.1 d_Cw_isMet_16 rfl (lv_at hl 1 rfl) ?_
        refine lv_icmp_ne (tgt := 22) G.1 G.2.1 d_Cw_isMet_17 (by decide) (fun c17 => ?_) (fun c17 => ?_)
        · skip
          have h := h.1 c17
          refine lv_iinc (v := x2h2 + 1) (lv' := [(2, .int (x2h2 + 1)), (0, .ref (ad a0)), (1, .int x1h2)]) G.1 G.2.1 d_Cw_isMet_22 hl (k := 2) rfl rfl (by decide) rfl (fun ls hl => ?_)
          refine W.eq (g2 := F0 m 25 ls []) rfl ?_
          refine lv_goto (tgt := 2) G.1 G.2.1 d_Cw_isMet_25 (by decide) ?_
          have h := hK_2 s_h2 x1h2 (x2h2 + 1) h
          exact ih_2 s_h2 x1h2 (x2h2 + 1) (Nat.lt_of_lt_of_le h.2 (Nat.le_of_lt_succ hμ_2)) h.1 H locs hP hD hS ls (lv_sub hl [1, 2, 0] rfl)
        · skip
          have h := h.2 c17
          refine lv_iconst (v := 1) G.1 G.2.1 d_Cw_isMet_20 (by decide) ?_
          refine W.eq (g2 := F0 m 21 ls [.int 1]) rfl ?_
          exact hret _ _ _ _ _ _ _ ls (nb_n h.1) h.2 hP hD hS (Nat.le_refl _) (Nat.le_refl _) d_Cw_isMet_21
  exact L_2 _ σ v1 0 (Nat.lt_succ_self _) hI_2 H locs hP hD hS ls (lv_sub hl [1, 2, 0] rfl)
def y_Cw_othersDo : MethodName := ⟨"ClassWorks", "othersDo", "(I)Z"⟩
abbrev b_Cw_othersDo : ByteArray := prog_1_method_63_code
theorem d_Cw_othersDo_0 : decode b_Cw_othersDo 0 = .ok (.aload_n 0, 1) := by decide +kernel
theorem d_Cw_othersDo_1 : decode b_Cw_othersDo 1 = .ok (.getfield 40, 3) := by decide +kernel
theorem d_Cw_othersDo_4 : decode b_Cw_othersDo 4 = .ok (.iload_n 1, 1) := by decide +kernel
theorem d_Cw_othersDo_5 : decode b_Cw_othersDo 5 = .ok (.iaload, 1) := by decide +kernel
theorem d_Cw_othersDo_6 : decode b_Cw_othersDo 6 = .ok (.istore_n 2, 1) := by decide +kernel
theorem d_Cw_othersDo_7 : decode b_Cw_othersDo 7 = .ok (.aload_n 0, 1) := by decide +kernel
theorem d_Cw_othersDo_8 : decode b_Cw_othersDo 8 = .ok (.getfield 43, 3) := by decide +kernel
theorem d_Cw_othersDo_11 : decode b_Cw_othersDo 11 = .ok (.iload_n 1, 1) := by decide +kernel
theorem d_Cw_othersDo_12 : decode b_Cw_othersDo 12 = .ok (.iaload, 1) := by decide +kernel
theorem d_Cw_othersDo_13 : decode b_Cw_othersDo 13 = .ok (.istore_n 3, 1) := by decide +kernel
theorem d_Cw_othersDo_14 : decode b_Cw_othersDo 14 = .ok (.iload_n 2, 1) := by decide +kernel
theorem d_Cw_othersDo_15 : decode b_Cw_othersDo 15 = .ok (.ifCond .ne 7, 3) := by decide +kernel
theorem d_Cw_othersDo_18 : decode b_Cw_othersDo 18 = .ok (.iconst 1, 1) := by decide +kernel
theorem d_Cw_othersDo_19 : decode b_Cw_othersDo 19 = .ok (.goto 4, 3) := by decide +kernel
theorem d_Cw_othersDo_22 : decode b_Cw_othersDo 22 = .ok (.iconst 0, 1) := by decide +kernel
theorem d_Cw_othersDo_23 : decode b_Cw_othersDo 23 = .ok (.istore 4, 2) := by decide +kernel
theorem d_Cw_othersDo_25 : decode b_Cw_othersDo 25 = .ok (.iconst 0, 1) := by decide +kernel
theorem d_Cw_othersDo_26 : decode b_Cw_othersDo 26 = .ok (.istore 5, 2) := by decide +kernel
theorem d_Cw_othersDo_28 : decode b_Cw_othersDo 28 = .ok (.iload 5, 2) := by decide +kernel
theorem d_Cw_othersDo_30 : decode b_Cw_othersDo 30 = .ok (.aload_n 0, 1) := by decide +kernel
theorem d_Cw_othersDo_31 : decode b_Cw_othersDo 31 = .ok (.getfield 46, 3) := by decide +kernel
theorem d_Cw_othersDo_34 : decode b_Cw_othersDo 34 = .ok (.if_icmp .ge 50, 3) := by decide +kernel
theorem d_Cw_othersDo_37 : decode b_Cw_othersDo 37 = .ok (.iload 5, 2) := by decide +kernel
theorem d_Cw_othersDo_39 : decode b_Cw_othersDo 39 = .ok (.iload_n 1, 1) := by decide +kernel
theorem d_Cw_othersDo_40 : decode b_Cw_othersDo 40 = .ok (.if_icmp .eq 38, 3) := by decide +kernel
theorem d_Cw_othersDo_43 : decode b_Cw_othersDo 43 = .ok (.iload 4, 2) := by decide +kernel
theorem d_Cw_othersDo_45 : decode b_Cw_othersDo 45 = .ok (.ifCond .ne 14, 3) := by decide +kernel
theorem d_Cw_othersDo_48 : decode b_Cw_othersDo 48 = .ok (.aload_n 0, 1) := by decide +kernel
theorem d_Cw_othersDo_49 : decode b_Cw_othersDo 49 = .ok (.getfield 40, 3) := by decide +kernel
theorem d_Cw_othersDo_52 : decode b_Cw_othersDo 52 = .ok (.iload 5, 2) := by decide +kernel
theorem d_Cw_othersDo_54 : decode b_Cw_othersDo 54 = .ok (.iaload, 1) := by decide +kernel
theorem d_Cw_othersDo_55 : decode b_Cw_othersDo 55 = .ok (.iload_n 2, 1) := by decide +kernel
theorem d_Cw_othersDo_56 : decode b_Cw_othersDo 56 = .ok (.if_icmp .ne 7, 3) := by decide +kernel
theorem d_Cw_othersDo_59 : decode b_Cw_othersDo 59 = .ok (.iconst 1, 1) := by decide +kernel
theorem d_Cw_othersDo_60 : decode b_Cw_othersDo 60 = .ok (.goto 4, 3) := by decide +kernel
theorem d_Cw_othersDo_63 : decode b_Cw_othersDo 63 = .ok (.iconst 0, 1) := by decide +kernel
theorem d_Cw_othersDo_64 : decode b_Cw_othersDo 64 = .ok (.istore 4, 2) := by decide +kernel
theorem d_Cw_othersDo_66 : decode b_Cw_othersDo 66 = .ok (.iload_n 3, 1) := by decide +kernel
theorem d_Cw_othersDo_67 : decode b_Cw_othersDo 67 = .ok (.aload_n 0, 1) := by decide +kernel
theorem d_Cw_othersDo_68 : decode b_Cw_othersDo 68 = .ok (.getfield 43, 3) := by decide +kernel
theorem d_Cw_othersDo_71 : decode b_Cw_othersDo 71 = .ok (.iload 5, 2) := by decide +kernel
theorem d_Cw_othersDo_73 : decode b_Cw_othersDo 73 = .ok (.iaload, 1) := by decide +kernel
theorem d_Cw_othersDo_74 : decode b_Cw_othersDo 74 = .ok (.iconst (-1), 1) := by decide +kernel
theorem d_Cw_othersDo_75 : decode b_Cw_othersDo 75 = .ok (.ixor, 1) := by decide +kernel
theorem d_Cw_othersDo_76 : decode b_Cw_othersDo 76 = .ok (.iand, 1) := by decide +kernel
theorem d_Cw_othersDo_77 : decode b_Cw_othersDo 77 = .ok (.istore_n 3, 1) := by decide +kernel
theorem d_Cw_othersDo_78 : decode b_Cw_othersDo 78 = .ok (.iinc 5 1, 3) := by decide +kernel
theorem d_Cw_othersDo_81 : decode b_Cw_othersDo 81 = .ok (.goto (-53), 3) := by decide +kernel
theorem d_Cw_othersDo_84 : decode b_Cw_othersDo 84 = .ok (.iload 4, 2) := by decide +kernel
theorem d_Cw_othersDo_86 : decode b_Cw_othersDo 86 = .ok (.ifCond .eq 11, 3) := by decide +kernel
theorem d_Cw_othersDo_89 : decode b_Cw_othersDo 89 = .ok (.iload_n 3, 1) := by decide +kernel
theorem d_Cw_othersDo_90 : decode b_Cw_othersDo 90 = .ok (.ifCond .ne 7, 3) := by decide +kernel
theorem d_Cw_othersDo_93 : decode b_Cw_othersDo 93 = .ok (.iconst 1, 1) := by decide +kernel
theorem d_Cw_othersDo_94 : decode b_Cw_othersDo 94 = .ok (.goto 4, 3) := by decide +kernel
theorem d_Cw_othersDo_97 : decode b_Cw_othersDo 97 = .ok (.iconst 0, 1) := by decide +kernel
theorem d_Cw_othersDo_98 : decode b_Cw_othersDo 98 = .ok (.ireturn, 1) := by decide +kernel
abbrev ru_Cw_othersDo : Room := { frames := 0, cells := 0, slots := 0, locals := 0 }
def wj_Cw_othersDo_98 (y : Ly) (Post : St → Int32 → Prop) (a0 : Nat) (s_j98 : St) (z0j98 : Int32) : Prop := (nb z0j98 ∧ Post s_j98 z0j98)
def wj_Cw_othersDo_97 (y : Ly) (Post : St → Int32 → Prop) (a0 : Nat) (s_j97 : St) : Prop := wj_Cw_othersDo_98 y Post a0 s_j97 0
def wj_Cw_othersDo_78 (y : Ly) (Post : St → Int32 → Prop) (K_28 : St → Int32 → Int32 → Int32 → Int32 → Int32 → Prop) (a0 : Nat) (s_j78 : St) (x1j78 : Int32) (x2j78 : Int32) (x3j78 : Int32) (x4j78 : Int32) (x5j78 : Int32) : Prop := K_28 s_j78 x1j78 x2j78 x3j78 x4j78 (x5j78 + 1)
def wj_Cw_othersDo_64 (y : Ly) (Post : St → Int32 → Prop) (K_28 : St → Int32 → Int32 → Int32 → Int32 → Int32 → Prop) (a0 : Nat) (s_j64 : St) (x1j64 : Int32) (x2j64 : Int32) (x3j64 : Int32) (x5j64 : Int32) (z0j64 : Int32) : Prop := xA y s_j64 a0 13 x5j64 (fun x_3 : Int32 => wj_Cw_othersDo_78 y Post K_28 a0 s_j64 x1j64 x2j64 (x3j64 &&& (x_3 ^^^ (-1))) z0j64 x5j64)
def wj_Cw_othersDo_59 (y : Ly) (Post : St → Int32 → Prop) (K_28 : St → Int32 → Int32 → Int32 → Int32 → Int32 → Prop) (a0 : Nat) (s_j59 : St) (x1j59 : Int32) (x2j59 : Int32) (x3j59 : Int32) (x5j59 : Int32) : Prop := wj_Cw_othersDo_64 y Post K_28 a0 s_j59 x1j59 x2j59 x3j59 x5j59 1
def wb_Cw_othersDo_28 (y : Ly) (Post : St → Int32 → Prop) (K_28 : St → Int32 → Int32 → Int32 → Int32 → Int32 → Prop) (a0 : Nat) (s_h28 : St) (x1h28 : Int32) (x2h28 : Int32) (x3h28 : Int32) (x4h28 : Int32) (x5h28 : Int32) : Prop := (((sV s_h28 a0 14) ≤ x5h28 → ((x4h28 = 0 → wj_Cw_othersDo_97 y Post a0 s_h28) ∧ (¬ (x4h28 = 0) → ((¬ x3h28 = 0 → wj_Cw_othersDo_97 y Post a0 s_h28) ∧ (x3h28 = 0 → wj_Cw_othersDo_98 y Post a0 s_h28 1))))) ∧ (¬ ((sV s_h28 a0 14) ≤ x5h28) → ((x5h28 = x1h28 → wj_Cw_othersDo_78 y Post K_28 a0 s_h28 x1h28 x2h28 x3h28 x4h28 x5h28) ∧ (¬ (x5h28 = x1h28) → ((¬ x4h28 = 0 → wj_Cw_othersDo_59 y Post K_28 a0 s_h28 x1h28 x2h28 x3h28 x5h28) ∧ (x4h28 = 0 → xA y s_h28 a0 12 x5h28 (fun x_4 : Int32 => ((¬ x_4 = x2h28 → wj_Cw_othersDo_64 y Post K_28 a0 s_h28 x1h28 x2h28 x3h28 x5h28 0) ∧ (x_4 = x2h28 → wj_Cw_othersDo_59 y Post K_28 a0 s_h28 x1h28 x2h28 x3h28 x5h28)))))))))
def wl_Cw_othersDo_28 (y : Ly) (Post : St → Int32 → Prop) (a0 : Nat) (s_h28 : St) (x1h28 : Int32) (x2h28 : Int32) (x3h28 : Int32) (x4h28 : Int32) (x5h28 : Int32) : Prop := ∃ (I : St → Int32 → Int32 → Int32 → Int32 → Int32 → Prop) (μ : St → Int32 → Int32 → Int32 → Int32 → Int32 → Nat), I s_h28 x1h28 x2h28 x3h28 x4h28 x5h28 ∧ ∀ (u : St) (t0 : Int32) (t1 : Int32) (t2 : Int32) (t3 : Int32) (t4 : Int32), I u t0 t1 t2 t3 t4 → wb_Cw_othersDo_28 y Post (fun z t0q t1q t2q t3q t4q => I z t0q t1q t2q t3q t4q ∧ μ z t0q t1q t2q t3q t4q < μ u t0 t1 t2 t3 t4) a0 u t0 t1 t2 t3 t4
def wj_Cw_othersDo_23 (y : Ly) (Post : St → Int32 → Prop) (a0 : Nat) (s_j23 : St) (x1j23 : Int32) (x2j23 : Int32) (x3j23 : Int32) (z0j23 : Int32) : Prop := wl_Cw_othersDo_28 y Post a0 s_j23 x1j23 x2j23 x3j23 z0j23 0
def wu_Cw_othersDo (y : Ly) (Post : St → Int32 → Prop) (σ : St) (a0 : Nat) (v1 : Int32) : Prop := xA y σ a0 12 v1 (fun x_1 : Int32 => xA y σ a0 13 v1 (fun x_2 : Int32 => ((¬ x_1 = 0 → wj_Cw_othersDo_23 y Post a0 σ v1 x_1 x_2 0) ∧ (x_1 = 0 → wj_Cw_othersDo_23 y Post a0 σ v1 x_1 x_2 1))))
set_option maxHeartbeats 4000000 in
set_option maxRecDepth 100000 in
theorem cu_Cw_othersDo (l : Launch) (D : va_G) (g : Nat → ClassId) (ad : Nat → Nat) (y : Ly) (Post : St → Int32 → Prop) (σ : St) (a0 : Nat) (v1 : Int32) (sz : Nat) (h_a0 : cl a0 = 11) (h : wu_Cw_othersDo y Post σ a0 v1) : Met l y_Cw_othersDo (mw y_Cw_othersDo b_Cw_othersDo 6 (some (.boolean))) ru_Cw_othersDo (PC g D [] [.ref (ad a0), .int v1] sz (ws g ad y σ)) (va_Qi (fun (r : Int32) (u : St) => Post u r) (QW D (va_A (ws g ad y σ) sz) (fun u => ws g ad y u)) (va_A (ws g ad y σ) sz)) 0 0 (va_A (ws g ad y σ) sz) := by
  refine ofZ (by decide +kernel) (Nat.le_of_ble_eq_true rfl) ?_
  intro p e s m args below meth c A Q ls H locs G hsz hP hD hS hl hret
  subst hsz
  have hl : lv_has ls 6 [(0, .ref (ad a0)), (1, .int v1)] := hl
  unfold wu_Cw_othersDo at h
  refine lv_aload_n G.1 G.2.1 d_Cw_othersDo_0 rfl (lv_at hl 0 rfl) ?_
  refine ugf (v := .ref (yP y a0 12)) G hP h_a0 iCw rfl 12 (by decide) rfl q1146 rfl rfl d_Cw_othersDo_1 ?_
  refine lv_iload_n G.1 G.2.1 d_Cw_othersDo_4 rfl (lv_at hl 1 rfl) ?_
  refine uiald G hP (kdp h_a0 rfl) (typ h_a0 rfl) h d_Cw_othersDo_5 (fun x_1 h => ?_)
  refine lv_istore_n (lv' := [(2, .int x_1), (0, .ref (ad a0)), (1, .int v1)]) G.1 G.2.1 d_Cw_othersDo_6 rfl hl (by decide) rfl (fun ls hl => ?_)
  refine lv_aload_n G.1 G.2.1 d_Cw_othersDo_7 rfl (lv_at hl 1 rfl) ?_
  refine ugf (v := .ref (yP y a0 13)) G hP h_a0 iCw rfl 13 (by decide) rfl q1147 rfl rfl d_Cw_othersDo_8 ?_
  refine lv_iload_n G.1 G.2.1 d_Cw_othersDo_11 rfl (lv_at hl 2 rfl) ?_
  refine uiald G hP (kdp h_a0 rfl) (typ h_a0 rfl) h d_Cw_othersDo_12 (fun x_2 h => ?_)
  refine lv_istore_n (lv' := [(3, .int x_2), (2, .int x_1), (0, .ref (ad a0)), (1, .int v1)]) G.1 G.2.1 d_Cw_othersDo_13 rfl hl (by decide) rfl (fun ls hl => ?_)
  refine lv_iload_n G.1 G.2.1 d_Cw_othersDo_14 rfl (lv_at hl 1 rfl) ?_
  have J_23 : ∀ (s_j23 : St) (x1j23 : Int32) (x2j23 : Int32) (x3j23 : Int32) (z0j23 : Int32) (H : Heap) (locs : List Loc), wj_Cw_othersDo_23 y Post a0 s_j23 x1j23 x2j23 x3j23 z0j23 → va_P D CL (ws g ad y s_j23) H → va_D A (ws g ad y s_j23) → va_S A s.heap H locs → ∀ ls, lv_has ls 6 [(0, .ref (ad a0)), (1, .int x1j23), (2, .int x2j23), (3, .int x3j23)] → W p l e ru_Cw_othersDo s m args below meth c H locs 0 0 Q (F0 m 23 ls [.int z0j23]) := by
    intro s_j23 x1j23 x2j23 x3j23 z0j23 H locs h hP hD hS ls hl
    unfold wj_Cw_othersDo_23 at h
    refine lv_istore (lv' := [(4, .int z0j23), (0, .ref (ad a0)), (1, .int x1j23), (2, .int x2j23), (3, .int x3j23)]) G.1 G.2.1 d_Cw_othersDo_23 hl (by decide) rfl (fun ls hl => ?_)
    refine lv_iconst (v := 0) G.1 G.2.1 d_Cw_othersDo_25 (by decide) ?_
    refine lv_istore (lv' := [(5, .int 0), (4, .int z0j23), (0, .ref (ad a0)), (1, .int x1j23), (2, .int x2j23), (3, .int x3j23)]) G.1 G.2.1 d_Cw_othersDo_26 hl (by decide) rfl (fun ls hl => ?_)
    unfold wl_Cw_othersDo_28 at h
    obtain ⟨I_28, μ_28, hI_28, hB_28⟩ := h
    have L_28 : ∀ (n_28 : Nat) (s_h28 : St) (x1h28 : Int32) (x2h28 : Int32) (x3h28 : Int32) (x4h28 : Int32) (x5h28 : Int32), μ_28 s_h28 x1h28 x2h28 x3h28 x4h28 x5h28 < n_28 → I_28 s_h28 x1h28 x2h28 x3h28 x4h28 x5h28 → ∀ (H : Heap) (locs : List Loc), va_P D CL (ws g ad y s_h28) H → va_D A (ws g ad y s_h28) → va_S A s.heap H locs → ∀ ls, lv_has ls 6 [(0, .ref (ad a0)), (1, .int x1h28), (2, .int x2h28), (3, .int x3h28), (4, .int x4h28), (5, .int x5h28)] → W p l e ru_Cw_othersDo s m args below meth c H locs 0 0 Q (F0 m 28 ls []) := by
      intro n_28
      induction n_28 with
      | zero => intro s_h28 x1h28 x2h28 x3h28 x4h28 x5h28 hμ; exact absurd hμ (Nat.not_lt_zero _)
      | succ n_28 ih_28 =>
        intro s_h28 x1h28 x2h28 x3h28 x4h28 x5h28 hμ_28 hJ H locs hP hD hS ls hl
        obtain ⟨K_28, hK_28, h⟩ : ∃ K : St → Int32 → Int32 → Int32 → Int32 → Int32 → Prop, (∀ z (t0 : Int32) (t1 : Int32) (t2 : Int32) (t3 : Int32) (t4 : Int32), K z t0 t1 t2 t3 t4 → I_28 z t0 t1 t2 t3 t4 ∧ μ_28 z t0 t1 t2 t3 t4 < μ_28 s_h28 x1h28 x2h28 x3h28 x4h28 x5h28) ∧ wb_Cw_othersDo_28 y Post K a0 s_h28 x1h28 x2h28 x3h28 x4h28 x5h28 := ⟨_, fun _ _ _ _ _ _ h => h, hB_28 s_h28 x1h28 x2h28 x3h28 x4h28 x5h28 hJ⟩
        unfold wb_Cw_othersDo_28 at h
        refine lv_iload G.1 G.2.1 d_Cw_othersDo_28 (lv_at hl 5 rfl) ?_
        refine lv_aload_n G.1 G.2.1 d_Cw_othersDo_30 rfl (lv_at hl 0 rfl) ?_
        refine ugf (v := .int (sV s_h28 a0 14)) G hP h_a0 iCw rfl 14 (by decide) rfl q1148 rfl rfl d_Cw_othersDo_31 ?_
        refine lv_icmp_ge (tgt := 84) G.1 G.2.1 d_Cw_othersDo_34 (by decide) (fun c34 => ?_) (fun c34 => ?_)
        · skip
          have h := h.1 c34
          refine lv_iload G.1 G.2.1 d_Cw_othersDo_84 (lv_at hl 4 rfl) ?_
          have J_98 : ∀ (s_j98 : St) (z0j98 : Int32) (H : Heap) (locs : List Loc), wj_Cw_othersDo_98 y Post a0 s_j98 z0j98 → va_P D CL (ws g ad y s_j98) H → va_D A (ws g ad y s_j98) → va_S A s.heap H locs → ∀ ls, lv_has ls 6 [] → W p l e ru_Cw_othersDo s m args below meth c H locs 0 0 Q (F0 m 98 ls [.int z0j98]) := by
            intro s_j98 z0j98 H locs h hP hD hS ls hl
            unfold wj_Cw_othersDo_98 at h
            exact hret _ _ _ _ _ _ _ ls (nb_n h.1) h.2 hP hD hS (Nat.le_refl _) (Nat.le_refl _) d_Cw_othersDo_98
          have J_97 : ∀ (s_j97 : St) (H : Heap) (locs : List Loc), wj_Cw_othersDo_97 y Post a0 s_j97 → va_P D CL (ws g ad y s_j97) H → va_D A (ws g ad y s_j97) → va_S A s.heap H locs → ∀ ls, lv_has ls 6 [] → W p l e ru_Cw_othersDo s m args below meth c H locs 0 0 Q (F0 m 97 ls []) := by
            intro s_j97 H locs h hP hD hS ls hl
            unfold wj_Cw_othersDo_97 at h
            refine lv_iconst (v := 0) G.1 G.2.1 d_Cw_othersDo_97 (by decide) ?_
            exact J_98 s_j97 0 H locs h hP hD hS ls (lv_sub hl [] rfl)
          refine lv_if_eq (tgt := 97) G.1 G.2.1 d_Cw_othersDo_86 (by decide) (fun c86 => ?_) (fun c86 => ?_)
          · skip
            have h := h.1 c86
            exact J_97 s_h28 H locs h hP hD hS ls (lv_sub hl [] rfl)
          · skip
            have h := h.2 c86
            refine lv_iload_n G.1 G.2.1 d_Cw_othersDo_89 rfl (lv_at hl 3 rfl) ?_
            refine lv_if_ne (tgt := 97) G.1 G.2.1 d_Cw_othersDo_90 (by decide) (fun c90 => ?_) (fun c90 => ?_)
            · skip
              have h := h.1 c90
              exact J_97 s_h28 H locs h hP hD hS ls (lv_sub hl [] rfl)
            · skip
              have h := h.2 c90
              refine lv_iconst (v := 1) G.1 G.2.1 d_Cw_othersDo_93 (by decide) ?_
              refine lv_goto (tgt := 98) G.1 G.2.1 d_Cw_othersDo_94 (by decide) ?_
              exact J_98 s_h28 1 H locs h hP hD hS ls (lv_sub hl [] rfl)
        · skip
          have h := h.2 c34
          refine lv_iload G.1 G.2.1 d_Cw_othersDo_37 (lv_at hl 5 rfl) ?_
          refine lv_iload_n G.1 G.2.1 d_Cw_othersDo_39 rfl (lv_at hl 1 rfl) ?_
          have J_78 : ∀ (s_j78 : St) (x1j78 : Int32) (x2j78 : Int32) (x3j78 : Int32) (x4j78 : Int32) (x5j78 : Int32) (H : Heap) (locs : List Loc), wj_Cw_othersDo_78 y Post K_28 a0 s_j78 x1j78 x2j78 x3j78 x4j78 x5j78 → va_P D CL (ws g ad y s_j78) H → va_D A (ws g ad y s_j78) → va_S A s.heap H locs → ∀ ls, lv_has ls 6 [(0, .ref (ad a0)), (1, .int x1j78), (2, .int x2j78), (3, .int x3j78), (4, .int x4j78), (5, .int x5j78)] → W p l e ru_Cw_othersDo s m args below meth c H locs 0 0 Q (F0 m 78 ls []) := by
            intro s_j78 x1j78 x2j78 x3j78 x4j78 x5j78 H locs h hP hD hS ls hl
            unfold wj_Cw_othersDo_78 at h
            refine lv_iinc (v := x5j78 + 1) (lv' := [(5, .int (x5j78 + 1)), (0, .ref (ad a0)), (1, .int x1j78), (2, .int x2j78), (3, .int x3j78), (4, .int x4j78)]) G.1 G.2.1 d_Cw_othersDo_78 hl (k := 5) rfl rfl (by decide) rfl (fun ls hl => ?_)
            refine lv_goto (tgt := 28) G.1 G.2.1 d_Cw_othersDo_81 (by decide) ?_
            have h := hK_28 s_j78 x1j78 x2j78 x3j78 x4j78 (x5j78 + 1) h
            exact ih_28 s_j78 x1j78 x2j78 x3j78 x4j78 (x5j78 + 1) (Nat.lt_of_lt_of_le h.2 (Nat.le_of_lt_succ hμ_28)) h.1 H locs hP hD hS ls (lv_sub hl [1, 2, 3, 4, 5, 0] rfl)
          refine lv_icmp_eq (tgt := 78) G.1 G.2.1 d_Cw_othersDo_40 (by decide) (fun c40 => ?_) (fun c40 => ?_)
          · skip
            have h := h.1 c40
            exact J_78 s_h28 x1h28 x2h28 x3h28 x4h28 x5h28 H locs h hP hD hS ls (lv_sub hl [0, 1, 2, 3, 4, 5] rfl)
          · skip
            have h := h.2 c40
            refine lv_iload G.1 G.2.1 d_Cw_othersDo_43 (lv_at hl 4 rfl) ?_
            have J_64 : ∀ (s_j64 : St) (x1j64 : Int32) (x2j64 : Int32) (x3j64 : Int32) (x5j64 : Int32) (z0j64 : Int32) (H : Heap) (locs : List Loc), wj_Cw_othersDo_64 y Post K_28 a0 s_j64 x1j64 x2j64 x3j64 x5j64 z0j64 → va_P D CL (ws g ad y s_j64) H → va_D A (ws g ad y s_j64) → va_S A s.heap H locs → ∀ ls, lv_has ls 6 [(0, .ref (ad a0)), (1, .int x1j64), (2, .int x2j64), (3, .int x3j64), (5, .int x5j64)] → W p l e ru_Cw_othersDo s m args below meth c H locs 0 0 Q (F0 m 64 ls [.int z0j64]) := by
              intro s_j64 x1j64 x2j64 x3j64 x5j64 z0j64 H locs h hP hD hS ls hl
              unfold wj_Cw_othersDo_64 at h
              refine lv_istore (lv' := [(4, .int z0j64), (0, .ref (ad a0)), (1, .int x1j64), (2, .int x2j64), (3, .int x3j64), (5, .int x5j64)]) G.1 G.2.1 d_Cw_othersDo_64 hl (by decide) rfl (fun ls hl => ?_)
              refine lv_iload_n G.1 G.2.1 d_Cw_othersDo_66 rfl (lv_at hl 4 rfl) ?_
              refine lv_aload_n G.1 G.2.1 d_Cw_othersDo_67 rfl (lv_at hl 1 rfl) ?_
              refine ugf (v := .ref (yP y a0 13)) G hP h_a0 iCw rfl 13 (by decide) rfl q1147 rfl rfl d_Cw_othersDo_68 ?_
              refine lv_iload G.1 G.2.1 d_Cw_othersDo_71 (lv_at hl 5 rfl) ?_
              refine uiald G hP (kdp h_a0 rfl) (typ h_a0 rfl) h d_Cw_othersDo_73 (fun x_3 h => ?_)
              refine lv_iconst (v := (-1)) G.1 G.2.1 d_Cw_othersDo_74 (by decide) ?_
              refine lv_ixor G.1 G.2.1 d_Cw_othersDo_75 ?_
              refine lv_iand G.1 G.2.1 d_Cw_othersDo_76 ?_
              refine lv_istore_n (lv' := [(3, .int (x3j64 &&& (x_3 ^^^ (-1)))), (4, .int z0j64), (0, .ref (ad a0)), (1, .int x1j64), (2, .int x2j64), (5, .int x5j64)]) G.1 G.2.1 d_Cw_othersDo_77 rfl hl (by decide) rfl (fun ls hl => ?_)
              exact J_78 s_j64 x1j64 x2j64 (x3j64 &&& (x_3 ^^^ (-1))) z0j64 x5j64 H locs h hP hD hS ls (lv_sub hl [2, 3, 4, 0, 1, 5] rfl)
            have J_59 : ∀ (s_j59 : St) (x1j59 : Int32) (x2j59 : Int32) (x3j59 : Int32) (x5j59 : Int32) (H : Heap) (locs : List Loc), wj_Cw_othersDo_59 y Post K_28 a0 s_j59 x1j59 x2j59 x3j59 x5j59 → va_P D CL (ws g ad y s_j59) H → va_D A (ws g ad y s_j59) → va_S A s.heap H locs → ∀ ls, lv_has ls 6 [(0, .ref (ad a0)), (1, .int x1j59), (2, .int x2j59), (3, .int x3j59), (5, .int x5j59)] → W p l e ru_Cw_othersDo s m args below meth c H locs 0 0 Q (F0 m 59 ls []) := by
              intro s_j59 x1j59 x2j59 x3j59 x5j59 H locs h hP hD hS ls hl
              unfold wj_Cw_othersDo_59 at h
              refine lv_iconst (v := 1) G.1 G.2.1 d_Cw_othersDo_59 (by decide) ?_
              refine lv_goto (tgt := 64) G.1 G.2.1 d_Cw_othersDo_60 (by decide) ?_
              exact J_64 s_j59 x1j59 x2j59 x3j59 x5j59 1 H locs h hP hD hS ls (lv_sub hl [0, 1, 2, 3, 4] rfl)
            refine lv_if_ne (tgt := 59) G.1 G.2.1 d_Cw_othersDo_45 (by decide) (fun c45 => ?_) (fun c45 => ?_)
            · skip
              have h := h.1 c45
              exact J_59 s_h28 x1h28 x2h28 x3h28 x5h28 H locs h hP hD hS ls (lv_sub hl [0, 1, 2, 3, 5] rfl)
            · skip
              have h := h.2 c45
              refine lv_aload_n G.1 G.2.1 d_Cw_othersDo_48 rfl (lv_at hl 0 rfl) ?_
              refine ugf (v := .ref (yP y a0 12)) G hP h_a0 iCw rfl 12 (by decide) rfl q1146 rfl rfl d_Cw_othersDo_49 ?_
              refine W.eq (g2 := F0 m 52 ls [.ref (yP y a0 12)]) rfl ?_
              refine lv_iload G.1 G.2.1 d_Cw_othersDo_52 (lv_at hl 5 rfl) ?_
              refine uiald G hP (kdp h_a0 rfl) (typ h_a0 rfl) h d_Cw_othersDo_54 (fun x_4 h => ?_)
              refine lv_iload_n G.1 G.2.1 d_Cw_othersDo_55 rfl (lv_at hl 2 rfl) ?_
              refine lv_icmp_ne (tgt := 63) G.1 G.2.1 d_Cw_othersDo_56 (by decide) (fun c56 => ?_) (fun c56 => ?_)
              · skip
                have h := h.1 c56
                refine lv_iconst (v := 0) G.1 G.2.1 d_Cw_othersDo_63 (by decide) ?_
                exact J_64 s_h28 x1h28 x2h28 x3h28 x5h28 0 H locs h hP hD hS ls (lv_sub hl [0, 1, 2, 3, 5] rfl)
              · skip
                have h := h.2 c56
                exact J_59 s_h28 x1h28 x2h28 x3h28 x5h28 H locs h hP hD hS ls (lv_sub hl [0, 1, 2, 3, 5] rfl)
    exact L_28 _ s_j23 x1j23 x2j23 x3j23 z0j23 0 (Nat.lt_succ_self _) hI_28 H locs hP hD hS ls (lv_sub hl [2, 3, 4, 5, 1, 0] rfl)
  refine W.eq (g2 := F0 m 15 ls [.int x_1]) rfl ?_
  refine lv_if_ne (tgt := 22) G.1 G.2.1 d_Cw_othersDo_15 (by decide) (fun c15 => ?_) (fun c15 => ?_)
  · skip
    have h := h.1 c15
    refine lv_iconst (v := 0) G.1 G.2.1 d_Cw_othersDo_22 (by decide) ?_
    exact J_23 σ v1 x_1 x_2 0 H locs h hP hD hS ls (lv_sub hl [2, 3, 1, 0] rfl)
  · skip
    have h := h.2 c15
    refine lv_iconst (v := 1) G.1 G.2.1 d_Cw_othersDo_18 (by decide) ?_
    refine lv_goto (tgt := 23) G.1 G.2.1 d_Cw_othersDo_19 (by decide) ?_
    exact J_23 σ v1 x_1 x_2 1 H locs h hP hD hS ls (lv_sub hl [2, 3, 1, 0] rfl)
def y_Cw_remove : MethodName := ⟨"ClassWorks", "remove", "(I)V"⟩
abbrev b_Cw_remove : ByteArray := prog_1_method_64_code
theorem d_Cw_remove_0 : decode b_Cw_remove 0 = .ok (.iload_n 1, 1) := by decide +kernel
theorem d_Cw_remove_1 : decode b_Cw_remove 1 = .ok (.istore_n 2, 1) := by decide +kernel
theorem d_Cw_remove_2 : decode b_Cw_remove 2 = .ok (.iload_n 2, 1) := by decide +kernel
theorem d_Cw_remove_3 : decode b_Cw_remove 3 = .ok (.aload_n 0, 1) := by decide +kernel
theorem d_Cw_remove_4 : decode b_Cw_remove 4 = .ok (.getfield 46, 3) := by decide +kernel
theorem d_Cw_remove_7 : decode b_Cw_remove 7 = .ok (.iconst 1, 1) := by decide +kernel
theorem d_Cw_remove_8 : decode b_Cw_remove 8 = .ok (.isub, 1) := by decide +kernel
theorem d_Cw_remove_9 : decode b_Cw_remove 9 = .ok (.if_icmp .ge 82, 3) := by decide +kernel
theorem d_Cw_remove_12 : decode b_Cw_remove 12 = .ok (.aload_n 0, 1) := by decide +kernel
theorem d_Cw_remove_13 : decode b_Cw_remove 13 = .ok (.getfield 33, 3) := by decide +kernel
theorem d_Cw_remove_16 : decode b_Cw_remove 16 = .ok (.iload_n 2, 1) := by decide +kernel
theorem d_Cw_remove_17 : decode b_Cw_remove 17 = .ok (.iconst 1, 1) := by decide +kernel
theorem d_Cw_remove_18 : decode b_Cw_remove 18 = .ok (.iadd, 1) := by decide +kernel
theorem d_Cw_remove_19 : decode b_Cw_remove 19 = .ok (.sipush 1204, 3) := by decide +kernel
theorem d_Cw_remove_22 : decode b_Cw_remove 22 = .ok (.imul, 1) := by decide +kernel
theorem d_Cw_remove_23 : decode b_Cw_remove 23 = .ok (.aload_n 0, 1) := by decide +kernel
theorem d_Cw_remove_24 : decode b_Cw_remove 24 = .ok (.getfield 33, 3) := by decide +kernel
theorem d_Cw_remove_27 : decode b_Cw_remove 27 = .ok (.iload_n 2, 1) := by decide +kernel
theorem d_Cw_remove_28 : decode b_Cw_remove 28 = .ok (.sipush 1204, 3) := by decide +kernel
theorem d_Cw_remove_31 : decode b_Cw_remove 31 = .ok (.imul, 1) := by decide +kernel
theorem d_Cw_remove_32 : decode b_Cw_remove 32 = .ok (.aload_n 0, 1) := by decide +kernel
theorem d_Cw_remove_33 : decode b_Cw_remove 33 = .ok (.getfield 36, 3) := by decide +kernel
theorem d_Cw_remove_36 : decode b_Cw_remove 36 = .ok (.iload_n 2, 1) := by decide +kernel
theorem d_Cw_remove_37 : decode b_Cw_remove 37 = .ok (.iconst 1, 1) := by decide +kernel
theorem d_Cw_remove_38 : decode b_Cw_remove 38 = .ok (.iadd, 1) := by decide +kernel
theorem d_Cw_remove_39 : decode b_Cw_remove 39 = .ok (.iaload, 1) := by decide +kernel
theorem d_Cw_remove_40 : decode b_Cw_remove 40 = .ok (.invokestatic 450, 3) := by decide +kernel
theorem d_Cw_remove_43 : decode b_Cw_remove 43 = .ok (.aload_n 0, 1) := by decide +kernel
theorem d_Cw_remove_44 : decode b_Cw_remove 44 = .ok (.getfield 36, 3) := by decide +kernel
theorem d_Cw_remove_47 : decode b_Cw_remove 47 = .ok (.iload_n 2, 1) := by decide +kernel
theorem d_Cw_remove_48 : decode b_Cw_remove 48 = .ok (.aload_n 0, 1) := by decide +kernel
theorem d_Cw_remove_49 : decode b_Cw_remove 49 = .ok (.getfield 36, 3) := by decide +kernel
theorem d_Cw_remove_52 : decode b_Cw_remove 52 = .ok (.iload_n 2, 1) := by decide +kernel
theorem d_Cw_remove_53 : decode b_Cw_remove 53 = .ok (.iconst 1, 1) := by decide +kernel
theorem d_Cw_remove_54 : decode b_Cw_remove 54 = .ok (.iadd, 1) := by decide +kernel
theorem d_Cw_remove_55 : decode b_Cw_remove 55 = .ok (.iaload, 1) := by decide +kernel
theorem d_Cw_remove_56 : decode b_Cw_remove 56 = .ok (.iastore, 1) := by decide +kernel
theorem d_Cw_remove_57 : decode b_Cw_remove 57 = .ok (.aload_n 0, 1) := by decide +kernel
theorem d_Cw_remove_58 : decode b_Cw_remove 58 = .ok (.getfield 40, 3) := by decide +kernel
theorem d_Cw_remove_61 : decode b_Cw_remove 61 = .ok (.iload_n 2, 1) := by decide +kernel
theorem d_Cw_remove_62 : decode b_Cw_remove 62 = .ok (.aload_n 0, 1) := by decide +kernel
theorem d_Cw_remove_63 : decode b_Cw_remove 63 = .ok (.getfield 40, 3) := by decide +kernel
theorem d_Cw_remove_66 : decode b_Cw_remove 66 = .ok (.iload_n 2, 1) := by decide +kernel
theorem d_Cw_remove_67 : decode b_Cw_remove 67 = .ok (.iconst 1, 1) := by decide +kernel
theorem d_Cw_remove_68 : decode b_Cw_remove 68 = .ok (.iadd, 1) := by decide +kernel
theorem d_Cw_remove_69 : decode b_Cw_remove 69 = .ok (.iaload, 1) := by decide +kernel
theorem d_Cw_remove_70 : decode b_Cw_remove 70 = .ok (.iastore, 1) := by decide +kernel
theorem d_Cw_remove_71 : decode b_Cw_remove 71 = .ok (.aload_n 0, 1) := by decide +kernel
theorem d_Cw_remove_72 : decode b_Cw_remove 72 = .ok (.getfield 43, 3) := by decide +kernel
theorem d_Cw_remove_75 : decode b_Cw_remove 75 = .ok (.iload_n 2, 1) := by decide +kernel
theorem d_Cw_remove_76 : decode b_Cw_remove 76 = .ok (.aload_n 0, 1) := by decide +kernel
theorem d_Cw_remove_77 : decode b_Cw_remove 77 = .ok (.getfield 43, 3) := by decide +kernel
theorem d_Cw_remove_80 : decode b_Cw_remove 80 = .ok (.iload_n 2, 1) := by decide +kernel
theorem d_Cw_remove_81 : decode b_Cw_remove 81 = .ok (.iconst 1, 1) := by decide +kernel
theorem d_Cw_remove_82 : decode b_Cw_remove 82 = .ok (.iadd, 1) := by decide +kernel
theorem d_Cw_remove_83 : decode b_Cw_remove 83 = .ok (.iaload, 1) := by decide +kernel
theorem d_Cw_remove_84 : decode b_Cw_remove 84 = .ok (.iastore, 1) := by decide +kernel
theorem d_Cw_remove_85 : decode b_Cw_remove 85 = .ok (.iinc 2 1, 3) := by decide +kernel
theorem d_Cw_remove_88 : decode b_Cw_remove 88 = .ok (.goto (-86), 3) := by decide +kernel
theorem d_Cw_remove_91 : decode b_Cw_remove 91 = .ok (.aload_n 0, 1) := by decide +kernel
theorem d_Cw_remove_92 : decode b_Cw_remove 92 = .ok (.dup, 1) := by decide +kernel
theorem d_Cw_remove_93 : decode b_Cw_remove 93 = .ok (.getfield 46, 3) := by decide +kernel
theorem d_Cw_remove_96 : decode b_Cw_remove 96 = .ok (.iconst 1, 1) := by decide +kernel
theorem d_Cw_remove_97 : decode b_Cw_remove 97 = .ok (.isub, 1) := by decide +kernel
theorem d_Cw_remove_98 : decode b_Cw_remove 98 = .ok (.putfield 46, 3) := by decide +kernel
theorem d_Cw_remove_101 : decode b_Cw_remove 101 = .ok (.return_, 1) := by decide +kernel
abbrev ru_Cw_remove : Room := { frames := 1, cells := 0, slots := 0, locals := 120 }
def wb_Cw_remove_2 (y : Ly) (Post : St → Prop) (K_2 : St → Int32 → Prop) (a0 : Nat) (s_h2 : St) (x2h2 : Int32) : Prop := ((((sV s_h2 a0 14) - 1) ≤ x2h2 → xP (uV s_h2 a0 14 ((sV s_h2 a0 14) - 1)) (fun s_1 : St => Post s_1)) ∧ (¬ (((sV s_h2 a0 14) - 1) ≤ x2h2) → xA y s_h2 a0 11 (x2h2 + 1) (fun x_2 : Int32 => xC y s_h2 a0 10 a0 10 .byte ((x2h2 + 1) * 1204) (x2h2 * 1204) x_2 (fun s_3 : St => xA y s_3 a0 11 (x2h2 + 1) (fun x_4 : Int32 => xS y s_3 a0 11 x2h2 x_4 (fun s_5 : St => xA y s_5 a0 12 (x2h2 + 1) (fun x_6 : Int32 => xS y s_5 a0 12 x2h2 x_6 (fun s_7 : St => xA y s_7 a0 13 (x2h2 + 1) (fun x_8 : Int32 => xS y s_7 a0 13 x2h2 x_8 (fun s_9 : St => K_2 s_9 (x2h2 + 1)))))))))))
def wl_Cw_remove_2 (y : Ly) (Post : St → Prop) (a0 : Nat) (s_h2 : St) (x2h2 : Int32) : Prop := ∃ (I : St → Int32 → Prop) (μ : St → Int32 → Nat), I s_h2 x2h2 ∧ ∀ (u : St) (t0 : Int32), I u t0 → wb_Cw_remove_2 y Post (fun z t0q => I z t0q ∧ μ z t0q < μ u t0) a0 u t0
def wu_Cw_remove (y : Ly) (Post : St → Prop) (σ : St) (a0 : Nat) (v1 : Int32) : Prop := wl_Cw_remove_2 y Post a0 σ v1
set_option maxHeartbeats 4000000 in
set_option maxRecDepth 100000 in
theorem cu_Cw_remove (l : Launch) (D : va_G) (g : Nat → ClassId) (ad : Nat → Nat) (y : Ly) (Post : St → Prop) (σ : St) (a0 : Nat) (v1 : Int32) (sz : Nat) (h_a0 : cl a0 = 11) (h : wu_Cw_remove y Post σ a0 v1) : Met l y_Cw_remove (mw y_Cw_remove b_Cw_remove 3 (none)) ru_Cw_remove (PC g D [] [.ref (ad a0), .int v1] sz (ws g ad y σ)) (va_Qv (fun u : St => Post u) (QW D (va_A (ws g ad y σ) sz) (fun u => ws g ad y u)) (va_A (ws g ad y σ) sz)) 0 0 (va_A (ws g ad y σ) sz) := by
  refine ofV (by decide +kernel) (Nat.le_of_ble_eq_true rfl) ?_
  intro p e s m args below meth c A Q ls H locs G hsz hP hD hS hl hret
  subst hsz
  have hl : lv_has ls 3 [(0, .ref (ad a0)), (1, .int v1)] := hl
  unfold wu_Cw_remove at h
  refine lv_iload_n G.1 G.2.1 d_Cw_remove_0 rfl (lv_at hl 1 rfl) ?_
  refine lv_istore_n (lv' := [(2, .int v1), (0, .ref (ad a0)), (1, .int v1)]) G.1 G.2.1 d_Cw_remove_1 rfl hl (by decide) rfl (fun ls hl => ?_)
  unfold wl_Cw_remove_2 at h
  obtain ⟨I_2, μ_2, hI_2, hB_2⟩ := h
  have L_2 : ∀ (n_2 : Nat) (s_h2 : St) (x2h2 : Int32), μ_2 s_h2 x2h2 < n_2 → I_2 s_h2 x2h2 → ∀ (H : Heap) (locs : List Loc), va_P D CL (ws g ad y s_h2) H → va_D A (ws g ad y s_h2) → va_S A s.heap H locs → ∀ ls, lv_has ls 3 [(0, .ref (ad a0)), (2, .int x2h2)] → W p l e ru_Cw_remove s m args below meth c H locs 0 0 Q (F0 m 2 ls []) := by
    intro n_2
    induction n_2 with
    | zero => intro s_h2 x2h2 hμ; exact absurd hμ (Nat.not_lt_zero _)
    | succ n_2 ih_2 =>
      intro s_h2 x2h2 hμ_2 hJ H locs hP hD hS ls hl
      obtain ⟨K_2, hK_2, h⟩ : ∃ K : St → Int32 → Prop, (∀ z (t0 : Int32), K z t0 → I_2 z t0 ∧ μ_2 z t0 < μ_2 s_h2 x2h2) ∧ wb_Cw_remove_2 y Post K a0 s_h2 x2h2 := ⟨_, fun _ _ h => h, hB_2 s_h2 x2h2 hJ⟩
      unfold wb_Cw_remove_2 at h
      refine lv_iload_n G.1 G.2.1 d_Cw_remove_2 rfl (lv_at hl 1 rfl) ?_
      refine lv_aload_n G.1 G.2.1 d_Cw_remove_3 rfl (lv_at hl 0 rfl) ?_
      refine ugf (v := .int (sV s_h2 a0 14)) G hP h_a0 iCw rfl 14 (by decide) rfl q1148 rfl rfl d_Cw_remove_4 ?_
      refine lv_iconst (v := 1) G.1 G.2.1 d_Cw_remove_7 (by decide) ?_
      refine lv_isub G.1 G.2.1 d_Cw_remove_8 ?_
      refine lv_icmp_ge (tgt := 91) G.1 G.2.1 d_Cw_remove_9 (by decide) (fun c9 => ?_) (fun c9 => ?_)
      · skip
        have h := h.1 c9
        refine lv_aload_n G.1 G.2.1 d_Cw_remove_91 rfl (lv_at hl 0 rfl) ?_
        refine lv_dup G.1 G.2.1 d_Cw_remove_92 rfl ?_
        refine ugf (v := .int (sV s_h2 a0 14)) G hP h_a0 iCw rfl 14 (by decide) rfl q1148 rfl rfl d_Cw_remove_93 ?_
        refine lv_iconst (v := 1) G.1 G.2.1 d_Cw_remove_96 (by decide) ?_
        refine lv_isub G.1 G.2.1 d_Cw_remove_97 ?_
        refine W.eq (g2 := F0 m 98 ls [.int ((sV s_h2 a0 14) - 1), .ref (ad a0)]) rfl ?_
        refine upf G hP hD hS h 14 putV h_a0 iCw tCw tCw_ok nCw rfl (by decide) rfl q1148 rfl rfl fV rfl rfl d_Cw_remove_98 (fun s_1 H locs h hP hD hS => ?_)
        exact hret _ _ _ _ _ _ ls h hP hD hS (Nat.le_refl _) (Nat.le_refl _) d_Cw_remove_101
      · skip
        have h := h.2 c9
        refine lv_aload_n G.1 G.2.1 d_Cw_remove_12 rfl (lv_at hl 0 rfl) ?_
        refine ugf (v := .ref (yP y a0 10)) G hP h_a0 iCw rfl 10 (by decide) rfl q1144 rfl rfl d_Cw_remove_13 ?_
        refine lv_iload_n G.1 G.2.1 d_Cw_remove_16 rfl (lv_at hl 1 rfl) ?_
        refine lv_iconst (v := 1) G.1 G.2.1 d_Cw_remove_17 (by decide) ?_
        refine lv_iadd G.1 G.2.1 d_Cw_remove_18 ?_
        refine W.eq (g2 := F0 m 19 ls [.int (x2h2 + 1), .ref (yP y a0 10)]) rfl ?_
        refine lv_sipush (v := 1204) G.1 G.2.1 d_Cw_remove_19 (by decide) ?_
        refine lv_imul G.1 G.2.1 d_Cw_remove_22 ?_
        refine lv_aload_n G.1 G.2.1 d_Cw_remove_23 rfl (lv_at hl 0 rfl) ?_
        refine ugf (v := .ref (yP y a0 10)) G hP h_a0 iCw rfl 10 (by decide) rfl q1144 rfl rfl d_Cw_remove_24 ?_
        refine lv_iload_n G.1 G.2.1 d_Cw_remove_27 rfl (lv_at hl 1 rfl) ?_
        refine lv_sipush (v := 1204) G.1 G.2.1 d_Cw_remove_28 (by decide) ?_
        refine lv_imul G.1 G.2.1 d_Cw_remove_31 ?_
        refine lv_aload_n G.1 G.2.1 d_Cw_remove_32 rfl (lv_at hl 0 rfl) ?_
        refine ugf (v := .ref (yP y a0 11)) G hP h_a0 iCw rfl 11 (by decide) rfl q1145 rfl rfl d_Cw_remove_33 ?_
        refine lv_iload_n G.1 G.2.1 d_Cw_remove_36 rfl (lv_at hl 1 rfl) ?_
        refine lv_iconst (v := 1) G.1 G.2.1 d_Cw_remove_37 (by decide) ?_
        refine lv_iadd G.1 G.2.1 d_Cw_remove_38 ?_
        refine W.eq (g2 := F0 m 39 ls [.int (x2h2 + 1), .ref (yP y a0 11), .int (x2h2 * 1204), .ref (yP y a0 10), .int ((x2h2 + 1) * 1204), .ref (yP y a0 10)]) rfl ?_
        refine uiald G hP (kdp h_a0 rfl) (typ h_a0 rfl) h d_Cw_remove_39 (fun x_2 h => ?_)
        refine ucpy G hP hD hS (kdp h_a0 rfl) (typ h_a0 rfl) (kdp h_a0 rfl) (typ h_a0 rfl) rfl rfl h hl.1 q2468 q488 q487 q338 (Nat.le_of_ble_eq_true rfl) (Nat.le_of_ble_eq_true rfl) d_Cw_remove_40 (fun s_3 H locs h hP hD hS => ?_)
        refine lv_aload_n G.1 G.2.1 d_Cw_remove_43 rfl (lv_at hl 0 rfl) ?_
        refine ugf (v := .ref (yP y a0 11)) G hP h_a0 iCw rfl 11 (by decide) rfl q1145 rfl rfl d_Cw_remove_44 ?_
        refine lv_iload_n G.1 G.2.1 d_Cw_remove_47 rfl (lv_at hl 1 rfl) ?_
        refine lv_aload_n G.1 G.2.1 d_Cw_remove_48 rfl (lv_at hl 0 rfl) ?_
        refine ugf (v := .ref (yP y a0 11)) G hP h_a0 iCw rfl 11 (by decide) rfl q1145 rfl rfl d_Cw_remove_49 ?_
        refine lv_iload_n G.1 G.2.1 d_Cw_remove_52 rfl (lv_at hl 1 rfl) ?_
        refine lv_iconst (v := 1) G.1 G.2.1 d_Cw_remove_53 (by decide) ?_
        refine lv_iadd G.1 G.2.1 d_Cw_remove_54 ?_
        refine uiald G hP (kdp h_a0 rfl) (typ h_a0 rfl) h d_Cw_remove_55 (fun x_4 h => ?_)
        refine uiast G hP hD hS (kdp h_a0 rfl) (typ h_a0 rfl) h d_Cw_remove_56 (fun s_5 H locs h hP hD hS => ?_)
        refine W.eq (g2 := F0 m 57 ls []) rfl ?_
        refine lv_aload_n G.1 G.2.1 d_Cw_remove_57 rfl (lv_at hl 0 rfl) ?_
        refine ugf (v := .ref (yP y a0 12)) G hP h_a0 iCw rfl 12 (by decide) rfl q1146 rfl rfl d_Cw_remove_58 ?_
        refine lv_iload_n G.1 G.2.1 d_Cw_remove_61 rfl (lv_at hl 1 rfl) ?_
        refine lv_aload_n G.1 G.2.1 d_Cw_remove_62 rfl (lv_at hl 0 rfl) ?_
        refine ugf (v := .ref (yP y a0 12)) G hP h_a0 iCw rfl 12 (by decide) rfl q1146 rfl rfl d_Cw_remove_63 ?_
        refine lv_iload_n G.1 G.2.1 d_Cw_remove_66 rfl (lv_at hl 1 rfl) ?_
        refine lv_iconst (v := 1) G.1 G.2.1 d_Cw_remove_67 (by decide) ?_
        refine lv_iadd G.1 G.2.1 d_Cw_remove_68 ?_
        refine uiald G hP (kdp h_a0 rfl) (typ h_a0 rfl) h d_Cw_remove_69 (fun x_6 h => ?_)
        refine uiast G hP hD hS (kdp h_a0 rfl) (typ h_a0 rfl) h d_Cw_remove_70 (fun s_7 H locs h hP hD hS => ?_)
        refine lv_aload_n G.1 G.2.1 d_Cw_remove_71 rfl (lv_at hl 0 rfl) ?_
        refine ugf (v := .ref (yP y a0 13)) G hP h_a0 iCw rfl 13 (by decide) rfl q1147 rfl rfl d_Cw_remove_72 ?_
        refine W.eq (g2 := F0 m 75 ls [.ref (yP y a0 13)]) rfl ?_
        refine lv_iload_n G.1 G.2.1 d_Cw_remove_75 rfl (lv_at hl 1 rfl) ?_
        refine lv_aload_n G.1 G.2.1 d_Cw_remove_76 rfl (lv_at hl 0 rfl) ?_
        refine ugf (v := .ref (yP y a0 13)) G hP h_a0 iCw rfl 13 (by decide) rfl q1147 rfl rfl d_Cw_remove_77 ?_
        refine lv_iload_n G.1 G.2.1 d_Cw_remove_80 rfl (lv_at hl 1 rfl) ?_
        refine lv_iconst (v := 1) G.1 G.2.1 d_Cw_remove_81 (by decide) ?_
        refine lv_iadd G.1 G.2.1 d_Cw_remove_82 ?_
        refine uiald G hP (kdp h_a0 rfl) (typ h_a0 rfl) h d_Cw_remove_83 (fun x_8 h => ?_)
        refine uiast G hP hD hS (kdp h_a0 rfl) (typ h_a0 rfl) h d_Cw_remove_84 (fun s_9 H locs h hP hD hS => ?_)
        refine lv_iinc (v := x2h2 + 1) (lv' := [(2, .int (x2h2 + 1)), (0, .ref (ad a0))]) G.1 G.2.1 d_Cw_remove_85 hl (k := 1) rfl rfl (by decide) rfl (fun ls hl => ?_)
        refine lv_goto (tgt := 2) G.1 G.2.1 d_Cw_remove_88 (by decide) ?_
        have h := hK_2 s_9 (x2h2 + 1) h
        exact ih_2 s_9 (x2h2 + 1) (Nat.lt_of_lt_of_le h.2 (Nat.le_of_lt_succ hμ_2)) h.1 H locs hP hD hS ls (lv_sub hl [1, 0] rfl)
  exact L_2 _ σ v1 (Nat.lt_succ_self _) hI_2 H locs hP hD hS ls (lv_sub hl [1, 0] rfl)
def y_Cw_takeMore : MethodName := ⟨"ClassWorks", "takeMore", "(I[I)V"⟩
abbrev b_Cw_takeMore : ByteArray := prog_1_method_67_code
theorem q1152 : Cond.fieldLink "ClassWorks" 58 "ClassWorks" "fewestFor" "[I" ∈ lw_ok := lw_okmem (List.mem_of_getElem? (i := 1152) (by decide +kernel)) rfl
theorem d_Cw_takeMore_0 : decode b_Cw_takeMore 0 = .ok (.iconst 0, 1) := by decide +kernel
theorem d_Cw_takeMore_1 : decode b_Cw_takeMore 1 = .ok (.istore_n 3, 1) := by decide +kernel
theorem d_Cw_takeMore_2 : decode b_Cw_takeMore 2 = .ok (.iload_n 3, 1) := by decide +kernel
theorem d_Cw_takeMore_3 : decode b_Cw_takeMore 3 = .ok (.sipush 255, 3) := by decide +kernel
theorem d_Cw_takeMore_6 : decode b_Cw_takeMore 6 = .ok (.if_icmp .gt 33, 3) := by decide +kernel
theorem d_Cw_takeMore_9 : decode b_Cw_takeMore 9 = .ok (.iload_n 3, 1) := by decide +kernel
theorem d_Cw_takeMore_10 : decode b_Cw_takeMore 10 = .ok (.iload_n 1, 1) := by decide +kernel
theorem d_Cw_takeMore_11 : decode b_Cw_takeMore 11 = .ok (.ior, 1) := by decide +kernel
theorem d_Cw_takeMore_12 : decode b_Cw_takeMore 12 = .ok (.istore 4, 2) := by decide +kernel
theorem d_Cw_takeMore_14 : decode b_Cw_takeMore 14 = .ok (.aload_n 2, 1) := by decide +kernel
theorem d_Cw_takeMore_15 : decode b_Cw_takeMore 15 = .ok (.iload 4, 2) := by decide +kernel
theorem d_Cw_takeMore_17 : decode b_Cw_takeMore 17 = .ok (.aload_n 2, 1) := by decide +kernel
theorem d_Cw_takeMore_18 : decode b_Cw_takeMore 18 = .ok (.iload 4, 2) := by decide +kernel
theorem d_Cw_takeMore_20 : decode b_Cw_takeMore 20 = .ok (.iaload, 1) := by decide +kernel
theorem d_Cw_takeMore_21 : decode b_Cw_takeMore 21 = .ok (.aload_n 0, 1) := by decide +kernel
theorem d_Cw_takeMore_22 : decode b_Cw_takeMore 22 = .ok (.getfield 58, 3) := by decide +kernel
theorem d_Cw_takeMore_25 : decode b_Cw_takeMore 25 = .ok (.iload_n 3, 1) := by decide +kernel
theorem d_Cw_takeMore_26 : decode b_Cw_takeMore 26 = .ok (.iaload, 1) := by decide +kernel
theorem d_Cw_takeMore_27 : decode b_Cw_takeMore 27 = .ok (.iconst 1, 1) := by decide +kernel
theorem d_Cw_takeMore_28 : decode b_Cw_takeMore 28 = .ok (.iadd, 1) := by decide +kernel
theorem d_Cw_takeMore_29 : decode b_Cw_takeMore 29 = .ok (.invokestatic 185, 3) := by decide +kernel
theorem d_Cw_takeMore_32 : decode b_Cw_takeMore 32 = .ok (.iastore, 1) := by decide +kernel
theorem d_Cw_takeMore_33 : decode b_Cw_takeMore 33 = .ok (.iinc 3 1, 3) := by decide +kernel
theorem d_Cw_takeMore_36 : decode b_Cw_takeMore 36 = .ok (.goto (-34), 3) := by decide +kernel
theorem d_Cw_takeMore_39 : decode b_Cw_takeMore 39 = .ok (.return_, 1) := by decide +kernel
abbrev ru_Cw_takeMore : Room := { frames := 1, cells := 0, slots := 0, locals := 30 }
def wb_Cw_takeMore_2 (y : Ly) (Post : St → Prop) (K_2 : St → Int32 → Int32 → Prop) (a0 : Nat) (a2 : Nat) (k2 : Nat) (s_h2 : St) (x1h2 : Int32) (x3h2 : Int32) : Prop := ((255 < x3h2 → Post s_h2) ∧ (¬ (255 < x3h2) → xA y s_h2 a2 k2 (x3h2 ||| x1h2) (fun x_1 : Int32 => xA y s_h2 a0 18 x3h2 (fun x_2 : Int32 => xS y s_h2 a2 k2 (x3h2 ||| x1h2) (if (x_2 + 1) < x_1 then (x_2 + 1) else x_1) (fun s_3 : St => K_2 s_3 x1h2 (x3h2 + 1))))))
def wl_Cw_takeMore_2 (y : Ly) (Post : St → Prop) (a0 : Nat) (a2 : Nat) (k2 : Nat) (s_h2 : St) (x1h2 : Int32) (x3h2 : Int32) : Prop := ∃ (I : St → Int32 → Int32 → Prop) (μ : St → Int32 → Int32 → Nat), I s_h2 x1h2 x3h2 ∧ ∀ (u : St) (t0 : Int32) (t1 : Int32), I u t0 t1 → wb_Cw_takeMore_2 y Post (fun z t0q t1q => I z t0q t1q ∧ μ z t0q t1q < μ u t0 t1) a0 a2 k2 u t0 t1
def wu_Cw_takeMore (y : Ly) (Post : St → Prop) (σ : St) (a0 : Nat) (v1 : Int32) (a2 : Nat) (k2 : Nat) : Prop := wl_Cw_takeMore_2 y Post a0 a2 k2 σ v1 0
set_option maxHeartbeats 4000000 in
set_option maxRecDepth 100000 in
theorem cu_Cw_takeMore (l : Launch) (D : va_G) (g : Nat → ClassId) (ad : Nat → Nat) (y : Ly) (Post : St → Prop) (σ : St) (a0 : Nat) (v1 : Int32) (a2 : Nat) (k2 : Nat) (sz : Nat) (h_a0 : cl a0 = 11) (h_a2 : kd (cl a2) k2 = 2 ∧ tyx (cl a2) k2 = 0) (h : wu_Cw_takeMore y Post σ a0 v1 a2 k2) : Met l y_Cw_takeMore (mw y_Cw_takeMore b_Cw_takeMore 5 (none)) ru_Cw_takeMore (PC g D [] [.ref (ad a0), .int v1, .ref (yP y a2 k2)] sz (ws g ad y σ)) (va_Qv (fun u : St => Post u) (QW D (va_A (ws g ad y σ) sz) (fun u => ws g ad y u)) (va_A (ws g ad y σ) sz)) 0 0 (va_A (ws g ad y σ) sz) := by
  refine ofV (by decide +kernel) (Nat.le_of_ble_eq_true rfl) ?_
  intro p e s m args below meth c A Q ls H locs G hsz hP hD hS hl hret
  subst hsz
  have hl : lv_has ls 5 [(0, .ref (ad a0)), (1, .int v1), (2, .ref (yP y a2 k2))] := hl
  unfold wu_Cw_takeMore at h
  refine lv_iconst (v := 0) G.1 G.2.1 d_Cw_takeMore_0 (by decide) ?_
  refine lv_istore_n (lv' := [(3, .int 0), (0, .ref (ad a0)), (1, .int v1), (2, .ref (yP y a2 k2))]) G.1 G.2.1 d_Cw_takeMore_1 rfl hl (by decide) rfl (fun ls hl => ?_)
  unfold wl_Cw_takeMore_2 at h
  obtain ⟨I_2, μ_2, hI_2, hB_2⟩ := h
  have L_2 : ∀ (n_2 : Nat) (s_h2 : St) (x1h2 : Int32) (x3h2 : Int32), μ_2 s_h2 x1h2 x3h2 < n_2 → I_2 s_h2 x1h2 x3h2 → ∀ (H : Heap) (locs : List Loc), va_P D CL (ws g ad y s_h2) H → va_D A (ws g ad y s_h2) → va_S A s.heap H locs → ∀ ls, lv_has ls 5 [(0, .ref (ad a0)), (1, .int x1h2), (2, .ref (yP y a2 k2)), (3, .int x3h2)] → W p l e ru_Cw_takeMore s m args below meth c H locs 0 0 Q (F0 m 2 ls []) := by
    intro n_2
    induction n_2 with
    | zero => intro s_h2 x1h2 x3h2 hμ; exact absurd hμ (Nat.not_lt_zero _)
    | succ n_2 ih_2 =>
      intro s_h2 x1h2 x3h2 hμ_2 hJ H locs hP hD hS ls hl
      obtain ⟨K_2, hK_2, h⟩ : ∃ K : St → Int32 → Int32 → Prop, (∀ z (t0 : Int32) (t1 : Int32), K z t0 t1 → I_2 z t0 t1 ∧ μ_2 z t0 t1 < μ_2 s_h2 x1h2 x3h2) ∧ wb_Cw_takeMore_2 y Post K a0 a2 k2 s_h2 x1h2 x3h2 := ⟨_, fun _ _ _ h => h, hB_2 s_h2 x1h2 x3h2 hJ⟩
      unfold wb_Cw_takeMore_2 at h
      refine lv_iload_n G.1 G.2.1 d_Cw_takeMore_2 rfl (lv_at hl 3 rfl) ?_
      refine lv_sipush (v := 255) G.1 G.2.1 d_Cw_takeMore_3 (by decide) ?_
      refine lv_icmp_gt (tgt := 39) G.1 G.2.1 d_Cw_takeMore_6 (by decide) (fun c6 => ?_) (fun c6 => ?_)
      · skip
        have h := h.1 c6
        exact hret _ _ _ _ _ _ ls h hP hD hS (Nat.le_refl _) (Nat.le_refl _) d_Cw_takeMore_39
      · skip
        have h := h.2 c6
        refine lv_iload_n G.1 G.2.1 d_Cw_takeMore_9 rfl (lv_at hl 3 rfl) ?_
        refine lv_iload_n G.1 G.2.1 d_Cw_takeMore_10 rfl (lv_at hl 1 rfl) ?_
        refine lv_ior G.1 G.2.1 d_Cw_takeMore_11 ?_
        refine lv_istore (lv' := [(4, .int (x3h2 ||| x1h2)), (0, .ref (ad a0)), (1, .int x1h2), (2, .ref (yP y a2 k2)), (3, .int x3h2)]) G.1 G.2.1 d_Cw_takeMore_12 hl (by decide) rfl (fun ls hl => ?_)
        refine lv_aload_n G.1 G.2.1 d_Cw_takeMore_14 rfl (lv_at hl 3 rfl) ?_
        refine lv_iload G.1 G.2.1 d_Cw_takeMore_15 (lv_at hl 0 rfl) ?_
        refine lv_aload_n G.1 G.2.1 d_Cw_takeMore_17 rfl (lv_at hl 3 rfl) ?_
        refine lv_iload G.1 G.2.1 d_Cw_takeMore_18 (lv_at hl 0 rfl) ?_
        refine W.eq (g2 := F0 m 20 ls [.int (x3h2 ||| x1h2), .ref (yP y a2 k2), .int (x3h2 ||| x1h2), .ref (yP y a2 k2)]) rfl ?_
        refine uiald G hP h_a2.1 h_a2.2 h d_Cw_takeMore_20 (fun x_1 h => ?_)
        refine lv_aload_n G.1 G.2.1 d_Cw_takeMore_21 rfl (lv_at hl 1 rfl) ?_
        refine ugf (v := .ref (yP y a0 18)) G hP h_a0 iCw rfl 18 (by decide) rfl q1152 rfl rfl d_Cw_takeMore_22 ?_
        refine lv_iload_n G.1 G.2.1 d_Cw_takeMore_25 rfl (lv_at hl 4 rfl) ?_
        refine uiald G hP (kdp h_a0 rfl) (typ h_a0 rfl) h d_Cw_takeMore_26 (fun x_2 h => ?_)
        refine lv_iconst (v := 1) G.1 G.2.1 d_Cw_takeMore_27 (by decide) ?_
        refine lv_iadd G.1 G.2.1 d_Cw_takeMore_28 ?_
        refine va_mmin G.1 G.2.1 (G.2.2.1.trans hl.1.symm) G.2.2.2.2.2.2.1 (G.2.2.2.2.2.1 _ q1523) (G.2.2.2.2.2.1 _ q484) (G.2.2.2.2.2.1 _ q337) (G.2.2.2.2.2.1 _ q485) (Nat.le_of_ble_eq_true rfl) (Nat.le_of_ble_eq_true rfl) (Nat.zero_le _) (Nat.zero_le _) d_Cw_takeMore_29 ?_
        refine uiast G hP hD hS h_a2.1 h_a2.2 h d_Cw_takeMore_32 (fun s_3 H locs h hP hD hS => ?_)
        refine lv_iinc (v := x3h2 + 1) (lv' := [(3, .int (x3h2 + 1)), (4, .int (x3h2 ||| x1h2)), (0, .ref (ad a0)), (1, .int x1h2), (2, .ref (yP y a2 k2))]) G.1 G.2.1 d_Cw_takeMore_33 hl (k := 4) rfl rfl (by decide) rfl (fun ls hl => ?_)
        refine lv_goto (tgt := 2) G.1 G.2.1 d_Cw_takeMore_36 (by decide) ?_
        have h := hK_2 s_3 x1h2 (x3h2 + 1) h
        exact ih_2 s_3 x1h2 (x3h2 + 1) (Nat.lt_of_lt_of_le h.2 (Nat.le_of_lt_succ hμ_2)) h.1 H locs hP hD hS ls (lv_sub hl [2, 3, 4, 0] rfl)
  exact L_2 _ σ v1 0 (Nat.lt_succ_self _) hI_2 H locs hP hD hS ls (lv_sub hl [1, 2, 3, 0] rfl)
def y_Cw_lineCount : MethodName := ⟨"ClassWorks", "lineCount", "(I)I"⟩
abbrev b_Cw_lineCount : ByteArray := prog_1_method_50_code
theorem d_Cw_lineCount_0 : decode b_Cw_lineCount 0 = .ok (.iconst 0, 1) := by decide +kernel
theorem d_Cw_lineCount_1 : decode b_Cw_lineCount 1 = .ok (.istore_n 2, 1) := by decide +kernel
theorem d_Cw_lineCount_2 : decode b_Cw_lineCount 2 = .ok (.iload_n 1, 1) := by decide +kernel
theorem d_Cw_lineCount_3 : decode b_Cw_lineCount 3 = .ok (.sipush 1204, 3) := by decide +kernel
theorem d_Cw_lineCount_6 : decode b_Cw_lineCount 6 = .ok (.imul, 1) := by decide +kernel
theorem d_Cw_lineCount_7 : decode b_Cw_lineCount 7 = .ok (.istore_n 3, 1) := by decide +kernel
theorem d_Cw_lineCount_8 : decode b_Cw_lineCount 8 = .ok (.iload_n 3, 1) := by decide +kernel
theorem d_Cw_lineCount_9 : decode b_Cw_lineCount 9 = .ok (.istore 4, 2) := by decide +kernel
theorem d_Cw_lineCount_11 : decode b_Cw_lineCount 11 = .ok (.iload 4, 2) := by decide +kernel
theorem d_Cw_lineCount_13 : decode b_Cw_lineCount 13 = .ok (.iload_n 3, 1) := by decide +kernel
theorem d_Cw_lineCount_14 : decode b_Cw_lineCount 14 = .ok (.aload_n 0, 1) := by decide +kernel
theorem d_Cw_lineCount_15 : decode b_Cw_lineCount 15 = .ok (.getfield 36, 3) := by decide +kernel
theorem d_Cw_lineCount_18 : decode b_Cw_lineCount 18 = .ok (.iload_n 1, 1) := by decide +kernel
theorem d_Cw_lineCount_19 : decode b_Cw_lineCount 19 = .ok (.iaload, 1) := by decide +kernel
theorem d_Cw_lineCount_20 : decode b_Cw_lineCount 20 = .ok (.iadd, 1) := by decide +kernel
theorem d_Cw_lineCount_21 : decode b_Cw_lineCount 21 = .ok (.if_icmp .ge 24, 3) := by decide +kernel
theorem d_Cw_lineCount_24 : decode b_Cw_lineCount 24 = .ok (.aload_n 0, 1) := by decide +kernel
theorem d_Cw_lineCount_25 : decode b_Cw_lineCount 25 = .ok (.getfield 33, 3) := by decide +kernel
theorem d_Cw_lineCount_28 : decode b_Cw_lineCount 28 = .ok (.iload 4, 2) := by decide +kernel
theorem d_Cw_lineCount_30 : decode b_Cw_lineCount 30 = .ok (.baload, 1) := by decide +kernel
theorem d_Cw_lineCount_31 : decode b_Cw_lineCount 31 = .ok (.bipush 10, 2) := by decide +kernel
theorem d_Cw_lineCount_33 : decode b_Cw_lineCount 33 = .ok (.if_icmp .ne 6, 3) := by decide +kernel
theorem d_Cw_lineCount_36 : decode b_Cw_lineCount 36 = .ok (.iinc 2 1, 3) := by decide +kernel
theorem d_Cw_lineCount_39 : decode b_Cw_lineCount 39 = .ok (.iinc 4 1, 3) := by decide +kernel
theorem d_Cw_lineCount_42 : decode b_Cw_lineCount 42 = .ok (.goto (-31), 3) := by decide +kernel
theorem d_Cw_lineCount_45 : decode b_Cw_lineCount 45 = .ok (.iload_n 2, 1) := by decide +kernel
theorem d_Cw_lineCount_46 : decode b_Cw_lineCount 46 = .ok (.ireturn, 1) := by decide +kernel
abbrev ru_Cw_lineCount : Room := { frames := 0, cells := 0, slots := 0, locals := 0 }
def wj_Cw_lineCount_39 (y : Ly) (Post : St → Int32 → Prop) (K_11 : St → Int32 → Int32 → Int32 → Int32 → Prop) (a0 : Nat) (s_j39 : St) (x1j39 : Int32) (x2j39 : Int32) (x3j39 : Int32) (x4j39 : Int32) : Prop := K_11 s_j39 x1j39 x2j39 x3j39 (x4j39 + 1)
def wb_Cw_lineCount_11 (y : Ly) (Post : St → Int32 → Prop) (K_11 : St → Int32 → Int32 → Int32 → Int32 → Prop) (a0 : Nat) (s_h11 : St) (x1h11 : Int32) (x2h11 : Int32) (x3h11 : Int32) (x4h11 : Int32) : Prop := xA y s_h11 a0 11 x1h11 (fun x_1 : Int32 => (((x3h11 + x_1) ≤ x4h11 → Post s_h11 x2h11) ∧ (¬ ((x3h11 + x_1) ≤ x4h11) → xA y s_h11 a0 10 x4h11 (fun x_2 : Int32 => ((¬ x_2 = 10 → wj_Cw_lineCount_39 y Post K_11 a0 s_h11 x1h11 x2h11 x3h11 x4h11) ∧ (x_2 = 10 → wj_Cw_lineCount_39 y Post K_11 a0 s_h11 x1h11 (x2h11 + 1) x3h11 x4h11))))))
def wl_Cw_lineCount_11 (y : Ly) (Post : St → Int32 → Prop) (a0 : Nat) (s_h11 : St) (x1h11 : Int32) (x2h11 : Int32) (x3h11 : Int32) (x4h11 : Int32) : Prop := ∃ (I : St → Int32 → Int32 → Int32 → Int32 → Prop) (μ : St → Int32 → Int32 → Int32 → Int32 → Nat), I s_h11 x1h11 x2h11 x3h11 x4h11 ∧ ∀ (u : St) (t0 : Int32) (t1 : Int32) (t2 : Int32) (t3 : Int32), I u t0 t1 t2 t3 → wb_Cw_lineCount_11 y Post (fun z t0q t1q t2q t3q => I z t0q t1q t2q t3q ∧ μ z t0q t1q t2q t3q < μ u t0 t1 t2 t3) a0 u t0 t1 t2 t3
def wu_Cw_lineCount (y : Ly) (Post : St → Int32 → Prop) (σ : St) (a0 : Nat) (v1 : Int32) : Prop := wl_Cw_lineCount_11 y Post a0 σ v1 0 (v1 * 1204) (v1 * 1204)
set_option maxHeartbeats 4000000 in
set_option maxRecDepth 100000 in
theorem cu_Cw_lineCount (l : Launch) (D : va_G) (g : Nat → ClassId) (ad : Nat → Nat) (y : Ly) (Post : St → Int32 → Prop) (σ : St) (a0 : Nat) (v1 : Int32) (sz : Nat) (h_a0 : cl a0 = 11) (h : wu_Cw_lineCount y Post σ a0 v1) : Met l y_Cw_lineCount (mw y_Cw_lineCount b_Cw_lineCount 5 (some .int)) ru_Cw_lineCount (PC g D [] [.ref (ad a0), .int v1] sz (ws g ad y σ)) (va_Qi (fun (r : Int32) (u : St) => Post u r) (QW D (va_A (ws g ad y σ) sz) (fun u => ws g ad y u)) (va_A (ws g ad y σ) sz)) 0 0 (va_A (ws g ad y σ) sz) := by
  refine ofI (by decide +kernel) (Nat.le_of_ble_eq_true rfl) ?_
  intro p e s m args below meth c A Q ls H locs G hsz hP hD hS hl hret
  subst hsz
  have hl : lv_has ls 5 [(0, .ref (ad a0)), (1, .int v1)] := hl
  unfold wu_Cw_lineCount at h
  refine lv_iconst (v := 0) G.1 G.2.1 d_Cw_lineCount_0 (by decide) ?_
  refine lv_istore_n (lv' := [(2, .int 0), (0, .ref (ad a0)), (1, .int v1)]) G.1 G.2.1 d_Cw_lineCount_1 rfl hl (by decide) rfl (fun ls hl => ?_)
  refine lv_iload_n G.1 G.2.1 d_Cw_lineCount_2 rfl (lv_at hl 2 rfl) ?_
  refine lv_sipush (v := 1204) G.1 G.2.1 d_Cw_lineCount_3 (by decide) ?_
  refine lv_imul G.1 G.2.1 d_Cw_lineCount_6 ?_
  refine lv_istore_n (lv' := [(3, .int (v1 * 1204)), (2, .int 0), (0, .ref (ad a0)), (1, .int v1)]) G.1 G.2.1 d_Cw_lineCount_7 rfl hl (by decide) rfl (fun ls hl => ?_)
  refine lv_iload_n G.1 G.2.1 d_Cw_lineCount_8 rfl (lv_at hl 0 rfl) ?_
  refine lv_istore (lv' := [(4, .int (v1 * 1204)), (3, .int (v1 * 1204)), (2, .int 0), (0, .ref (ad a0)), (1, .int v1)]) G.1 G.2.1 d_Cw_lineCount_9 hl (by decide) rfl (fun ls hl => ?_)
  unfold wl_Cw_lineCount_11 at h
  obtain ⟨I_11, μ_11, hI_11, hB_11⟩ := h
  have L_11 : ∀ (n_11 : Nat) (s_h11 : St) (x1h11 : Int32) (x2h11 : Int32) (x3h11 : Int32) (x4h11 : Int32), μ_11 s_h11 x1h11 x2h11 x3h11 x4h11 < n_11 → I_11 s_h11 x1h11 x2h11 x3h11 x4h11 → ∀ (H : Heap) (locs : List Loc), va_P D CL (ws g ad y s_h11) H → va_D A (ws g ad y s_h11) → va_S A s.heap H locs → ∀ ls, lv_has ls 5 [(0, .ref (ad a0)), (1, .int x1h11), (2, .int x2h11), (3, .int x3h11), (4, .int x4h11)] → W p l e ru_Cw_lineCount s m args below meth c H locs 0 0 Q (F0 m 11 ls []) := by
    intro n_11
    induction n_11 with
    | zero => intro s_h11 x1h11 x2h11 x3h11 x4h11 hμ; exact absurd hμ (Nat.not_lt_zero _)
    | succ n_11 ih_11 =>
      intro s_h11 x1h11 x2h11 x3h11 x4h11 hμ_11 hJ H locs hP hD hS ls hl
      obtain ⟨K_11, hK_11, h⟩ : ∃ K : St → Int32 → Int32 → Int32 → Int32 → Prop, (∀ z (t0 : Int32) (t1 : Int32) (t2 : Int32) (t3 : Int32), K z t0 t1 t2 t3 → I_11 z t0 t1 t2 t3 ∧ μ_11 z t0 t1 t2 t3 < μ_11 s_h11 x1h11 x2h11 x3h11 x4h11) ∧ wb_Cw_lineCount_11 y Post K a0 s_h11 x1h11 x2h11 x3h11 x4h11 := ⟨_, fun _ _ _ _ _ h => h, hB_11 s_h11 x1h11 x2h11 x3h11 x4h11 hJ⟩
      unfold wb_Cw_lineCount_11 at h
      refine lv_iload G.1 G.2.1 d_Cw_lineCount_11 (lv_at hl 4 rfl) ?_
      refine lv_iload_n G.1 G.2.1 d_Cw_lineCount_13 rfl (lv_at hl 3 rfl) ?_
      refine lv_aload_n G.1 G.2.1 d_Cw_lineCount_14 rfl (lv_at hl 0 rfl) ?_
      refine ugf (v := .ref (yP y a0 11)) G hP h_a0 iCw rfl 11 (by decide) rfl q1145 rfl rfl d_Cw_lineCount_15 ?_
      refine lv_iload_n G.1 G.2.1 d_Cw_lineCount_18 rfl (lv_at hl 1 rfl) ?_
      refine uiald G hP (kdp h_a0 rfl) (typ h_a0 rfl) h d_Cw_lineCount_19 (fun x_1 h => ?_)
      refine lv_iadd G.1 G.2.1 d_Cw_lineCount_20 ?_
      refine lv_icmp_ge (tgt := 45) G.1 G.2.1 d_Cw_lineCount_21 (by decide) (fun c21 => ?_) (fun c21 => ?_)
      · skip
        have h := h.1 c21
        refine lv_iload_n G.1 G.2.1 d_Cw_lineCount_45 rfl (lv_at hl 2 rfl) ?_
        exact hret _ _ _ _ _ _ _ ls h hP hD hS (Nat.le_refl _) (Nat.le_refl _) d_Cw_lineCount_46
      · skip
        have h := h.2 c21
        refine lv_aload_n G.1 G.2.1 d_Cw_lineCount_24 rfl (lv_at hl 0 rfl) ?_
        refine ugf (v := .ref (yP y a0 10)) G hP h_a0 iCw rfl 10 (by decide) rfl q1144 rfl rfl d_Cw_lineCount_25 ?_
        refine lv_iload G.1 G.2.1 d_Cw_lineCount_28 (lv_at hl 4 rfl) ?_
        refine W.eq (g2 := F0 m 30 ls [.int x4h11, .ref (yP y a0 10)]) rfl ?_
        refine ubald G hP (kdp h_a0 rfl) (typ h_a0 rfl) h d_Cw_lineCount_30 (fun x_2 h => ?_)
        refine lv_bipush (v := 10) G.1 G.2.1 d_Cw_lineCount_31 (by decide) ?_
        have J_39 : ∀ (s_j39 : St) (x1j39 : Int32) (x2j39 : Int32) (x3j39 : Int32) (x4j39 : Int32) (H : Heap) (locs : List Loc), wj_Cw_lineCount_39 y Post K_11 a0 s_j39 x1j39 x2j39 x3j39 x4j39 → va_P D CL (ws g ad y s_j39) H → va_D A (ws g ad y s_j39) → va_S A s.heap H locs → ∀ ls, lv_has ls 5 [(0, .ref (ad a0)), (1, .int x1j39), (2, .int x2j39), (3, .int x3j39), (4, .int x4j39)] → W p l e ru_Cw_lineCount s m args below meth c H locs 0 0 Q (F0 m 39 ls []) := by
          intro s_j39 x1j39 x2j39 x3j39 x4j39 H locs h hP hD hS ls hl
          unfold wj_Cw_lineCount_39 at h
          refine lv_iinc (v := x4j39 + 1) (lv' := [(4, .int (x4j39 + 1)), (0, .ref (ad a0)), (1, .int x1j39), (2, .int x2j39), (3, .int x3j39)]) G.1 G.2.1 d_Cw_lineCount_39 hl (k := 4) rfl rfl (by decide) rfl (fun ls hl => ?_)
          refine lv_goto (tgt := 11) G.1 G.2.1 d_Cw_lineCount_42 (by decide) ?_
          have h := hK_11 s_j39 x1j39 x2j39 x3j39 (x4j39 + 1) h
          exact ih_11 s_j39 x1j39 x2j39 x3j39 (x4j39 + 1) (Nat.lt_of_lt_of_le h.2 (Nat.le_of_lt_succ hμ_11)) h.1 H locs hP hD hS ls (lv_sub hl [1, 2, 3, 4, 0] rfl)
        refine lv_icmp_ne (tgt := 39) G.1 G.2.1 d_Cw_lineCount_33 (by decide) (fun c33 => ?_) (fun c33 => ?_)
        · skip
          have h := h.1 c33
          exact J_39 s_h11 x1h11 x2h11 x3h11 x4h11 H locs h hP hD hS ls (lv_sub hl [0, 1, 2, 3, 4] rfl)
        · skip
          have h := h.2 c33
          refine lv_iinc (v := x2h11 + 1) (lv' := [(2, .int (x2h11 + 1)), (0, .ref (ad a0)), (1, .int x1h11), (3, .int x3h11), (4, .int x4h11)]) G.1 G.2.1 d_Cw_lineCount_36 hl (k := 2) rfl rfl (by decide) rfl (fun ls hl => ?_)
          exact J_39 s_h11 x1h11 (x2h11 + 1) x3h11 x4h11 H locs h hP hD hS ls (lv_sub hl [1, 2, 0, 3, 4] rfl)
  exact L_11 _ σ v1 0 (v1 * 1204) (v1 * 1204) (Nat.lt_succ_self _) hI_11 H locs hP hD hS ls (lv_sub hl [3, 4, 2, 1, 0] rfl)
def y_Cw_lineStart : MethodName := ⟨"ClassWorks", "lineStart", "(II)I"⟩
abbrev b_Cw_lineStart : ByteArray := prog_1_method_51_code
theorem d_Cw_lineStart_0 : decode b_Cw_lineStart 0 = .ok (.iload_n 1, 1) := by decide +kernel
theorem d_Cw_lineStart_1 : decode b_Cw_lineStart 1 = .ok (.sipush 1204, 3) := by decide +kernel
theorem d_Cw_lineStart_4 : decode b_Cw_lineStart 4 = .ok (.imul, 1) := by decide +kernel
theorem d_Cw_lineStart_5 : decode b_Cw_lineStart 5 = .ok (.istore_n 3, 1) := by decide +kernel
theorem d_Cw_lineStart_6 : decode b_Cw_lineStart 6 = .ok (.iload_n 3, 1) := by decide +kernel
theorem d_Cw_lineStart_7 : decode b_Cw_lineStart 7 = .ok (.aload_n 0, 1) := by decide +kernel
theorem d_Cw_lineStart_8 : decode b_Cw_lineStart 8 = .ok (.getfield 36, 3) := by decide +kernel
theorem d_Cw_lineStart_11 : decode b_Cw_lineStart 11 = .ok (.iload_n 1, 1) := by decide +kernel
theorem d_Cw_lineStart_12 : decode b_Cw_lineStart 12 = .ok (.iaload, 1) := by decide +kernel
theorem d_Cw_lineStart_13 : decode b_Cw_lineStart 13 = .ok (.iadd, 1) := by decide +kernel
theorem d_Cw_lineStart_14 : decode b_Cw_lineStart 14 = .ok (.istore 4, 2) := by decide +kernel
theorem d_Cw_lineStart_16 : decode b_Cw_lineStart 16 = .ok (.iconst 0, 1) := by decide +kernel
theorem d_Cw_lineStart_17 : decode b_Cw_lineStart 17 = .ok (.istore 5, 2) := by decide +kernel
theorem d_Cw_lineStart_19 : decode b_Cw_lineStart 19 = .ok (.iload 5, 2) := by decide +kernel
theorem d_Cw_lineStart_21 : decode b_Cw_lineStart 21 = .ok (.iload_n 2, 1) := by decide +kernel
theorem d_Cw_lineStart_22 : decode b_Cw_lineStart 22 = .ok (.if_icmp .ge 29, 3) := by decide +kernel
theorem d_Cw_lineStart_25 : decode b_Cw_lineStart 25 = .ok (.iload_n 3, 1) := by decide +kernel
theorem d_Cw_lineStart_26 : decode b_Cw_lineStart 26 = .ok (.iload 4, 2) := by decide +kernel
theorem d_Cw_lineStart_28 : decode b_Cw_lineStart 28 = .ok (.if_icmp .ge 23, 3) := by decide +kernel
theorem d_Cw_lineStart_31 : decode b_Cw_lineStart 31 = .ok (.aload_n 0, 1) := by decide +kernel
theorem d_Cw_lineStart_32 : decode b_Cw_lineStart 32 = .ok (.getfield 33, 3) := by decide +kernel
theorem d_Cw_lineStart_35 : decode b_Cw_lineStart 35 = .ok (.iload_n 3, 1) := by decide +kernel
theorem d_Cw_lineStart_36 : decode b_Cw_lineStart 36 = .ok (.baload, 1) := by decide +kernel
theorem d_Cw_lineStart_37 : decode b_Cw_lineStart 37 = .ok (.bipush 10, 2) := by decide +kernel
theorem d_Cw_lineStart_39 : decode b_Cw_lineStart 39 = .ok (.if_icmp .ne 6, 3) := by decide +kernel
theorem d_Cw_lineStart_42 : decode b_Cw_lineStart 42 = .ok (.iinc 5 1, 3) := by decide +kernel
theorem d_Cw_lineStart_45 : decode b_Cw_lineStart 45 = .ok (.iinc 3 1, 3) := by decide +kernel
theorem d_Cw_lineStart_48 : decode b_Cw_lineStart 48 = .ok (.goto (-29), 3) := by decide +kernel
theorem d_Cw_lineStart_51 : decode b_Cw_lineStart 51 = .ok (.iload_n 3, 1) := by decide +kernel
theorem d_Cw_lineStart_52 : decode b_Cw_lineStart 52 = .ok (.ireturn, 1) := by decide +kernel
abbrev ru_Cw_lineStart : Room := { frames := 0, cells := 0, slots := 0, locals := 0 }
def wj_Cw_lineStart_51 (y : Ly) (Post : St → Int32 → Prop) (a0 : Nat) (s_j51 : St) (x3j51 : Int32) : Prop := Post s_j51 x3j51
def wj_Cw_lineStart_45 (y : Ly) (Post : St → Int32 → Prop) (K_19 : St → Int32 → Int32 → Int32 → Int32 → Prop) (a0 : Nat) (s_j45 : St) (x2j45 : Int32) (x3j45 : Int32) (x4j45 : Int32) (x5j45 : Int32) : Prop := K_19 s_j45 x2j45 (x3j45 + 1) x4j45 x5j45
def wb_Cw_lineStart_19 (y : Ly) (Post : St → Int32 → Prop) (K_19 : St → Int32 → Int32 → Int32 → Int32 → Prop) (a0 : Nat) (s_h19 : St) (x2h19 : Int32) (x3h19 : Int32) (x4h19 : Int32) (x5h19 : Int32) : Prop := ((x2h19 ≤ x5h19 → wj_Cw_lineStart_51 y Post a0 s_h19 x3h19) ∧ (¬ (x2h19 ≤ x5h19) → ((x4h19 ≤ x3h19 → wj_Cw_lineStart_51 y Post a0 s_h19 x3h19) ∧ (¬ (x4h19 ≤ x3h19) → xA y s_h19 a0 10 x3h19 (fun x_2 : Int32 => ((¬ x_2 = 10 → wj_Cw_lineStart_45 y Post K_19 a0 s_h19 x2h19 x3h19 x4h19 x5h19) ∧ (x_2 = 10 → wj_Cw_lineStart_45 y Post K_19 a0 s_h19 x2h19 x3h19 x4h19 (x5h19 + 1))))))))
def wl_Cw_lineStart_19 (y : Ly) (Post : St → Int32 → Prop) (a0 : Nat) (s_h19 : St) (x2h19 : Int32) (x3h19 : Int32) (x4h19 : Int32) (x5h19 : Int32) : Prop := ∃ (I : St → Int32 → Int32 → Int32 → Int32 → Prop) (μ : St → Int32 → Int32 → Int32 → Int32 → Nat), I s_h19 x2h19 x3h19 x4h19 x5h19 ∧ ∀ (u : St) (t0 : Int32) (t1 : Int32) (t2 : Int32) (t3 : Int32), I u t0 t1 t2 t3 → wb_Cw_lineStart_19 y Post (fun z t0q t1q t2q t3q => I z t0q t1q t2q t3q ∧ μ z t0q t1q t2q t3q < μ u t0 t1 t2 t3) a0 u t0 t1 t2 t3
def wu_Cw_lineStart (y : Ly) (Post : St → Int32 → Prop) (σ : St) (a0 : Nat) (v1 : Int32) (v2 : Int32) : Prop := xA y σ a0 11 v1 (fun x_1 : Int32 => wl_Cw_lineStart_19 y Post a0 σ v2 (v1 * 1204) ((v1 * 1204) + x_1) 0)
set_option maxHeartbeats 4000000 in
set_option maxRecDepth 100000 in
theorem cu_Cw_lineStart (l : Launch) (D : va_G) (g : Nat → ClassId) (ad : Nat → Nat) (y : Ly) (Post : St → Int32 → Prop) (σ : St) (a0 : Nat) (v1 : Int32) (v2 : Int32) (sz : Nat) (h_a0 : cl a0 = 11) (h : wu_Cw_lineStart y Post σ a0 v1 v2) : Met l y_Cw_lineStart (mw y_Cw_lineStart b_Cw_lineStart 6 (some .int)) ru_Cw_lineStart (PC g D [] [.ref (ad a0), .int v1, .int v2] sz (ws g ad y σ)) (va_Qi (fun (r : Int32) (u : St) => Post u r) (QW D (va_A (ws g ad y σ) sz) (fun u => ws g ad y u)) (va_A (ws g ad y σ) sz)) 0 0 (va_A (ws g ad y σ) sz) := by
  refine ofI (by decide +kernel) (Nat.le_of_ble_eq_true rfl) ?_
  intro p e s m args below meth c A Q ls H locs G hsz hP hD hS hl hret
  subst hsz
  have hl : lv_has ls 6 [(0, .ref (ad a0)), (1, .int v1), (2, .int v2)] := hl
  unfold wu_Cw_lineStart at h
  refine lv_iload_n G.1 G.2.1 d_Cw_lineStart_0 rfl (lv_at hl 1 rfl) ?_
  refine lv_sipush (v := 1204) G.1 G.2.1 d_Cw_lineStart_1 (by decide) ?_
  refine lv_imul G.1 G.2.1 d_Cw_lineStart_4 ?_
  refine lv_istore_n (lv' := [(3, .int (v1 * 1204)), (0, .ref (ad a0)), (1, .int v1), (2, .int v2)]) G.1 G.2.1 d_Cw_lineStart_5 rfl hl (by decide) rfl (fun ls hl => ?_)
  refine lv_iload_n G.1 G.2.1 d_Cw_lineStart_6 rfl (lv_at hl 0 rfl) ?_
  refine lv_aload_n G.1 G.2.1 d_Cw_lineStart_7 rfl (lv_at hl 1 rfl) ?_
  refine ugf (v := .ref (yP y a0 11)) G hP h_a0 iCw rfl 11 (by decide) rfl q1145 rfl rfl d_Cw_lineStart_8 ?_
  refine lv_iload_n G.1 G.2.1 d_Cw_lineStart_11 rfl (lv_at hl 2 rfl) ?_
  refine uiald G hP (kdp h_a0 rfl) (typ h_a0 rfl) h d_Cw_lineStart_12 (fun x_1 h => ?_)
  refine lv_iadd G.1 G.2.1 d_Cw_lineStart_13 ?_
  refine lv_istore (lv' := [(4, .int ((v1 * 1204) + x_1)), (3, .int (v1 * 1204)), (0, .ref (ad a0)), (1, .int v1), (2, .int v2)]) G.1 G.2.1 d_Cw_lineStart_14 hl (by decide) rfl (fun ls hl => ?_)
  refine W.eq (g2 := F0 m 16 ls []) rfl ?_
  refine lv_iconst (v := 0) G.1 G.2.1 d_Cw_lineStart_16 (by decide) ?_
  refine lv_istore (lv' := [(5, .int 0), (4, .int ((v1 * 1204) + x_1)), (3, .int (v1 * 1204)), (0, .ref (ad a0)), (1, .int v1), (2, .int v2)]) G.1 G.2.1 d_Cw_lineStart_17 hl (by decide) rfl (fun ls hl => ?_)
  unfold wl_Cw_lineStart_19 at h
  obtain ⟨I_19, μ_19, hI_19, hB_19⟩ := h
  have L_19 : ∀ (n_19 : Nat) (s_h19 : St) (x2h19 : Int32) (x3h19 : Int32) (x4h19 : Int32) (x5h19 : Int32), μ_19 s_h19 x2h19 x3h19 x4h19 x5h19 < n_19 → I_19 s_h19 x2h19 x3h19 x4h19 x5h19 → ∀ (H : Heap) (locs : List Loc), va_P D CL (ws g ad y s_h19) H → va_D A (ws g ad y s_h19) → va_S A s.heap H locs → ∀ ls, lv_has ls 6 [(0, .ref (ad a0)), (2, .int x2h19), (3, .int x3h19), (4, .int x4h19), (5, .int x5h19)] → W p l e ru_Cw_lineStart s m args below meth c H locs 0 0 Q (F0 m 19 ls []) := by
    intro n_19
    induction n_19 with
    | zero => intro s_h19 x2h19 x3h19 x4h19 x5h19 hμ; exact absurd hμ (Nat.not_lt_zero _)
    | succ n_19 ih_19 =>
      intro s_h19 x2h19 x3h19 x4h19 x5h19 hμ_19 hJ H locs hP hD hS ls hl
      obtain ⟨K_19, hK_19, h⟩ : ∃ K : St → Int32 → Int32 → Int32 → Int32 → Prop, (∀ z (t0 : Int32) (t1 : Int32) (t2 : Int32) (t3 : Int32), K z t0 t1 t2 t3 → I_19 z t0 t1 t2 t3 ∧ μ_19 z t0 t1 t2 t3 < μ_19 s_h19 x2h19 x3h19 x4h19 x5h19) ∧ wb_Cw_lineStart_19 y Post K a0 s_h19 x2h19 x3h19 x4h19 x5h19 := ⟨_, fun _ _ _ _ _ h => h, hB_19 s_h19 x2h19 x3h19 x4h19 x5h19 hJ⟩
      unfold wb_Cw_lineStart_19 at h
      refine lv_iload G.1 G.2.1 d_Cw_lineStart_19 (lv_at hl 4 rfl) ?_
      refine lv_iload_n G.1 G.2.1 d_Cw_lineStart_21 rfl (lv_at hl 1 rfl) ?_
      have J_51 : ∀ (s_j51 : St) (x3j51 : Int32) (H : Heap) (locs : List Loc), wj_Cw_lineStart_51 y Post a0 s_j51 x3j51 → va_P D CL (ws g ad y s_j51) H → va_D A (ws g ad y s_j51) → va_S A s.heap H locs → ∀ ls, lv_has ls 6 [(3, .int x3j51)] → W p l e ru_Cw_lineStart s m args below meth c H locs 0 0 Q (F0 m 51 ls []) := by
        intro s_j51 x3j51 H locs h hP hD hS ls hl
        unfold wj_Cw_lineStart_51 at h
        refine lv_iload_n G.1 G.2.1 d_Cw_lineStart_51 rfl (lv_at hl 0 rfl) ?_
        exact hret _ _ _ _ _ _ _ ls h hP hD hS (Nat.le_refl _) (Nat.le_refl _) d_Cw_lineStart_52
      refine lv_icmp_ge (tgt := 51) G.1 G.2.1 d_Cw_lineStart_22 (by decide) (fun c22 => ?_) (fun c22 => ?_)
      · skip
        have h := h.1 c22
        exact J_51 s_h19 x3h19 H locs h hP hD hS ls (lv_sub hl [2] rfl)
      · skip
        have h := h.2 c22
        refine lv_iload_n G.1 G.2.1 d_Cw_lineStart_25 rfl (lv_at hl 2 rfl) ?_
        refine lv_iload G.1 G.2.1 d_Cw_lineStart_26 (lv_at hl 3 rfl) ?_
        refine lv_icmp_ge (tgt := 51) G.1 G.2.1 d_Cw_lineStart_28 (by decide) (fun c28 => ?_) (fun c28 => ?_)
        · skip
          have h := h.1 c28
          exact J_51 s_h19 x3h19 H locs h hP hD hS ls (lv_sub hl [2] rfl)
        · skip
          have h := h.2 c28
          refine lv_aload_n G.1 G.2.1 d_Cw_lineStart_31 rfl (lv_at hl 0 rfl) ?_
          refine ugf (v := .ref (yP y a0 10)) G hP h_a0 iCw rfl 10 (by decide) rfl q1144 rfl rfl d_Cw_lineStart_32 ?_
          refine lv_iload_n G.1 G.2.1 d_Cw_lineStart_35 rfl (lv_at hl 2 rfl) ?_
          refine ubald G hP (kdp h_a0 rfl) (typ h_a0 rfl) h d_Cw_lineStart_36 (fun x_2 h => ?_)
          refine lv_bipush (v := 10) G.1 G.2.1 d_Cw_lineStart_37 (by decide) ?_
          have J_45 : ∀ (s_j45 : St) (x2j45 : Int32) (x3j45 : Int32) (x4j45 : Int32) (x5j45 : Int32) (H : Heap) (locs : List Loc), wj_Cw_lineStart_45 y Post K_19 a0 s_j45 x2j45 x3j45 x4j45 x5j45 → va_P D CL (ws g ad y s_j45) H → va_D A (ws g ad y s_j45) → va_S A s.heap H locs → ∀ ls, lv_has ls 6 [(0, .ref (ad a0)), (2, .int x2j45), (3, .int x3j45), (4, .int x4j45), (5, .int x5j45)] → W p l e ru_Cw_lineStart s m args below meth c H locs 0 0 Q (F0 m 45 ls []) := by
            intro s_j45 x2j45 x3j45 x4j45 x5j45 H locs h hP hD hS ls hl
            unfold wj_Cw_lineStart_45 at h
            refine lv_iinc (v := x3j45 + 1) (lv' := [(3, .int (x3j45 + 1)), (0, .ref (ad a0)), (2, .int x2j45), (4, .int x4j45), (5, .int x5j45)]) G.1 G.2.1 d_Cw_lineStart_45 hl (k := 2) rfl rfl (by decide) rfl (fun ls hl => ?_)
            refine lv_goto (tgt := 19) G.1 G.2.1 d_Cw_lineStart_48 (by decide) ?_
            have h := hK_19 s_j45 x2j45 (x3j45 + 1) x4j45 x5j45 h
            exact ih_19 s_j45 x2j45 (x3j45 + 1) x4j45 x5j45 (Nat.lt_of_lt_of_le h.2 (Nat.le_of_lt_succ hμ_19)) h.1 H locs hP hD hS ls (lv_sub hl [1, 2, 0, 3, 4] rfl)
          refine W.eq (g2 := F0 m 39 ls [.int 10, .int x_2]) rfl ?_
          refine lv_icmp_ne (tgt := 45) G.1 G.2.1 d_Cw_lineStart_39 (by decide) (fun c39 => ?_) (fun c39 => ?_)
          · skip
            have h := h.1 c39
            exact J_45 s_h19 x2h19 x3h19 x4h19 x5h19 H locs h hP hD hS ls (lv_sub hl [0, 1, 2, 3, 4] rfl)
          · skip
            have h := h.2 c39
            refine lv_iinc (v := x5h19 + 1) (lv' := [(5, .int (x5h19 + 1)), (0, .ref (ad a0)), (2, .int x2h19), (3, .int x3h19), (4, .int x4h19)]) G.1 G.2.1 d_Cw_lineStart_42 hl (k := 4) rfl rfl (by decide) rfl (fun ls hl => ?_)
            exact J_45 s_h19 x2h19 x3h19 x4h19 (x5h19 + 1) H locs h hP hD hS ls (lv_sub hl [1, 2, 3, 4, 0] rfl)
  exact L_19 _ σ v2 (v1 * 1204) ((v1 * 1204) + x_1) 0 (Nat.lt_succ_self _) hI_19 H locs hP hD hS ls (lv_sub hl [3, 5, 2, 1, 0] rfl)
theorem q2550 : Cond.methodLink "ClassWorks" 512 y_Cw_lineStart ∈ lw_ok := lw_okmem (List.mem_of_getElem? (i := 2550) (by decide +kernel)) rfl
theorem q2553 : Cond.code y_Cw_lineStart b_Cw_lineStart 6 (some .int) ∈ lw_ok := lw_okmem (List.mem_of_getElem? (i := 2553) (by decide +kernel)) rfl
theorem q2552 : Cond.instanceMethod y_Cw_lineStart ∈ lw_ok := lw_okmem (List.mem_of_getElem? (i := 2552) (by decide +kernel)) rfl
theorem q166 : Cond.selects y_Cw_lineStart.cls y_Cw_lineStart y_Cw_lineStart ∈ lw_ok := lw_okmem (List.mem_of_getElem? (i := 166) (by decide +kernel)) rfl
theorem w9_Cw_lineStart : CWv y_Cw_lineStart b_Cw_lineStart 6 (some .int) 2 ∧ Cond.instanceMethod y_Cw_lineStart ∈ lw_ok ∧ Cond.selects y_Cw_lineStart.cls y_Cw_lineStart y_Cw_lineStart ∈ lw_ok := ⟨⟨q2553, q329, by decide +kernel, by decide +kernel, by decide +kernel⟩, q2552, q166⟩
def y_Cw_draftWithout : MethodName := ⟨"ClassWorks", "draftWithout", "(II)I"⟩
abbrev b_Cw_draftWithout : ByteArray := prog_1_method_69_code
theorem d_Cw_draftWithout_0 : decode b_Cw_draftWithout 0 = .ok (.iload_n 1, 1) := by decide +kernel
theorem d_Cw_draftWithout_1 : decode b_Cw_draftWithout 1 = .ok (.sipush 1204, 3) := by decide +kernel
theorem d_Cw_draftWithout_4 : decode b_Cw_draftWithout 4 = .ok (.imul, 1) := by decide +kernel
theorem d_Cw_draftWithout_5 : decode b_Cw_draftWithout 5 = .ok (.istore_n 3, 1) := by decide +kernel
theorem d_Cw_draftWithout_6 : decode b_Cw_draftWithout 6 = .ok (.aload_n 0, 1) := by decide +kernel
theorem d_Cw_draftWithout_7 : decode b_Cw_draftWithout 7 = .ok (.iload_n 1, 1) := by decide +kernel
theorem d_Cw_draftWithout_8 : decode b_Cw_draftWithout 8 = .ok (.iload_n 2, 1) := by decide +kernel
theorem d_Cw_draftWithout_9 : decode b_Cw_draftWithout 9 = .ok (.invokevirtual 512, 3) := by decide +kernel
theorem d_Cw_draftWithout_12 : decode b_Cw_draftWithout 12 = .ok (.istore 4, 2) := by decide +kernel
theorem d_Cw_draftWithout_14 : decode b_Cw_draftWithout 14 = .ok (.aload_n 0, 1) := by decide +kernel
theorem d_Cw_draftWithout_15 : decode b_Cw_draftWithout 15 = .ok (.iload_n 1, 1) := by decide +kernel
theorem d_Cw_draftWithout_16 : decode b_Cw_draftWithout 16 = .ok (.iload_n 2, 1) := by decide +kernel
theorem d_Cw_draftWithout_17 : decode b_Cw_draftWithout 17 = .ok (.iconst 1, 1) := by decide +kernel
theorem d_Cw_draftWithout_18 : decode b_Cw_draftWithout 18 = .ok (.iadd, 1) := by decide +kernel
theorem d_Cw_draftWithout_19 : decode b_Cw_draftWithout 19 = .ok (.invokevirtual 512, 3) := by decide +kernel
theorem d_Cw_draftWithout_22 : decode b_Cw_draftWithout 22 = .ok (.istore 5, 2) := by decide +kernel
theorem d_Cw_draftWithout_24 : decode b_Cw_draftWithout 24 = .ok (.iload_n 3, 1) := by decide +kernel
theorem d_Cw_draftWithout_25 : decode b_Cw_draftWithout 25 = .ok (.aload_n 0, 1) := by decide +kernel
theorem d_Cw_draftWithout_26 : decode b_Cw_draftWithout 26 = .ok (.getfield 36, 3) := by decide +kernel
theorem d_Cw_draftWithout_29 : decode b_Cw_draftWithout 29 = .ok (.iload_n 1, 1) := by decide +kernel
theorem d_Cw_draftWithout_30 : decode b_Cw_draftWithout 30 = .ok (.iaload, 1) := by decide +kernel
theorem d_Cw_draftWithout_31 : decode b_Cw_draftWithout 31 = .ok (.iadd, 1) := by decide +kernel
theorem d_Cw_draftWithout_32 : decode b_Cw_draftWithout 32 = .ok (.istore 6, 2) := by decide +kernel
theorem d_Cw_draftWithout_34 : decode b_Cw_draftWithout 34 = .ok (.aload_n 0, 1) := by decide +kernel
theorem d_Cw_draftWithout_35 : decode b_Cw_draftWithout 35 = .ok (.getfield 33, 3) := by decide +kernel
theorem d_Cw_draftWithout_38 : decode b_Cw_draftWithout 38 = .ok (.iload_n 3, 1) := by decide +kernel
theorem d_Cw_draftWithout_39 : decode b_Cw_draftWithout 39 = .ok (.aload_n 0, 1) := by decide +kernel
theorem d_Cw_draftWithout_40 : decode b_Cw_draftWithout 40 = .ok (.getfield 49, 3) := by decide +kernel
theorem d_Cw_draftWithout_43 : decode b_Cw_draftWithout 43 = .ok (.iconst 0, 1) := by decide +kernel
theorem d_Cw_draftWithout_44 : decode b_Cw_draftWithout 44 = .ok (.iload 4, 2) := by decide +kernel
theorem d_Cw_draftWithout_46 : decode b_Cw_draftWithout 46 = .ok (.iload_n 3, 1) := by decide +kernel
theorem d_Cw_draftWithout_47 : decode b_Cw_draftWithout 47 = .ok (.isub, 1) := by decide +kernel
theorem d_Cw_draftWithout_48 : decode b_Cw_draftWithout 48 = .ok (.invokestatic 450, 3) := by decide +kernel
theorem d_Cw_draftWithout_51 : decode b_Cw_draftWithout 51 = .ok (.aload_n 0, 1) := by decide +kernel
theorem d_Cw_draftWithout_52 : decode b_Cw_draftWithout 52 = .ok (.getfield 33, 3) := by decide +kernel
theorem d_Cw_draftWithout_55 : decode b_Cw_draftWithout 55 = .ok (.iload 5, 2) := by decide +kernel
theorem d_Cw_draftWithout_57 : decode b_Cw_draftWithout 57 = .ok (.aload_n 0, 1) := by decide +kernel
theorem d_Cw_draftWithout_58 : decode b_Cw_draftWithout 58 = .ok (.getfield 49, 3) := by decide +kernel
theorem d_Cw_draftWithout_61 : decode b_Cw_draftWithout 61 = .ok (.iload 4, 2) := by decide +kernel
theorem d_Cw_draftWithout_63 : decode b_Cw_draftWithout 63 = .ok (.iload_n 3, 1) := by decide +kernel
theorem d_Cw_draftWithout_64 : decode b_Cw_draftWithout 64 = .ok (.isub, 1) := by decide +kernel
theorem d_Cw_draftWithout_65 : decode b_Cw_draftWithout 65 = .ok (.iload 6, 2) := by decide +kernel
theorem d_Cw_draftWithout_67 : decode b_Cw_draftWithout 67 = .ok (.iload 5, 2) := by decide +kernel
theorem d_Cw_draftWithout_69 : decode b_Cw_draftWithout 69 = .ok (.isub, 1) := by decide +kernel
theorem d_Cw_draftWithout_70 : decode b_Cw_draftWithout 70 = .ok (.invokestatic 450, 3) := by decide +kernel
theorem d_Cw_draftWithout_73 : decode b_Cw_draftWithout 73 = .ok (.iload 4, 2) := by decide +kernel
theorem d_Cw_draftWithout_75 : decode b_Cw_draftWithout 75 = .ok (.iload_n 3, 1) := by decide +kernel
theorem d_Cw_draftWithout_76 : decode b_Cw_draftWithout 76 = .ok (.isub, 1) := by decide +kernel
theorem d_Cw_draftWithout_77 : decode b_Cw_draftWithout 77 = .ok (.iload 6, 2) := by decide +kernel
theorem d_Cw_draftWithout_79 : decode b_Cw_draftWithout 79 = .ok (.iadd, 1) := by decide +kernel
theorem d_Cw_draftWithout_80 : decode b_Cw_draftWithout 80 = .ok (.iload 5, 2) := by decide +kernel
theorem d_Cw_draftWithout_82 : decode b_Cw_draftWithout 82 = .ok (.isub, 1) := by decide +kernel
theorem d_Cw_draftWithout_83 : decode b_Cw_draftWithout 83 = .ok (.ireturn, 1) := by decide +kernel
abbrev ru_Cw_draftWithout : Room := { frames := 1, cells := 0, slots := 0, locals := 120 }
def wu_Cw_draftWithout (y : Ly) (Post : St → Int32 → Prop) (σ : St) (a0 : Nat) (v1 : Int32) (v2 : Int32) : Prop := wu_Cw_lineStart y (fun (s_2 : St) (r_1 : Int32) => wu_Cw_lineStart y (fun (s_4 : St) (r_3 : Int32) => xA y s_4 a0 11 v1 (fun x_5 : Int32 => xC y s_4 a0 10 a0 15 .byte (v1 * 1204) 0 (r_1 - (v1 * 1204)) (fun s_6 : St => xC y s_6 a0 10 a0 15 .byte r_3 (r_1 - (v1 * 1204)) (((v1 * 1204) + x_5) - r_3) (fun s_7 : St => Post s_7 (((r_1 - (v1 * 1204)) + ((v1 * 1204) + x_5)) - r_3))))) s_2 a0 v1 (v2 + 1)) σ a0 v1 v2
set_option maxHeartbeats 4000000 in
set_option maxRecDepth 100000 in
theorem cu_Cw_draftWithout (l : Launch) (D : va_G) (g : Nat → ClassId) (ad : Nat → Nat) (y : Ly) (Post : St → Int32 → Prop) (σ : St) (a0 : Nat) (v1 : Int32) (v2 : Int32) (sz : Nat) (h_a0 : cl a0 = 11) (h : wu_Cw_draftWithout y Post σ a0 v1 v2) : Met l y_Cw_draftWithout (mw y_Cw_draftWithout b_Cw_draftWithout 7 (some .int)) ru_Cw_draftWithout (PC g D [] [.ref (ad a0), .int v1, .int v2] sz (ws g ad y σ)) (va_Qi (fun (r : Int32) (u : St) => Post u r) (QW D (va_A (ws g ad y σ) sz) (fun u => ws g ad y u)) (va_A (ws g ad y σ) sz)) 0 0 (va_A (ws g ad y σ) sz) := by
  refine ofI (by decide +kernel) (Nat.le_of_ble_eq_true rfl) ?_
  intro p e s m args below meth c A Q ls H locs G hsz hP hD hS hl hret
  subst hsz
  have hl : lv_has ls 7 [(0, .ref (ad a0)), (1, .int v1), (2, .int v2)] := hl
  unfold wu_Cw_draftWithout at h
  refine lv_iload_n G.1 G.2.1 d_Cw_draftWithout_0 rfl (lv_at hl 1 rfl) ?_
  refine lv_sipush (v := 1204) G.1 G.2.1 d_Cw_draftWithout_1 (by decide) ?_
  refine lv_imul G.1 G.2.1 d_Cw_draftWithout_4 ?_
  refine lv_istore_n (lv' := [(3, .int (v1 * 1204)), (0, .ref (ad a0)), (1, .int v1), (2, .int v2)]) G.1 G.2.1 d_Cw_draftWithout_5 rfl hl (by decide) rfl (fun ls hl => ?_)
  refine lv_aload_n G.1 G.2.1 d_Cw_draftWithout_6 rfl (lv_at hl 1 rfl) ?_
  refine lv_iload_n G.1 G.2.1 d_Cw_draftWithout_7 rfl (lv_at hl 2 rfl) ?_
  refine lv_iload_n G.1 G.2.1 d_Cw_draftWithout_8 rfl (lv_at hl 3 rfl) ?_
  refine ucVi (As := [.int v1, .int v2]) (rest := []) G hP hD hS (cu_Cw_lineStart l D g ad y _ σ a0 v1 v2 H.size h_a0 h) w9_Cw_lineStart q2550 ⟨Nat.le_of_ble_eq_true rfl, Nat.le_of_ble_eq_true rfl⟩ rfl rfl h_a0 (q := (RCw, TCw, 20)) rfl rfl hl.1 rfl (Nat.le_of_ble_eq_true rfl) rfl ⟨Nat.le_refl _, Nat.le_refl _⟩ d_Cw_draftWithout_9 (fun r_1 s_2 H locs h hP hD hS => ?_)
  refine lv_istore (lv' := [(4, .int r_1), (3, .int (v1 * 1204)), (0, .ref (ad a0)), (1, .int v1), (2, .int v2)]) G.1 G.2.1 d_Cw_draftWithout_12 hl (by decide) rfl (fun ls hl => ?_)
  refine lv_aload_n G.1 G.2.1 d_Cw_draftWithout_14 rfl (lv_at hl 2 rfl) ?_
  refine lv_iload_n G.1 G.2.1 d_Cw_draftWithout_15 rfl (lv_at hl 3 rfl) ?_
  refine W.eq (g2 := F0 m 16 ls [.int v1, .ref (ad a0)]) rfl ?_
  refine lv_iload_n G.1 G.2.1 d_Cw_draftWithout_16 rfl (lv_at hl 4 rfl) ?_
  refine lv_iconst (v := 1) G.1 G.2.1 d_Cw_draftWithout_17 (by decide) ?_
  refine lv_iadd G.1 G.2.1 d_Cw_draftWithout_18 ?_
  refine ucVi (As := [.int v1, .int (v2 + 1)]) (rest := []) G hP hD hS (cu_Cw_lineStart l D g ad y _ s_2 a0 v1 (v2 + 1) H.size h_a0 h) w9_Cw_lineStart q2550 ⟨Nat.le_of_ble_eq_true rfl, Nat.le_of_ble_eq_true rfl⟩ rfl rfl h_a0 (q := (RCw, TCw, 20)) rfl rfl hl.1 rfl (Nat.le_of_ble_eq_true rfl) rfl ⟨Nat.le_refl _, Nat.le_refl _⟩ d_Cw_draftWithout_19 (fun r_3 s_4 H locs h hP hD hS => ?_)
  refine lv_istore (lv' := [(5, .int r_3), (4, .int r_1), (3, .int (v1 * 1204)), (0, .ref (ad a0)), (1, .int v1), (2, .int v2)]) G.1 G.2.1 d_Cw_draftWithout_22 hl (by decide) rfl (fun ls hl => ?_)
  refine lv_iload_n G.1 G.2.1 d_Cw_draftWithout_24 rfl (lv_at hl 2 rfl) ?_
  refine lv_aload_n G.1 G.2.1 d_Cw_draftWithout_25 rfl (lv_at hl 3 rfl) ?_
  refine ugf (v := .ref (yP y a0 11)) G hP h_a0 iCw rfl 11 (by decide) rfl q1145 rfl rfl d_Cw_draftWithout_26 ?_
  refine lv_iload_n G.1 G.2.1 d_Cw_draftWithout_29 rfl (lv_at hl 4 rfl) ?_
  refine uiald G hP (kdp h_a0 rfl) (typ h_a0 rfl) h d_Cw_draftWithout_30 (fun x_5 h => ?_)
  refine lv_iadd G.1 G.2.1 d_Cw_draftWithout_31 ?_
  refine lv_istore (lv' := [(6, .int ((v1 * 1204) + x_5)), (5, .int r_3), (4, .int r_1), (3, .int (v1 * 1204)), (0, .ref (ad a0)), (1, .int v1), (2, .int v2)]) G.1 G.2.1 d_Cw_draftWithout_32 hl (by decide) rfl (fun ls hl => ?_)
  refine W.eq (g2 := F0 m 34 ls []) rfl ?_
  refine lv_aload_n G.1 G.2.1 d_Cw_draftWithout_34 rfl (lv_at hl 4 rfl) ?_
  refine ugf (v := .ref (yP y a0 10)) G hP h_a0 iCw rfl 10 (by decide) rfl q1144 rfl rfl d_Cw_draftWithout_35 ?_
  refine lv_iload_n G.1 G.2.1 d_Cw_draftWithout_38 rfl (lv_at hl 3 rfl) ?_
  refine lv_aload_n G.1 G.2.1 d_Cw_draftWithout_39 rfl (lv_at hl 4 rfl) ?_
  refine ugf (v := .ref (yP y a0 15)) G hP h_a0 iCw rfl 15 (by decide) rfl q1149 rfl rfl d_Cw_draftWithout_40 ?_
  refine lv_iconst (v := 0) G.1 G.2.1 d_Cw_draftWithout_43 (by decide) ?_
  refine lv_iload G.1 G.2.1 d_Cw_draftWithout_44 (lv_at hl 2 rfl) ?_
  refine lv_iload_n G.1 G.2.1 d_Cw_draftWithout_46 rfl (lv_at hl 3 rfl) ?_
  refine lv_isub G.1 G.2.1 d_Cw_draftWithout_47 ?_
  refine ucpy G hP hD hS (kdp h_a0 rfl) (typ h_a0 rfl) (kdp h_a0 rfl) (typ h_a0 rfl) rfl rfl h hl.1 q2468 q488 q487 q338 (Nat.le_of_ble_eq_true rfl) (Nat.le_of_ble_eq_true rfl) d_Cw_draftWithout_48 (fun s_6 H locs h hP hD hS => ?_)
  refine lv_aload_n G.1 G.2.1 d_Cw_draftWithout_51 rfl (lv_at hl 4 rfl) ?_
  refine ugf (v := .ref (yP y a0 10)) G hP h_a0 iCw rfl 10 (by decide) rfl q1144 rfl rfl d_Cw_draftWithout_52 ?_
  refine W.eq (g2 := F0 m 55 ls [.ref (yP y a0 10)]) rfl ?_
  refine lv_iload G.1 G.2.1 d_Cw_draftWithout_55 (lv_at hl 1 rfl) ?_
  refine lv_aload_n G.1 G.2.1 d_Cw_draftWithout_57 rfl (lv_at hl 4 rfl) ?_
  refine ugf (v := .ref (yP y a0 15)) G hP h_a0 iCw rfl 15 (by decide) rfl q1149 rfl rfl d_Cw_draftWithout_58 ?_
  refine lv_iload G.1 G.2.1 d_Cw_draftWithout_61 (lv_at hl 2 rfl) ?_
  refine lv_iload_n G.1 G.2.1 d_Cw_draftWithout_63 rfl (lv_at hl 3 rfl) ?_
  refine lv_isub G.1 G.2.1 d_Cw_draftWithout_64 ?_
  refine lv_iload G.1 G.2.1 d_Cw_draftWithout_65 (lv_at hl 0 rfl) ?_
  refine lv_iload G.1 G.2.1 d_Cw_draftWithout_67 (lv_at hl 1 rfl) ?_
  refine lv_isub G.1 G.2.1 d_Cw_draftWithout_69 ?_
  refine ucpy G hP hD hS (kdp h_a0 rfl) (typ h_a0 rfl) (kdp h_a0 rfl) (typ h_a0 rfl) rfl rfl h hl.1 q2468 q488 q487 q338 (Nat.le_of_ble_eq_true rfl) (Nat.le_of_ble_eq_true rfl) d_Cw_draftWithout_70 (fun s_7 H locs h hP hD hS => ?_)
  refine lv_iload G.1 G.2.1 d_Cw_draftWithout_73 (lv_at hl 2 rfl) ?_
  refine lv_iload_n G.1 G.2.1 d_Cw_draftWithout_75 rfl (lv_at hl 3 rfl) ?_
  refine W.eq (g2 := F0 m 76 ls [.int (v1 * 1204), .int r_1]) rfl ?_
  refine lv_isub G.1 G.2.1 d_Cw_draftWithout_76 ?_
  refine lv_iload G.1 G.2.1 d_Cw_draftWithout_77 (lv_at hl 0 rfl) ?_
  refine lv_iadd G.1 G.2.1 d_Cw_draftWithout_79 ?_
  refine lv_iload G.1 G.2.1 d_Cw_draftWithout_80 (lv_at hl 1 rfl) ?_
  refine lv_isub G.1 G.2.1 d_Cw_draftWithout_82 ?_
  exact hret _ _ _ _ _ _ _ ls h hP hD hS (Nat.le_refl _) (Nat.le_refl _) d_Cw_draftWithout_83
theorem q2460 : Cond.methodLink "ClassWorks" 443 y_Cw_keepLine ∈ lw_ok := lw_okmem (List.mem_of_getElem? (i := 2460) (by decide +kernel)) rfl
theorem q2463 : Cond.code y_Cw_keepLine b_Cw_keepLine 7 (some .int) ∈ lw_ok := lw_okmem (List.mem_of_getElem? (i := 2463) (by decide +kernel)) rfl
theorem q2462 : Cond.instanceMethod y_Cw_keepLine ∈ lw_ok := lw_okmem (List.mem_of_getElem? (i := 2462) (by decide +kernel)) rfl
theorem q152 : Cond.selects y_Cw_keepLine.cls y_Cw_keepLine y_Cw_keepLine ∈ lw_ok := lw_okmem (List.mem_of_getElem? (i := 152) (by decide +kernel)) rfl
theorem w9_Cw_keepLine : CWv y_Cw_keepLine b_Cw_keepLine 7 (some .int) 4 ∧ Cond.instanceMethod y_Cw_keepLine ∈ lw_ok ∧ Cond.selects y_Cw_keepLine.cls y_Cw_keepLine y_Cw_keepLine ∈ lw_ok := ⟨⟨q2463, q329, by decide +kernel, by decide +kernel, by decide +kernel⟩, q2462, q152⟩
def y_Cw_draftChanged : MethodName := ⟨"ClassWorks", "draftChanged", "(IIIIII)I"⟩
abbrev b_Cw_draftChanged : ByteArray := prog_1_method_71_code
theorem d_Cw_draftChanged_0 : decode b_Cw_draftChanged 0 = .ok (.iload_n 3, 1) := by decide +kernel
theorem d_Cw_draftChanged_1 : decode b_Cw_draftChanged 1 = .ok (.istore 7, 2) := by decide +kernel
theorem d_Cw_draftChanged_3 : decode b_Cw_draftChanged 3 = .ok (.iload_n 3, 1) := by decide +kernel
theorem d_Cw_draftChanged_4 : decode b_Cw_draftChanged 4 = .ok (.iload 4, 2) := by decide +kernel
theorem d_Cw_draftChanged_6 : decode b_Cw_draftChanged 6 = .ok (.if_icmp .ne 27, 3) := by decide +kernel
theorem d_Cw_draftChanged_9 : decode b_Cw_draftChanged 9 = .ok (.iload_n 2, 1) := by decide +kernel
theorem d_Cw_draftChanged_10 : decode b_Cw_draftChanged 10 = .ok (.ifCond .ne 6, 3) := by decide +kernel
theorem d_Cw_draftChanged_13 : decode b_Cw_draftChanged 13 = .ok (.iload 6, 2) := by decide +kernel
theorem d_Cw_draftChanged_15 : decode b_Cw_draftChanged 15 = .ok (.ireturn, 1) := by decide +kernel
theorem d_Cw_draftChanged_16 : decode b_Cw_draftChanged 16 = .ok (.iload_n 2, 1) := by decide +kernel
theorem d_Cw_draftChanged_17 : decode b_Cw_draftChanged 17 = .ok (.iconst 1, 1) := by decide +kernel
theorem d_Cw_draftChanged_18 : decode b_Cw_draftChanged 18 = .ok (.if_icmp .ne 8, 3) := by decide +kernel
theorem d_Cw_draftChanged_21 : decode b_Cw_draftChanged 21 = .ok (.iload 4, 2) := by decide +kernel
theorem d_Cw_draftChanged_23 : decode b_Cw_draftChanged 23 = .ok (.goto 5, 3) := by decide +kernel
theorem d_Cw_draftChanged_26 : decode b_Cw_draftChanged 26 = .ok (.iload 5, 2) := by decide +kernel
theorem d_Cw_draftChanged_28 : decode b_Cw_draftChanged 28 = .ok (.istore 7, 2) := by decide +kernel
theorem d_Cw_draftChanged_30 : decode b_Cw_draftChanged 30 = .ok (.goto 18, 3) := by decide +kernel
theorem d_Cw_draftChanged_33 : decode b_Cw_draftChanged 33 = .ok (.iload_n 2, 1) := by decide +kernel
theorem d_Cw_draftChanged_34 : decode b_Cw_draftChanged 34 = .ok (.iconst 2, 1) := by decide +kernel
theorem d_Cw_draftChanged_35 : decode b_Cw_draftChanged 35 = .ok (.if_icmp .ne 13, 3) := by decide +kernel
theorem d_Cw_draftChanged_38 : decode b_Cw_draftChanged 38 = .ok (.iload_n 3, 1) := by decide +kernel
theorem d_Cw_draftChanged_39 : decode b_Cw_draftChanged 39 = .ok (.iload 5, 2) := by decide +kernel
theorem d_Cw_draftChanged_41 : decode b_Cw_draftChanged 41 = .ok (.if_icmp .ne 7, 3) := by decide +kernel
theorem d_Cw_draftChanged_44 : decode b_Cw_draftChanged 44 = .ok (.iload 4, 2) := by decide +kernel
theorem d_Cw_draftChanged_46 : decode b_Cw_draftChanged 46 = .ok (.istore 7, 2) := by decide +kernel
theorem d_Cw_draftChanged_48 : decode b_Cw_draftChanged 48 = .ok (.aload_n 0, 1) := by decide +kernel
theorem d_Cw_draftChanged_49 : decode b_Cw_draftChanged 49 = .ok (.aload_n 0, 1) := by decide +kernel
theorem d_Cw_draftChanged_50 : decode b_Cw_draftChanged 50 = .ok (.getfield 33, 3) := by decide +kernel
theorem d_Cw_draftChanged_53 : decode b_Cw_draftChanged 53 = .ok (.aload_n 0, 1) := by decide +kernel
theorem d_Cw_draftChanged_54 : decode b_Cw_draftChanged 54 = .ok (.iload_n 1, 1) := by decide +kernel
theorem d_Cw_draftChanged_55 : decode b_Cw_draftChanged 55 = .ok (.iload 7, 2) := by decide +kernel
theorem d_Cw_draftChanged_57 : decode b_Cw_draftChanged 57 = .ok (.invokevirtual 512, 3) := by decide +kernel
theorem d_Cw_draftChanged_60 : decode b_Cw_draftChanged 60 = .ok (.aload_n 0, 1) := by decide +kernel
theorem d_Cw_draftChanged_61 : decode b_Cw_draftChanged 61 = .ok (.getfield 33, 3) := by decide +kernel
theorem d_Cw_draftChanged_64 : decode b_Cw_draftChanged 64 = .ok (.arraylength, 1) := by decide +kernel
theorem d_Cw_draftChanged_65 : decode b_Cw_draftChanged 65 = .ok (.iload 6, 2) := by decide +kernel
theorem d_Cw_draftChanged_67 : decode b_Cw_draftChanged 67 = .ok (.invokevirtual 443, 3) := by decide +kernel
theorem d_Cw_draftChanged_70 : decode b_Cw_draftChanged 70 = .ok (.istore 8, 2) := by decide +kernel
theorem d_Cw_draftChanged_72 : decode b_Cw_draftChanged 72 = .ok (.iload_n 2, 1) := by decide +kernel
theorem d_Cw_draftChanged_73 : decode b_Cw_draftChanged 73 = .ok (.iconst 1, 1) := by decide +kernel
theorem d_Cw_draftChanged_74 : decode b_Cw_draftChanged 74 = .ok (.if_icmp .ne 33, 3) := by decide +kernel
theorem d_Cw_draftChanged_77 : decode b_Cw_draftChanged 77 = .ok (.iload_n 3, 1) := by decide +kernel
theorem d_Cw_draftChanged_78 : decode b_Cw_draftChanged 78 = .ok (.iload 4, 2) := by decide +kernel
theorem d_Cw_draftChanged_80 : decode b_Cw_draftChanged 80 = .ok (.if_icmp .ne 27, 3) := by decide +kernel
theorem d_Cw_draftChanged_83 : decode b_Cw_draftChanged 83 = .ok (.aload_n 0, 1) := by decide +kernel
theorem d_Cw_draftChanged_84 : decode b_Cw_draftChanged 84 = .ok (.aload_n 0, 1) := by decide +kernel
theorem d_Cw_draftChanged_85 : decode b_Cw_draftChanged 85 = .ok (.getfield 33, 3) := by decide +kernel
theorem d_Cw_draftChanged_88 : decode b_Cw_draftChanged 88 = .ok (.aload_n 0, 1) := by decide +kernel
theorem d_Cw_draftChanged_89 : decode b_Cw_draftChanged 89 = .ok (.iload_n 1, 1) := by decide +kernel
theorem d_Cw_draftChanged_90 : decode b_Cw_draftChanged 90 = .ok (.iload 7, 2) := by decide +kernel
theorem d_Cw_draftChanged_92 : decode b_Cw_draftChanged 92 = .ok (.invokevirtual 512, 3) := by decide +kernel
theorem d_Cw_draftChanged_95 : decode b_Cw_draftChanged 95 = .ok (.aload_n 0, 1) := by decide +kernel
theorem d_Cw_draftChanged_96 : decode b_Cw_draftChanged 96 = .ok (.getfield 33, 3) := by decide +kernel
theorem d_Cw_draftChanged_99 : decode b_Cw_draftChanged 99 = .ok (.arraylength, 1) := by decide +kernel
theorem d_Cw_draftChanged_100 : decode b_Cw_draftChanged 100 = .ok (.iload 8, 2) := by decide +kernel
theorem d_Cw_draftChanged_102 : decode b_Cw_draftChanged 102 = .ok (.invokevirtual 443, 3) := by decide +kernel
theorem d_Cw_draftChanged_105 : decode b_Cw_draftChanged 105 = .ok (.istore 8, 2) := by decide +kernel
theorem d_Cw_draftChanged_107 : decode b_Cw_draftChanged 107 = .ok (.iload 8, 2) := by decide +kernel
theorem d_Cw_draftChanged_109 : decode b_Cw_draftChanged 109 = .ok (.ireturn, 1) := by decide +kernel
abbrev ru_Cw_draftChanged : Room := { frames := 1, cells := 0, slots := 0, locals := 26 }
def wj_Cw_draftChanged_107 (y : Ly) (Post : St → Int32 → Prop) (a0 : Nat) (s_j107 : St) (x8j107 : Int32) : Prop := Post s_j107 x8j107
def wj_Cw_draftChanged_48 (y : Ly) (Post : St → Int32 → Prop) (a0 : Nat) (s_j48 : St) (x1j48 : Int32) (x2j48 : Int32) (x3j48 : Int32) (x4j48 : Int32) (x6j48 : Int32) (x7j48 : Int32) : Prop := wu_Cw_lineStart y (fun (s_2 : St) (r_1 : Int32) => wu_Cw_keepLine y (fun (s_4 : St) (r_3 : Int32) => ((¬ x2j48 = 1 → wj_Cw_draftChanged_107 y Post a0 s_4 r_3) ∧ (x2j48 = 1 → ((¬ x3j48 = x4j48 → wj_Cw_draftChanged_107 y Post a0 s_4 r_3) ∧ (x3j48 = x4j48 → wu_Cw_lineStart y (fun (s_6 : St) (r_5 : Int32) => wu_Cw_keepLine y (fun (s_8 : St) (r_7 : Int32) => wj_Cw_draftChanged_107 y Post a0 s_8 r_7) s_6 a0 a0 10 r_5 (nI (yN y a0 10)) r_3) s_4 a0 x1j48 x7j48))))) s_2 a0 a0 10 r_1 (nI (yN y a0 10)) x6j48) s_j48 a0 x1j48 x7j48
def wj_Cw_draftChanged_28 (y : Ly) (Post : St → Int32 → Prop) (a0 : Nat) (s_j28 : St) (x1j28 : Int32) (x2j28 : Int32) (x3j28 : Int32) (x4j28 : Int32) (x6j28 : Int32) (z0j28 : Int32) : Prop := wj_Cw_draftChanged_48 y Post a0 s_j28 x1j28 x2j28 x3j28 x4j28 x6j28 z0j28
def wu_Cw_draftChanged (y : Ly) (Post : St → Int32 → Prop) (σ : St) (a0 : Nat) (v1 : Int32) (v2 : Int32) (v3 : Int32) (v4 : Int32) (v5 : Int32) (v6 : Int32) : Prop := ((¬ v3 = v4 → ((¬ v2 = 2 → wj_Cw_draftChanged_48 y Post a0 σ v1 v2 v3 v4 v6 v3) ∧ (v2 = 2 → ((¬ v3 = v5 → wj_Cw_draftChanged_48 y Post a0 σ v1 v2 v3 v4 v6 v3) ∧ (v3 = v5 → wj_Cw_draftChanged_48 y Post a0 σ v1 v2 v3 v4 v6 v4))))) ∧ (v3 = v4 → ((¬ v2 = 0 → ((¬ v2 = 1 → wj_Cw_draftChanged_28 y Post a0 σ v1 v2 v3 v4 v6 v5) ∧ (v2 = 1 → wj_Cw_draftChanged_28 y Post a0 σ v1 v2 v3 v4 v6 v4))) ∧ (v2 = 0 → Post σ v6))))
set_option maxHeartbeats 4000000 in
set_option maxRecDepth 100000 in
theorem cu_Cw_draftChanged (l : Launch) (D : va_G) (g : Nat → ClassId) (ad : Nat → Nat) (y : Ly) (Post : St → Int32 → Prop) (σ : St) (a0 : Nat) (v1 : Int32) (v2 : Int32) (v3 : Int32) (v4 : Int32) (v5 : Int32) (v6 : Int32) (sz : Nat) (h_a0 : cl a0 = 11) (h : wu_Cw_draftChanged y Post σ a0 v1 v2 v3 v4 v5 v6) : Met l y_Cw_draftChanged (mw y_Cw_draftChanged b_Cw_draftChanged 9 (some .int)) ru_Cw_draftChanged (PC g D [] [.ref (ad a0), .int v1, .int v2, .int v3, .int v4, .int v5, .int v6] sz (ws g ad y σ)) (va_Qi (fun (r : Int32) (u : St) => Post u r) (QW D (va_A (ws g ad y σ) sz) (fun u => ws g ad y u)) (va_A (ws g ad y σ) sz)) 0 0 (va_A (ws g ad y σ) sz) := by
  refine ofI (by decide +kernel) (Nat.le_of_ble_eq_true rfl) ?_
  intro p e s m args below meth c A Q ls H locs G hsz hP hD hS hl hret
  subst hsz
  have hl : lv_has ls 9 [(0, .ref (ad a0)), (1, .int v1), (2, .int v2), (3, .int v3), (4, .int v4), (5, .int v5), (6, .int v6)] := hl
  unfold wu_Cw_draftChanged at h
  refine lv_iload_n G.1 G.2.1 d_Cw_draftChanged_0 rfl (lv_at hl 3 rfl) ?_
  refine lv_istore (lv' := [(7, .int v3), (0, .ref (ad a0)), (1, .int v1), (2, .int v2), (3, .int v3), (4, .int v4), (5, .int v5), (6, .int v6)]) G.1 G.2.1 d_Cw_draftChanged_1 hl (by decide) rfl (fun ls hl => ?_)
  refine lv_iload_n G.1 G.2.1 d_Cw_draftChanged_3 rfl (lv_at hl 4 rfl) ?_
  refine lv_iload G.1 G.2.1 d_Cw_draftChanged_4 (lv_at hl 5 rfl) ?_
  have J_48 : ∀ (s_j48 : St) (x1j48 : Int32) (x2j48 : Int32) (x3j48 : Int32) (x4j48 : Int32) (x6j48 : Int32) (x7j48 : Int32) (H : Heap) (locs : List Loc), wj_Cw_draftChanged_48 y Post a0 s_j48 x1j48 x2j48 x3j48 x4j48 x6j48 x7j48 → va_P D CL (ws g ad y s_j48) H → va_D A (ws g ad y s_j48) → va_S A s.heap H locs → ∀ ls, lv_has ls 9 [(0, .ref (ad a0)), (1, .int x1j48), (2, .int x2j48), (3, .int x3j48), (4, .int x4j48), (6, .int x6j48), (7, .int x7j48)] → W p l e ru_Cw_draftChanged s m args below meth c H locs 0 0 Q (F0 m 48 ls []) := by
    intro s_j48 x1j48 x2j48 x3j48 x4j48 x6j48 x7j48 H locs h hP hD hS ls hl
    unfold wj_Cw_draftChanged_48 at h
    refine lv_aload_n G.1 G.2.1 d_Cw_draftChanged_48 rfl (lv_at hl 0 rfl) ?_
    refine lv_aload_n G.1 G.2.1 d_Cw_draftChanged_49 rfl (lv_at hl 0 rfl) ?_
    refine ugf (v := .ref (yP y a0 10)) G hP h_a0 iCw rfl 10 (by decide) rfl q1144 rfl rfl d_Cw_draftChanged_50 ?_
    refine lv_aload_n G.1 G.2.1 d_Cw_draftChanged_53 rfl (lv_at hl 0 rfl) ?_
    refine lv_iload_n G.1 G.2.1 d_Cw_draftChanged_54 rfl (lv_at hl 1 rfl) ?_
    refine lv_iload G.1 G.2.1 d_Cw_draftChanged_55 (lv_at hl 6 rfl) ?_
    refine ucVi (As := [.int x1j48, .int x7j48]) (rest := [.ref (yP y a0 10), .ref (ad a0)]) G hP hD hS (cu_Cw_lineStart l D g ad y _ s_j48 a0 x1j48 x7j48 H.size h_a0 h) w9_Cw_lineStart q2550 ⟨Nat.le_of_ble_eq_true rfl, Nat.le_of_ble_eq_true rfl⟩ rfl rfl h_a0 (q := (RCw, TCw, 20)) rfl rfl hl.1 rfl (Nat.le_of_ble_eq_true rfl) rfl ⟨Nat.le_refl _, Nat.le_refl _⟩ d_Cw_draftChanged_57 (fun r_1 s_2 H locs h hP hD hS => ?_)
    refine lv_aload_n G.1 G.2.1 d_Cw_draftChanged_60 rfl (lv_at hl 0 rfl) ?_
    refine ugf (v := .ref (yP y a0 10)) G hP h_a0 iCw rfl 10 (by decide) rfl q1144 rfl rfl d_Cw_draftChanged_61 ?_
    refine ualen G hP (kdp h_a0 rfl) (by decide) (by decide) (typ h_a0 rfl) rfl d_Cw_draftChanged_64 ?_
    refine lv_iload G.1 G.2.1 d_Cw_draftChanged_65 (lv_at hl 5 rfl) ?_
    refine W.eq (g2 := F0 m 67 ls [.int x6j48, .int (nI (yN y a0 10)), .int r_1, .ref (yP y a0 10), .ref (ad a0)]) rfl ?_
    refine ucVi (As := [.ref (yP y a0 10), .int r_1, .int (nI (yN y a0 10)), .int x6j48]) (rest := []) G hP hD hS (cu_Cw_keepLine l D g ad y _ s_2 a0 a0 10 r_1 (nI (yN y a0 10)) x6j48 H.size h_a0 ⟨(kdp h_a0 rfl), (typ h_a0 rfl)⟩ h) w9_Cw_keepLine q2460 ⟨Nat.le_of_ble_eq_true rfl, Nat.le_of_ble_eq_true rfl⟩ rfl rfl h_a0 (q := (RCw, TCw, 20)) rfl rfl hl.1 rfl (Nat.le_of_ble_eq_true rfl) rfl ⟨Nat.le_refl _, Nat.le_refl _⟩ d_Cw_draftChanged_67 (fun r_3 s_4 H locs h hP hD hS => ?_)
    refine lv_istore (lv' := [(8, .int r_3), (0, .ref (ad a0)), (1, .int x1j48), (2, .int x2j48), (3, .int x3j48), (4, .int x4j48), (6, .int x6j48), (7, .int x7j48)]) G.1 G.2.1 d_Cw_draftChanged_70 hl (by decide) rfl (fun ls hl => ?_)
    refine lv_iload_n G.1 G.2.1 d_Cw_draftChanged_72 rfl (lv_at hl 3 rfl) ?_
    refine lv_iconst (v := 1) G.1 G.2.1 d_Cw_draftChanged_73 (by decide) ?_
    have J_107 : ∀ (s_j107 : St) (x8j107 : Int32) (H : Heap) (locs : List Loc), wj_Cw_draftChanged_107 y Post a0 s_j107 x8j107 → va_P D CL (ws g ad y s_j107) H → va_D A (ws g ad y s_j107) → va_S A s.heap H locs → ∀ ls, lv_has ls 9 [(8, .int x8j107)] → W p l e ru_Cw_draftChanged s m args below meth c H locs 0 0 Q (F0 m 107 ls []) := by
      intro s_j107 x8j107 H locs h hP hD hS ls hl
      unfold wj_Cw_draftChanged_107 at h
      refine lv_iload G.1 G.2.1 d_Cw_draftChanged_107 (lv_at hl 0 rfl) ?_
      exact hret _ _ _ _ _ _ _ ls h hP hD hS (Nat.le_refl _) (Nat.le_refl _) d_Cw_draftChanged_109
    refine lv_icmp_ne (tgt := 107) G.1 G.2.1 d_Cw_draftChanged_74 (by decide) (fun c74 => ?_) (fun c74 => ?_)
    · skip
      have h := h.1 c74
      exact J_107 s_4 r_3 H locs h hP hD hS ls (lv_sub hl [0] rfl)
    · skip
      have h := h.2 c74
      refine lv_iload_n G.1 G.2.1 d_Cw_draftChanged_77 rfl (lv_at hl 4 rfl) ?_
      refine lv_iload G.1 G.2.1 d_Cw_draftChanged_78 (lv_at hl 5 rfl) ?_
      refine lv_icmp_ne (tgt := 107) G.1 G.2.1 d_Cw_draftChanged_80 (by decide) (fun c80 => ?_) (fun c80 => ?_)
      · skip
        have h := h.1 c80
        exact J_107 s_4 r_3 H locs h hP hD hS ls (lv_sub hl [0] rfl)
      · skip
        have h := h.2 c80
        refine lv_aload_n G.1 G.2.1 d_Cw_draftChanged_83 rfl (lv_at hl 1 rfl) ?_
        refine lv_aload_n G.1 G.2.1 d_Cw_draftChanged_84 rfl (lv_at hl 1 rfl) ?_
        refine ugf (v := .ref (yP y a0 10)) G hP h_a0 iCw rfl 10 (by decide) rfl q1144 rfl rfl d_Cw_draftChanged_85 ?_
        refine lv_aload_n G.1 G.2.1 d_Cw_draftChanged_88 rfl (lv_at hl 1 rfl) ?_
        refine W.eq (g2 := F0 m 89 ls [.ref (ad a0), .ref (yP y a0 10), .ref (ad a0)]) rfl ?_
        refine lv_iload_n G.1 G.2.1 d_Cw_draftChanged_89 rfl (lv_at hl 2 rfl) ?_
        refine lv_iload G.1 G.2.1 d_Cw_draftChanged_90 (lv_at hl 7 rfl) ?_
        refine ucVi (As := [.int x1j48, .int x7j48]) (rest := [.ref (yP y a0 10), .ref (ad a0)]) G hP hD hS (cu_Cw_lineStart l D g ad y _ s_4 a0 x1j48 x7j48 H.size h_a0 h) w9_Cw_lineStart q2550 ⟨Nat.le_of_ble_eq_true rfl, Nat.le_of_ble_eq_true rfl⟩ rfl rfl h_a0 (q := (RCw, TCw, 20)) rfl rfl hl.1 rfl (Nat.le_of_ble_eq_true rfl) rfl ⟨Nat.le_refl _, Nat.le_refl _⟩ d_Cw_draftChanged_92 (fun r_5 s_6 H locs h hP hD hS => ?_)
        refine lv_aload_n G.1 G.2.1 d_Cw_draftChanged_95 rfl (lv_at hl 1 rfl) ?_
        refine ugf (v := .ref (yP y a0 10)) G hP h_a0 iCw rfl 10 (by decide) rfl q1144 rfl rfl d_Cw_draftChanged_96 ?_
        refine ualen G hP (kdp h_a0 rfl) (by decide) (by decide) (typ h_a0 rfl) rfl d_Cw_draftChanged_99 ?_
        refine lv_iload G.1 G.2.1 d_Cw_draftChanged_100 (lv_at hl 0 rfl) ?_
        refine ucVi (As := [.ref (yP y a0 10), .int r_5, .int (nI (yN y a0 10)), .int r_3]) (rest := []) G hP hD hS (cu_Cw_keepLine l D g ad y _ s_6 a0 a0 10 r_5 (nI (yN y a0 10)) r_3 H.size h_a0 ⟨(kdp h_a0 rfl), (typ h_a0 rfl)⟩ h) w9_Cw_keepLine q2460 ⟨Nat.le_of_ble_eq_true rfl, Nat.le_of_ble_eq_true rfl⟩ rfl rfl h_a0 (q := (RCw, TCw, 20)) rfl rfl hl.1 rfl (Nat.le_of_ble_eq_true rfl) rfl ⟨Nat.le_refl _, Nat.le_refl _⟩ d_Cw_draftChanged_102 (fun r_7 s_8 H locs h hP hD hS => ?_)
        refine lv_istore (lv' := [(8, .int r_7), (0, .ref (ad a0)), (1, .int x1j48), (2, .int x2j48), (3, .int x3j48), (4, .int x4j48), (6, .int x6j48), (7, .int x7j48)]) G.1 G.2.1 d_Cw_draftChanged_105 hl (by decide) rfl (fun ls hl => ?_)
        exact J_107 s_8 r_7 H locs h hP hD hS ls (lv_sub hl [0] rfl)
  refine lv_icmp_ne (tgt := 33) G.1 G.2.1 d_Cw_draftChanged_6 (by decide) (fun c6 => ?_) (fun c6 => ?_)
  · skip
    have h := h.1 c6
    refine lv_iload_n G.1 G.2.1 d_Cw_draftChanged_33 rfl (lv_at hl 3 rfl) ?_
    refine lv_iconst (v := 2) G.1 G.2.1 d_Cw_draftChanged_34 (by decide) ?_
    refine lv_icmp_ne (tgt := 48) G.1 G.2.1 d_Cw_draftChanged_35 (by decide) (fun c35 => ?_) (fun c35 => ?_)
    · skip
      have h := h.1 c35
      exact J_48 σ v1 v2 v3 v4 v6 v3 H locs h hP hD hS ls (lv_sub hl [1, 2, 3, 4, 5, 7, 0] rfl)
    · skip
      have h := h.2 c35
      refine lv_iload_n G.1 G.2.1 d_Cw_draftChanged_38 rfl (lv_at hl 4 rfl) ?_
      refine lv_iload G.1 G.2.1 d_Cw_draftChanged_39 (lv_at hl 6 rfl) ?_
      refine lv_icmp_ne (tgt := 48) G.1 G.2.1 d_Cw_draftChanged_41 (by decide) (fun c41 => ?_) (fun c41 => ?_)
      · skip
        have h := h.1 c41
        exact J_48 σ v1 v2 v3 v4 v6 v3 H locs h hP hD hS ls (lv_sub hl [1, 2, 3, 4, 5, 7, 0] rfl)
      · skip
        have h := h.2 c41
        refine W.eq (g2 := F0 m 44 ls []) rfl ?_
        refine lv_iload G.1 G.2.1 d_Cw_draftChanged_44 (lv_at hl 5 rfl) ?_
        refine lv_istore (lv' := [(7, .int v4), (0, .ref (ad a0)), (1, .int v1), (2, .int v2), (3, .int v3), (4, .int v4), (5, .int v5), (6, .int v6)]) G.1 G.2.1 d_Cw_draftChanged_46 hl (by decide) rfl (fun ls hl => ?_)
        exact J_48 σ v1 v2 v3 v4 v6 v4 H locs h hP hD hS ls (lv_sub hl [1, 2, 3, 4, 5, 7, 0] rfl)
  · skip
    have h := h.2 c6
    refine lv_iload_n G.1 G.2.1 d_Cw_draftChanged_9 rfl (lv_at hl 3 rfl) ?_
    refine lv_if_ne (tgt := 16) G.1 G.2.1 d_Cw_draftChanged_10 (by decide) (fun c10 => ?_) (fun c10 => ?_)
    · skip
      have h := h.1 c10
      refine lv_iload_n G.1 G.2.1 d_Cw_draftChanged_16 rfl (lv_at hl 3 rfl) ?_
      refine lv_iconst (v := 1) G.1 G.2.1 d_Cw_draftChanged_17 (by decide) ?_
      have J_28 : ∀ (s_j28 : St) (x1j28 : Int32) (x2j28 : Int32) (x3j28 : Int32) (x4j28 : Int32) (x6j28 : Int32) (z0j28 : Int32) (H : Heap) (locs : List Loc), wj_Cw_draftChanged_28 y Post a0 s_j28 x1j28 x2j28 x3j28 x4j28 x6j28 z0j28 → va_P D CL (ws g ad y s_j28) H → va_D A (ws g ad y s_j28) → va_S A s.heap H locs → ∀ ls, lv_has ls 9 [(0, .ref (ad a0)), (1, .int x1j28), (2, .int x2j28), (3, .int x3j28), (4, .int x4j28), (6, .int x6j28)] → W p l e ru_Cw_draftChanged s m args below meth c H locs 0 0 Q (F0 m 28 ls [.int z0j28]) := by
        intro s_j28 x1j28 x2j28 x3j28 x4j28 x6j28 z0j28 H locs h hP hD hS ls hl
        unfold wj_Cw_draftChanged_28 at h
        refine lv_istore (lv' := [(7, .int z0j28), (0, .ref (ad a0)), (1, .int x1j28), (2, .int x2j28), (3, .int x3j28), (4, .int x4j28), (6, .int x6j28)]) G.1 G.2.1 d_Cw_draftChanged_28 hl (by decide) rfl (fun ls hl => ?_)
        refine lv_goto (tgt := 48) G.1 G.2.1 d_Cw_draftChanged_30 (by decide) ?_
        exact J_48 s_j28 x1j28 x2j28 x3j28 x4j28 x6j28 z0j28 H locs h hP hD hS ls (lv_sub hl [1, 2, 3, 4, 5, 6, 0] rfl)
      refine lv_icmp_ne (tgt := 26) G.1 G.2.1 d_Cw_draftChanged_18 (by decide) (fun c18 => ?_) (fun c18 => ?_)
      · skip
        have h := h.1 c18
        refine lv_iload G.1 G.2.1 d_Cw_draftChanged_26 (lv_at hl 6 rfl) ?_
        exact J_28 σ v1 v2 v3 v4 v6 v5 H locs h hP hD hS ls (lv_sub hl [1, 2, 3, 4, 5, 7] rfl)
      · skip
        have h := h.2 c18
        refine lv_iload G.1 G.2.1 d_Cw_draftChanged_21 (lv_at hl 5 rfl) ?_
        refine W.eq (g2 := F0 m 23 ls [.int v4]) rfl ?_
        refine lv_goto (tgt := 28) G.1 G.2.1 d_Cw_draftChanged_23 (by decide) ?_
        exact J_28 σ v1 v2 v3 v4 v6 v4 H locs h hP hD hS ls (lv_sub hl [1, 2, 3, 4, 5, 7] rfl)
    · skip
      have h := h.2 c10
      refine lv_iload G.1 G.2.1 d_Cw_draftChanged_13 (lv_at hl 7 rfl) ?_
      exact hret _ _ _ _ _ _ _ ls h hP hD hS (Nat.le_refl _) (Nat.le_refl _) d_Cw_draftChanged_15
theorem q2473 : Cond.methodLink "ClassWorks" 470 y_Cw_isTrial ∈ lw_ok := lw_okmem (List.mem_of_getElem? (i := 2473) (by decide +kernel)) rfl
theorem q2476 : Cond.code y_Cw_isTrial b_Cw_isTrial 2 (some (.boolean)) ∈ lw_ok := lw_okmem (List.mem_of_getElem? (i := 2476) (by decide +kernel)) rfl
theorem q2475 : Cond.instanceMethod y_Cw_isTrial ∈ lw_ok := lw_okmem (List.mem_of_getElem? (i := 2475) (by decide +kernel)) rfl
theorem q154 : Cond.selects y_Cw_isTrial.cls y_Cw_isTrial y_Cw_isTrial ∈ lw_ok := lw_okmem (List.mem_of_getElem? (i := 154) (by decide +kernel)) rfl
theorem w9_Cw_isTrial : CWv y_Cw_isTrial b_Cw_isTrial 2 (some (.boolean)) 1 ∧ Cond.instanceMethod y_Cw_isTrial ∈ lw_ok ∧ Cond.selects y_Cw_isTrial.cls y_Cw_isTrial y_Cw_isTrial ∈ lw_ok := ⟨⟨q2476, q329, by decide +kernel, by decide +kernel, by decide +kernel⟩, q2475, q154⟩
theorem q2542 : Cond.methodLink "ClassWorks" 506 y_Cw_lineCount ∈ lw_ok := lw_okmem (List.mem_of_getElem? (i := 2542) (by decide +kernel)) rfl
theorem q2545 : Cond.code y_Cw_lineCount b_Cw_lineCount 5 (some .int) ∈ lw_ok := lw_okmem (List.mem_of_getElem? (i := 2545) (by decide +kernel)) rfl
theorem q2544 : Cond.instanceMethod y_Cw_lineCount ∈ lw_ok := lw_okmem (List.mem_of_getElem? (i := 2544) (by decide +kernel)) rfl
theorem q164 : Cond.selects y_Cw_lineCount.cls y_Cw_lineCount y_Cw_lineCount ∈ lw_ok := lw_okmem (List.mem_of_getElem? (i := 164) (by decide +kernel)) rfl
theorem w9_Cw_lineCount : CWv y_Cw_lineCount b_Cw_lineCount 5 (some .int) 1 ∧ Cond.instanceMethod y_Cw_lineCount ∈ lw_ok ∧ Cond.selects y_Cw_lineCount.cls y_Cw_lineCount y_Cw_lineCount ∈ lw_ok := ⟨⟨q2545, q329, by decide +kernel, by decide +kernel, by decide +kernel⟩, q2544, q164⟩
theorem q2464 : Cond.methodLink "ClassWorks" 447 y_Cw_keepDraft ∈ lw_ok := lw_okmem (List.mem_of_getElem? (i := 2464) (by decide +kernel)) rfl
theorem q2467 : Cond.code y_Cw_keepDraft b_Cw_keepDraft 2 (some .int) ∈ lw_ok := lw_okmem (List.mem_of_getElem? (i := 2467) (by decide +kernel)) rfl
theorem q2466 : Cond.instanceMethod y_Cw_keepDraft ∈ lw_ok := lw_okmem (List.mem_of_getElem? (i := 2466) (by decide +kernel)) rfl
theorem q153 : Cond.selects y_Cw_keepDraft.cls y_Cw_keepDraft y_Cw_keepDraft ∈ lw_ok := lw_okmem (List.mem_of_getElem? (i := 153) (by decide +kernel)) rfl
theorem w9_Cw_keepDraft : CWv y_Cw_keepDraft b_Cw_keepDraft 2 (some .int) 1 ∧ Cond.instanceMethod y_Cw_keepDraft ∈ lw_ok ∧ Cond.selects y_Cw_keepDraft.cls y_Cw_keepDraft y_Cw_keepDraft ∈ lw_ok := ⟨⟨q2467, q329, by decide +kernel, by decide +kernel, by decide +kernel⟩, q2466, q153⟩
theorem q2558 : Cond.methodLink "ClassWorks" 515 y_Cw_draftChanged ∈ lw_ok := lw_okmem (List.mem_of_getElem? (i := 2558) (by decide +kernel)) rfl
theorem q2561 : Cond.code y_Cw_draftChanged b_Cw_draftChanged 9 (some .int) ∈ lw_ok := lw_okmem (List.mem_of_getElem? (i := 2561) (by decide +kernel)) rfl
theorem q2560 : Cond.instanceMethod y_Cw_draftChanged ∈ lw_ok := lw_okmem (List.mem_of_getElem? (i := 2560) (by decide +kernel)) rfl
theorem q167 : Cond.selects y_Cw_draftChanged.cls y_Cw_draftChanged y_Cw_draftChanged ∈ lw_ok := lw_okmem (List.mem_of_getElem? (i := 167) (by decide +kernel)) rfl
theorem w9_Cw_draftChanged : CWv y_Cw_draftChanged b_Cw_draftChanged 9 (some .int) 6 ∧ Cond.instanceMethod y_Cw_draftChanged ∈ lw_ok ∧ Cond.selects y_Cw_draftChanged.cls y_Cw_draftChanged y_Cw_draftChanged ∈ lw_ok := ⟨⟨q2561, q329, by decide +kernel, by decide +kernel, by decide +kernel⟩, q2560, q167⟩
def y_Cw_change : MethodName := ⟨"ClassWorks", "change", "(IIII)I"⟩
abbrev b_Cw_change : ByteArray := prog_1_method_70_code
theorem d_Cw_change_0 : decode b_Cw_change 0 = .ok (.aload_n 0, 1) := by decide +kernel
theorem d_Cw_change_1 : decode b_Cw_change 1 = .ok (.iload_n 1, 1) := by decide +kernel
theorem d_Cw_change_2 : decode b_Cw_change 2 = .ok (.invokevirtual 470, 3) := by decide +kernel
theorem d_Cw_change_5 : decode b_Cw_change 5 = .ok (.ifCond .eq 12, 3) := by decide +kernel
theorem d_Cw_change_8 : decode b_Cw_change 8 = .ok (.iload_n 2, 1) := by decide +kernel
theorem d_Cw_change_9 : decode b_Cw_change 9 = .ok (.ifCond .lt 8, 3) := by decide +kernel
theorem d_Cw_change_12 : decode b_Cw_change 12 = .ok (.iload_n 2, 1) := by decide +kernel
theorem d_Cw_change_13 : decode b_Cw_change 13 = .ok (.iconst 3, 1) := by decide +kernel
theorem d_Cw_change_14 : decode b_Cw_change 14 = .ok (.if_icmp .le 5, 3) := by decide +kernel
theorem d_Cw_change_17 : decode b_Cw_change 17 = .ok (.iconst (-1), 1) := by decide +kernel
theorem d_Cw_change_18 : decode b_Cw_change 18 = .ok (.ireturn, 1) := by decide +kernel
theorem d_Cw_change_19 : decode b_Cw_change 19 = .ok (.aload_n 0, 1) := by decide +kernel
theorem d_Cw_change_20 : decode b_Cw_change 20 = .ok (.iload_n 1, 1) := by decide +kernel
theorem d_Cw_change_21 : decode b_Cw_change 21 = .ok (.invokevirtual 506, 3) := by decide +kernel
theorem d_Cw_change_24 : decode b_Cw_change 24 = .ok (.istore 5, 2) := by decide +kernel
theorem d_Cw_change_26 : decode b_Cw_change 26 = .ok (.iload_n 3, 1) := by decide +kernel
theorem d_Cw_change_27 : decode b_Cw_change 27 = .ok (.ifCond .lt 30, 3) := by decide +kernel
theorem d_Cw_change_30 : decode b_Cw_change 30 = .ok (.iload_n 3, 1) := by decide +kernel
theorem d_Cw_change_31 : decode b_Cw_change 31 = .ok (.iload 5, 2) := by decide +kernel
theorem d_Cw_change_33 : decode b_Cw_change 33 = .ok (.iconst 1, 1) := by decide +kernel
theorem d_Cw_change_34 : decode b_Cw_change 34 = .ok (.isub, 1) := by decide +kernel
theorem d_Cw_change_35 : decode b_Cw_change 35 = .ok (.if_icmp .ge 22, 3) := by decide +kernel
theorem d_Cw_change_38 : decode b_Cw_change 38 = .ok (.iload_n 2, 1) := by decide +kernel
theorem d_Cw_change_39 : decode b_Cw_change 39 = .ok (.iconst 1, 1) := by decide +kernel
theorem d_Cw_change_40 : decode b_Cw_change 40 = .ok (.if_icmp .le 19, 3) := by decide +kernel
theorem d_Cw_change_43 : decode b_Cw_change 43 = .ok (.iload 4, 2) := by decide +kernel
theorem d_Cw_change_45 : decode b_Cw_change 45 = .ok (.ifCond .lt 12, 3) := by decide +kernel
theorem d_Cw_change_48 : decode b_Cw_change 48 = .ok (.iload 4, 2) := by decide +kernel
theorem d_Cw_change_50 : decode b_Cw_change 50 = .ok (.iload 5, 2) := by decide +kernel
theorem d_Cw_change_52 : decode b_Cw_change 52 = .ok (.iconst 1, 1) := by decide +kernel
theorem d_Cw_change_53 : decode b_Cw_change 53 = .ok (.isub, 1) := by decide +kernel
theorem d_Cw_change_54 : decode b_Cw_change 54 = .ok (.if_icmp .lt 5, 3) := by decide +kernel
theorem d_Cw_change_57 : decode b_Cw_change 57 = .ok (.iconst (-1), 1) := by decide +kernel
theorem d_Cw_change_58 : decode b_Cw_change 58 = .ok (.ireturn, 1) := by decide +kernel
theorem d_Cw_change_59 : decode b_Cw_change 59 = .ok (.iconst 0, 1) := by decide +kernel
theorem d_Cw_change_60 : decode b_Cw_change 60 = .ok (.istore 6, 2) := by decide +kernel
theorem d_Cw_change_62 : decode b_Cw_change 62 = .ok (.iconst 0, 1) := by decide +kernel
theorem d_Cw_change_63 : decode b_Cw_change 63 = .ok (.istore 7, 2) := by decide +kernel
theorem d_Cw_change_65 : decode b_Cw_change 65 = .ok (.iload 7, 2) := by decide +kernel
theorem d_Cw_change_67 : decode b_Cw_change 67 = .ok (.iload 5, 2) := by decide +kernel
theorem d_Cw_change_69 : decode b_Cw_change 69 = .ok (.if_icmp .ge 24, 3) := by decide +kernel
theorem d_Cw_change_72 : decode b_Cw_change 72 = .ok (.aload_n 0, 1) := by decide +kernel
theorem d_Cw_change_73 : decode b_Cw_change 73 = .ok (.iload_n 1, 1) := by decide +kernel
theorem d_Cw_change_74 : decode b_Cw_change 74 = .ok (.iload_n 2, 1) := by decide +kernel
theorem d_Cw_change_75 : decode b_Cw_change 75 = .ok (.iload 7, 2) := by decide +kernel
theorem d_Cw_change_77 : decode b_Cw_change 77 = .ok (.iload_n 3, 1) := by decide +kernel
theorem d_Cw_change_78 : decode b_Cw_change 78 = .ok (.iload 4, 2) := by decide +kernel
theorem d_Cw_change_80 : decode b_Cw_change 80 = .ok (.iload 6, 2) := by decide +kernel
theorem d_Cw_change_82 : decode b_Cw_change 82 = .ok (.invokevirtual 515, 3) := by decide +kernel
theorem d_Cw_change_85 : decode b_Cw_change 85 = .ok (.istore 6, 2) := by decide +kernel
theorem d_Cw_change_87 : decode b_Cw_change 87 = .ok (.iinc 7 1, 3) := by decide +kernel
theorem d_Cw_change_90 : decode b_Cw_change 90 = .ok (.goto (-25), 3) := by decide +kernel
theorem d_Cw_change_93 : decode b_Cw_change 93 = .ok (.iload_n 2, 1) := by decide +kernel
theorem d_Cw_change_94 : decode b_Cw_change 94 = .ok (.iconst 1, 1) := by decide +kernel
theorem d_Cw_change_95 : decode b_Cw_change 95 = .ok (.if_icmp .ne 14, 3) := by decide +kernel
theorem d_Cw_change_98 : decode b_Cw_change 98 = .ok (.iload 5, 2) := by decide +kernel
theorem d_Cw_change_100 : decode b_Cw_change 100 = .ok (.bipush 60, 2) := by decide +kernel
theorem d_Cw_change_102 : decode b_Cw_change 102 = .ok (.if_icmp .ne 7, 3) := by decide +kernel
theorem d_Cw_change_105 : decode b_Cw_change 105 = .ok (.iconst 1, 1) := by decide +kernel
theorem d_Cw_change_106 : decode b_Cw_change 106 = .ok (.goto 4, 3) := by decide +kernel
theorem d_Cw_change_109 : decode b_Cw_change 109 = .ok (.iconst 0, 1) := by decide +kernel
theorem d_Cw_change_110 : decode b_Cw_change 110 = .ok (.istore 7, 2) := by decide +kernel
theorem d_Cw_change_112 : decode b_Cw_change 112 = .ok (.aload_n 0, 1) := by decide +kernel
theorem d_Cw_change_113 : decode b_Cw_change 113 = .ok (.getfield 46, 3) := by decide +kernel
theorem d_Cw_change_116 : decode b_Cw_change 116 = .ok (.bipush 40, 2) := by decide +kernel
theorem d_Cw_change_118 : decode b_Cw_change 118 = .ok (.if_icmp .eq 16, 3) := by decide +kernel
theorem d_Cw_change_121 : decode b_Cw_change 121 = .ok (.iload 6, 2) := by decide +kernel
theorem d_Cw_change_123 : decode b_Cw_change 123 = .ok (.sipush 1200, 3) := by decide +kernel
theorem d_Cw_change_126 : decode b_Cw_change 126 = .ok (.if_icmp .gt 8, 3) := by decide +kernel
theorem d_Cw_change_129 : decode b_Cw_change 129 = .ok (.iload 7, 2) := by decide +kernel
theorem d_Cw_change_131 : decode b_Cw_change 131 = .ok (.ifCond .eq 6, 3) := by decide +kernel
theorem d_Cw_change_134 : decode b_Cw_change 134 = .ok (.bipush (-3), 2) := by decide +kernel
theorem d_Cw_change_136 : decode b_Cw_change 136 = .ok (.ireturn, 1) := by decide +kernel
theorem d_Cw_change_137 : decode b_Cw_change 137 = .ok (.aload_n 0, 1) := by decide +kernel
theorem d_Cw_change_138 : decode b_Cw_change 138 = .ok (.iload 6, 2) := by decide +kernel
theorem d_Cw_change_140 : decode b_Cw_change 140 = .ok (.invokevirtual 447, 3) := by decide +kernel
theorem d_Cw_change_143 : decode b_Cw_change 143 = .ok (.ireturn, 1) := by decide +kernel
abbrev ru_Cw_change : Room := { frames := 2, cells := 0, slots := 0, locals := 141 }
def wj_Cw_change_17 (y : Ly) (Post : St → Int32 → Prop) (a0 : Nat) (s_j17 : St) : Prop := Post s_j17 (-1)
def wj_Cw_change_57 (y : Ly) (Post : St → Int32 → Prop) (a0 : Nat) (s_j57 : St) : Prop := Post s_j57 (-1)
def wj_Cw_change_134 (y : Ly) (Post : St → Int32 → Prop) (a0 : Nat) (s_j134 : St) : Prop := Post s_j134 (-3)
def wj_Cw_change_110 (y : Ly) (Post : St → Int32 → Prop) (a0 : Nat) (s_j110 : St) (x6j110 : Int32) (z0j110 : Int32) : Prop := (((sV s_j110 a0 14) = 40 → wj_Cw_change_134 y Post a0 s_j110) ∧ (¬ ((sV s_j110 a0 14) = 40) → ((1200 < x6j110 → wj_Cw_change_134 y Post a0 s_j110) ∧ (¬ (1200 < x6j110) → ((z0j110 = 0 → wu_Cw_keepDraft y (fun (s_6 : St) (r_5 : Int32) => Post s_6 r_5) s_j110 a0 x6j110) ∧ (¬ (z0j110 = 0) → wj_Cw_change_134 y Post a0 s_j110))))))
def wj_Cw_change_109 (y : Ly) (Post : St → Int32 → Prop) (a0 : Nat) (s_j109 : St) (x6j109 : Int32) : Prop := wj_Cw_change_110 y Post a0 s_j109 x6j109 0
def wb_Cw_change_65 (y : Ly) (Post : St → Int32 → Prop) (K_65 : St → Int32 → Int32 → Int32 → Int32 → Int32 → Int32 → Int32 → Prop) (a0 : Nat) (s_h65 : St) (x1h65 : Int32) (x2h65 : Int32) (x3h65 : Int32) (x4h65 : Int32) (x5h65 : Int32) (x6h65 : Int32) (x7h65 : Int32) : Prop := ((x5h65 ≤ x7h65 → ((¬ x2h65 = 1 → wj_Cw_change_109 y Post a0 s_h65 x6h65) ∧ (x2h65 = 1 → ((¬ x5h65 = 60 → wj_Cw_change_109 y Post a0 s_h65 x6h65) ∧ (x5h65 = 60 → wj_Cw_change_110 y Post a0 s_h65 x6h65 1))))) ∧ (¬ (x5h65 ≤ x7h65) → wu_Cw_draftChanged y (fun (s_8 : St) (r_7 : Int32) => K_65 s_8 x1h65 x2h65 x3h65 x4h65 x5h65 r_7 (x7h65 + 1)) s_h65 a0 x1h65 x2h65 x7h65 x3h65 x4h65 x6h65))
def wl_Cw_change_65 (y : Ly) (Post : St → Int32 → Prop) (a0 : Nat) (s_h65 : St) (x1h65 : Int32) (x2h65 : Int32) (x3h65 : Int32) (x4h65 : Int32) (x5h65 : Int32) (x6h65 : Int32) (x7h65 : Int32) : Prop := ∃ (I : St → Int32 → Int32 → Int32 → Int32 → Int32 → Int32 → Int32 → Prop) (μ : St → Int32 → Int32 → Int32 → Int32 → Int32 → Int32 → Int32 → Nat), I s_h65 x1h65 x2h65 x3h65 x4h65 x5h65 x6h65 x7h65 ∧ ∀ (u : St) (t0 : Int32) (t1 : Int32) (t2 : Int32) (t3 : Int32) (t4 : Int32) (t5 : Int32) (t6 : Int32), I u t0 t1 t2 t3 t4 t5 t6 → wb_Cw_change_65 y Post (fun z t0q t1q t2q t3q t4q t5q t6q => I z t0q t1q t2q t3q t4q t5q t6q ∧ μ z t0q t1q t2q t3q t4q t5q t6q < μ u t0 t1 t2 t3 t4 t5 t6) a0 u t0 t1 t2 t3 t4 t5 t6
def wj_Cw_change_59 (y : Ly) (Post : St → Int32 → Prop) (a0 : Nat) (s_j59 : St) (x1j59 : Int32) (x2j59 : Int32) (x3j59 : Int32) (x4j59 : Int32) (x5j59 : Int32) : Prop := wl_Cw_change_65 y Post a0 s_j59 x1j59 x2j59 x3j59 x4j59 x5j59 0 0
def wu_Cw_change (y : Ly) (Post : St → Int32 → Prop) (σ : St) (a0 : Nat) (v1 : Int32) (v2 : Int32) (v3 : Int32) (v4 : Int32) : Prop := wu_Cw_isTrial y (fun (s_2 : St) (r_1 : Int32) => ((r_1 = 0 → wj_Cw_change_17 y Post a0 s_2) ∧ (¬ (r_1 = 0) → ((v2 < 0 → wj_Cw_change_17 y Post a0 s_2) ∧ (¬ (v2 < 0) → ((v2 ≤ 3 → wu_Cw_lineCount y (fun (s_4 : St) (r_3 : Int32) => ((v3 < 0 → wj_Cw_change_57 y Post a0 s_4) ∧ (¬ (v3 < 0) → (((r_3 - 1) ≤ v3 → wj_Cw_change_57 y Post a0 s_4) ∧ (¬ ((r_3 - 1) ≤ v3) → ((v2 ≤ 1 → wj_Cw_change_59 y Post a0 s_4 v1 v2 v3 v4 r_3) ∧ (¬ (v2 ≤ 1) → ((v4 < 0 → wj_Cw_change_57 y Post a0 s_4) ∧ (¬ (v4 < 0) → ((v4 < (r_3 - 1) → wj_Cw_change_59 y Post a0 s_4 v1 v2 v3 v4 r_3) ∧ (¬ (v4 < (r_3 - 1)) → wj_Cw_change_57 y Post a0 s_4))))))))))) s_2 a0 v1) ∧ (¬ (v2 ≤ 3) → wj_Cw_change_17 y Post a0 s_2))))))) σ a0 v1
set_option maxHeartbeats 4000000 in
set_option maxRecDepth 100000 in
theorem cu_Cw_change (l : Launch) (D : va_G) (g : Nat → ClassId) (ad : Nat → Nat) (y : Ly) (Post : St → Int32 → Prop) (σ : St) (a0 : Nat) (v1 : Int32) (v2 : Int32) (v3 : Int32) (v4 : Int32) (sz : Nat) (h_a0 : cl a0 = 11) (h : wu_Cw_change y Post σ a0 v1 v2 v3 v4) : Met l y_Cw_change (mw y_Cw_change b_Cw_change 8 (some .int)) ru_Cw_change (PC g D [] [.ref (ad a0), .int v1, .int v2, .int v3, .int v4] sz (ws g ad y σ)) (va_Qi (fun (r : Int32) (u : St) => Post u r) (QW D (va_A (ws g ad y σ) sz) (fun u => ws g ad y u)) (va_A (ws g ad y σ) sz)) 0 0 (va_A (ws g ad y σ) sz) := by
  refine ofI (by decide +kernel) (Nat.le_of_ble_eq_true rfl) ?_
  intro p e s m args below meth c A Q ls H locs G hsz hP hD hS hl hret
  subst hsz
  have hl : lv_has ls 8 [(0, .ref (ad a0)), (1, .int v1), (2, .int v2), (3, .int v3), (4, .int v4)] := hl
  unfold wu_Cw_change at h
  refine lv_aload_n G.1 G.2.1 d_Cw_change_0 rfl (lv_at hl 0 rfl) ?_
  refine lv_iload_n G.1 G.2.1 d_Cw_change_1 rfl (lv_at hl 1 rfl) ?_
  refine ucVi (As := [.int v1]) (rest := []) G hP hD hS (cu_Cw_isTrial l D g ad y _ σ a0 v1 H.size h_a0 h) w9_Cw_isTrial q2473 ⟨Nat.le_of_ble_eq_true rfl, Nat.le_of_ble_eq_true rfl⟩ rfl rfl h_a0 (q := (RCw, TCw, 20)) rfl rfl hl.1 rfl (Nat.le_of_ble_eq_true rfl) rfl ⟨Nat.le_refl _, Nat.le_refl _⟩ d_Cw_change_2 (fun r_1 s_2 H locs h hP hD hS => ?_)
  have J_17 : ∀ (s_j17 : St) (H : Heap) (locs : List Loc), wj_Cw_change_17 y Post a0 s_j17 → va_P D CL (ws g ad y s_j17) H → va_D A (ws g ad y s_j17) → va_S A s.heap H locs → ∀ ls, lv_has ls 8 [] → W p l e ru_Cw_change s m args below meth c H locs 0 0 Q (F0 m 17 ls []) := by
    intro s_j17 H locs h hP hD hS ls hl
    unfold wj_Cw_change_17 at h
    refine lv_iconst (v := (-1)) G.1 G.2.1 d_Cw_change_17 (by decide) ?_
    exact hret _ _ _ _ _ _ _ ls h hP hD hS (Nat.le_refl _) (Nat.le_refl _) d_Cw_change_18
  refine lv_if_eq (tgt := 17) G.1 G.2.1 d_Cw_change_5 (by decide) (fun c5 => ?_) (fun c5 => ?_)
  · skip
    have h := h.1 c5
    exact J_17 s_2 H locs h hP hD hS ls (lv_sub hl [] rfl)
  · skip
    have h := h.2 c5
    refine lv_iload_n G.1 G.2.1 d_Cw_change_8 rfl (lv_at hl 2 rfl) ?_
    refine lv_if_lt (tgt := 17) G.1 G.2.1 d_Cw_change_9 (by decide) (fun c9 => ?_) (fun c9 => ?_)
    · skip
      have h := h.1 c9
      exact J_17 s_2 H locs h hP hD hS ls (lv_sub hl [] rfl)
    · skip
      have h := h.2 c9
      refine lv_iload_n G.1 G.2.1 d_Cw_change_12 rfl (lv_at hl 2 rfl) ?_
      refine lv_iconst (v := 3) G.1 G.2.1 d_Cw_change_13 (by decide) ?_
      refine lv_icmp_le (tgt := 19) G.1 G.2.1 d_Cw_change_14 (by decide) (fun c14 => ?_) (fun c14 => ?_)
      · skip
        have h := h.1 c14
        refine lv_aload_n G.1 G.2.1 d_Cw_change_19 rfl (lv_at hl 0 rfl) ?_
        refine lv_iload_n G.1 G.2.1 d_Cw_change_20 rfl (lv_at hl 1 rfl) ?_
        refine W.eq (g2 := F0 m 21 ls [.int v1, .ref (ad a0)]) rfl ?_
        refine ucVi (As := [.int v1]) (rest := []) G hP hD hS (cu_Cw_lineCount l D g ad y _ s_2 a0 v1 H.size h_a0 h) w9_Cw_lineCount q2542 ⟨Nat.le_of_ble_eq_true rfl, Nat.le_of_ble_eq_true rfl⟩ rfl rfl h_a0 (q := (RCw, TCw, 20)) rfl rfl hl.1 rfl (Nat.le_of_ble_eq_true rfl) rfl ⟨Nat.le_refl _, Nat.le_refl _⟩ d_Cw_change_21 (fun r_3 s_4 H locs h hP hD hS => ?_)
        refine lv_istore (lv' := [(5, .int r_3), (0, .ref (ad a0)), (1, .int v1), (2, .int v2), (3, .int v3), (4, .int v4)]) G.1 G.2.1 d_Cw_change_24 hl (by decide) rfl (fun ls hl => ?_)
        refine lv_iload_n G.1 G.2.1 d_Cw_change_26 rfl (lv_at hl 4 rfl) ?_
        have J_57 : ∀ (s_j57 : St) (H : Heap) (locs : List Loc), wj_Cw_change_57 y Post a0 s_j57 → va_P D CL (ws g ad y s_j57) H → va_D A (ws g ad y s_j57) → va_S A s.heap H locs → ∀ ls, lv_has ls 8 [] → W p l e ru_Cw_change s m args below meth c H locs 0 0 Q (F0 m 57 ls []) := by
          intro s_j57 H locs h hP hD hS ls hl
          unfold wj_Cw_change_57 at h
          refine lv_iconst (v := (-1)) G.1 G.2.1 d_Cw_change_57 (by decide) ?_
          exact hret _ _ _ _ _ _ _ ls h hP hD hS (Nat.le_refl _) (Nat.le_refl _) d_Cw_change_58
        refine lv_if_lt (tgt := 57) G.1 G.2.1 d_Cw_change_27 (by decide) (fun c27 => ?_) (fun c27 => ?_)
        · skip
          have h := h.1 c27
          exact J_57 s_4 H locs h hP hD hS ls (lv_sub hl [] rfl)
        · skip
          have h := h.2 c27
          refine lv_iload_n G.1 G.2.1 d_Cw_change_30 rfl (lv_at hl 4 rfl) ?_
          refine lv_iload G.1 G.2.1 d_Cw_change_31 (lv_at hl 0 rfl) ?_
          refine lv_iconst (v := 1) G.1 G.2.1 d_Cw_change_33 (by decide) ?_
          refine lv_isub G.1 G.2.1 d_Cw_change_34 ?_
          refine lv_icmp_ge (tgt := 57) G.1 G.2.1 d_Cw_change_35 (by decide) (fun c35 => ?_) (fun c35 => ?_)
          · skip
            have h := h.1 c35
            exact J_57 s_4 H locs h hP hD hS ls (lv_sub hl [] rfl)
          · skip
            have h := h.2 c35
            refine lv_iload_n G.1 G.2.1 d_Cw_change_38 rfl (lv_at hl 3 rfl) ?_
            refine lv_iconst (v := 1) G.1 G.2.1 d_Cw_change_39 (by decide) ?_
            have J_59 : ∀ (s_j59 : St) (x1j59 : Int32) (x2j59 : Int32) (x3j59 : Int32) (x4j59 : Int32) (x5j59 : Int32) (H : Heap) (locs : List Loc), wj_Cw_change_59 y Post a0 s_j59 x1j59 x2j59 x3j59 x4j59 x5j59 → va_P D CL (ws g ad y s_j59) H → va_D A (ws g ad y s_j59) → va_S A s.heap H locs → ∀ ls, lv_has ls 8 [(0, .ref (ad a0)), (1, .int x1j59), (2, .int x2j59), (3, .int x3j59), (4, .int x4j59), (5, .int x5j59)] → W p l e ru_Cw_change s m args below meth c H locs 0 0 Q (F0 m 59 ls []) := by
              intro s_j59 x1j59 x2j59 x3j59 x4j59 x5j59 H locs h hP hD hS ls hl
              unfold wj_Cw_change_59 at h
              refine lv_iconst (v := 0) G.1 G.2.1 d_Cw_change_59 (by decide) ?_
              refine lv_istore (lv' := [(6, .int 0), (0, .ref (ad a0)), (1, .int x1j59), (2, .int x2j59), (3, .int x3j59), (4, .int x4j59), (5, .int x5j59)]) G.1 G.2.1 d_Cw_change_60 hl (by decide) rfl (fun ls hl => ?_)
              refine lv_iconst (v := 0) G.1 G.2.1 d_Cw_change_62 (by decide) ?_
              refine lv_istore (lv' := [(7, .int 0), (6, .int 0), (0, .ref (ad a0)), (1, .int x1j59), (2, .int x2j59), (3, .int x3j59), (4, .int x4j59), (5, .int x5j59)]) G.1 G.2.1 d_Cw_change_63 hl (by decide) rfl (fun ls hl => ?_)
              unfold wl_Cw_change_65 at h
              obtain ⟨I_65, μ_65, hI_65, hB_65⟩ := h
              have L_65 : ∀ (n_65 : Nat) (s_h65 : St) (x1h65 : Int32) (x2h65 : Int32) (x3h65 : Int32) (x4h65 : Int32) (x5h65 : Int32) (x6h65 : Int32) (x7h65 : Int32), μ_65 s_h65 x1h65 x2h65 x3h65 x4h65 x5h65 x6h65 x7h65 < n_65 → I_65 s_h65 x1h65 x2h65 x3h65 x4h65 x5h65 x6h65 x7h65 → ∀ (H : Heap) (locs : List Loc), va_P D CL (ws g ad y s_h65) H → va_D A (ws g ad y s_h65) → va_S A s.heap H locs → ∀ ls, lv_has ls 8 [(0, .ref (ad a0)), (1, .int x1h65), (2, .int x2h65), (3, .int x3h65), (4, .int x4h65), (5, .int x5h65), (6, .int x6h65), (7, .int x7h65)] → W p l e ru_Cw_change s m args below meth c H locs 0 0 Q (F0 m 65 ls []) := by
                intro n_65
                induction n_65 with
                | zero => intro s_h65 x1h65 x2h65 x3h65 x4h65 x5h65 x6h65 x7h65 hμ; exact absurd hμ (Nat.not_lt_zero _)
                | succ n_65 ih_65 =>
                  intro s_h65 x1h65 x2h65 x3h65 x4h65 x5h65 x6h65 x7h65 hμ_65 hJ H locs hP hD hS ls hl
                  obtain ⟨K_65, hK_65, h⟩ : ∃ K : St → Int32 → Int32 → Int32 → Int32 → Int32 → Int32 → Int32 → Prop, (∀ z (t0 : Int32) (t1 : Int32) (t2 : Int32) (t3 : Int32) (t4 : Int32) (t5 : Int32) (t6 : Int32), K z t0 t1 t2 t3 t4 t5 t6 → I_65 z t0 t1 t2 t3 t4 t5 t6 ∧ μ_65 z t0 t1 t2 t3 t4 t5 t6 < μ_65 s_h65 x1h65 x2h65 x3h65 x4h65 x5h65 x6h65 x7h65) ∧ wb_Cw_change_65 y Post K a0 s_h65 x1h65 x2h65 x3h65 x4h65 x5h65 x6h65 x7h65 := ⟨_, fun _ _ _ _ _ _ _ _ h => h, hB_65 s_h65 x1h65 x2h65 x3h65 x4h65 x5h65 x6h65 x7h65 hJ⟩
                  unfold wb_Cw_change_65 at h
                  refine lv_iload G.1 G.2.1 d_Cw_change_65 (lv_at hl 7 rfl) ?_
                  refine lv_iload G.1 G.2.1 d_Cw_change_67 (lv_at hl 5 rfl) ?_
                  refine lv_icmp_ge (tgt := 93) G.1 G.2.1 d_Cw_change_69 (by decide) (fun c69 => ?_) (fun c69 => ?_)
                  · skip
                    have h := h.1 c69
                    refine lv_iload_n G.1 G.2.1 d_Cw_change_93 rfl (lv_at hl 2 rfl) ?_
                    refine lv_iconst (v := 1) G.1 G.2.1 d_Cw_change_94 (by decide) ?_
                    have J_110 : ∀ (s_j110 : St) (x6j110 : Int32) (z0j110 : Int32) (H : Heap) (locs : List Loc), wj_Cw_change_110 y Post a0 s_j110 x6j110 z0j110 → va_P D CL (ws g ad y s_j110) H → va_D A (ws g ad y s_j110) → va_S A s.heap H locs → ∀ ls, lv_has ls 8 [(0, .ref (ad a0)), (6, .int x6j110)] → W p l e ru_Cw_change s m args below meth c H locs 0 0 Q (F0 m 110 ls [.int z0j110]) := by
                      intro s_j110 x6j110 z0j110 H locs h hP hD hS ls hl
                      unfold wj_Cw_change_110 at h
                      refine lv_istore (lv' := [(7, .int z0j110), (0, .ref (ad a0)), (6, .int x6j110)]) G.1 G.2.1 d_Cw_change_110 hl (by decide) rfl (fun ls hl => ?_)
                      refine lv_aload_n G.1 G.2.1 d_Cw_change_112 rfl (lv_at hl 1 rfl) ?_
                      refine ugf (v := .int (sV s_j110 a0 14)) G hP h_a0 iCw rfl 14 (by decide) rfl q1148 rfl rfl d_Cw_change_113 ?_
                      refine lv_bipush (v := 40) G.1 G.2.1 d_Cw_change_116 (by decide) ?_
                      have J_134 : ∀ (s_j134 : St) (H : Heap) (locs : List Loc), wj_Cw_change_134 y Post a0 s_j134 → va_P D CL (ws g ad y s_j134) H → va_D A (ws g ad y s_j134) → va_S A s.heap H locs → ∀ ls, lv_has ls 8 [] → W p l e ru_Cw_change s m args below meth c H locs 0 0 Q (F0 m 134 ls []) := by
                        intro s_j134 H locs h hP hD hS ls hl
                        unfold wj_Cw_change_134 at h
                        refine lv_bipush (v := (-3)) G.1 G.2.1 d_Cw_change_134 (by decide) ?_
                        exact hret _ _ _ _ _ _ _ ls h hP hD hS (Nat.le_refl _) (Nat.le_refl _) d_Cw_change_136
                      refine lv_icmp_eq (tgt := 134) G.1 G.2.1 d_Cw_change_118 (by decide) (fun c118 => ?_) (fun c118 => ?_)
                      · skip
                        have h := h.1 c118
                        exact J_134 s_j110 H locs h hP hD hS ls (lv_sub hl [] rfl)
                      · skip
                        have h := h.2 c118
                        refine lv_iload G.1 G.2.1 d_Cw_change_121 (lv_at hl 2 rfl) ?_
                        refine lv_sipush (v := 1200) G.1 G.2.1 d_Cw_change_123 (by decide) ?_
                        refine lv_icmp_gt (tgt := 134) G.1 G.2.1 d_Cw_change_126 (by decide) (fun c126 => ?_) (fun c126 => ?_)
                        · skip
                          have h := h.1 c126
                          exact J_134 s_j110 H locs h hP hD hS ls (lv_sub hl [] rfl)
                        · skip
                          have h := h.2 c126
                          refine lv_iload G.1 G.2.1 d_Cw_change_129 (lv_at hl 0 rfl) ?_
                          refine lv_if_eq (tgt := 137) G.1 G.2.1 d_Cw_change_131 (by decide) (fun c131 => ?_) (fun c131 => ?_)
                          · skip
                            have h := h.1 c131
                            refine lv_aload_n G.1 G.2.1 d_Cw_change_137 rfl (lv_at hl 1 rfl) ?_
                            refine W.eq (g2 := F0 m 138 ls [.ref (ad a0)]) rfl ?_
                            refine lv_iload G.1 G.2.1 d_Cw_change_138 (lv_at hl 2 rfl) ?_
                            refine ucVi (As := [.int x6j110]) (rest := []) G hP hD hS (cu_Cw_keepDraft l D g ad y _ s_j110 a0 x6j110 H.size h_a0 h) w9_Cw_keepDraft q2464 ⟨Nat.le_of_ble_eq_true rfl, Nat.le_of_ble_eq_true rfl⟩ rfl rfl h_a0 (q := (RCw, TCw, 20)) rfl rfl hl.1 rfl (Nat.le_of_ble_eq_true rfl) rfl ⟨Nat.le_refl _, Nat.le_refl _⟩ d_Cw_change_140 (fun r_5 s_6 H locs h hP hD hS => ?_)
                            exact hret _ _ _ _ _ _ _ ls h hP hD hS (Nat.le_refl _) (Nat.le_refl _) d_Cw_change_143
                          · skip
                            have h := h.2 c131
                            exact J_134 s_j110 H locs h hP hD hS ls (lv_sub hl [] rfl)
                    have J_109 : ∀ (s_j109 : St) (x6j109 : Int32) (H : Heap) (locs : List Loc), wj_Cw_change_109 y Post a0 s_j109 x6j109 → va_P D CL (ws g ad y s_j109) H → va_D A (ws g ad y s_j109) → va_S A s.heap H locs → ∀ ls, lv_has ls 8 [(0, .ref (ad a0)), (6, .int x6j109)] → W p l e ru_Cw_change s m args below meth c H locs 0 0 Q (F0 m 109 ls []) := by
                      intro s_j109 x6j109 H locs h hP hD hS ls hl
                      unfold wj_Cw_change_109 at h
                      refine lv_iconst (v := 0) G.1 G.2.1 d_Cw_change_109 (by decide) ?_
                      exact J_110 s_j109 x6j109 0 H locs h hP hD hS ls (lv_sub hl [0, 1] rfl)
                    refine lv_icmp_ne (tgt := 109) G.1 G.2.1 d_Cw_change_95 (by decide) (fun c95 => ?_) (fun c95 => ?_)
                    · skip
                      have h := h.1 c95
                      exact J_109 s_h65 x6h65 H locs h hP hD hS ls (lv_sub hl [0, 6] rfl)
                    · skip
                      have h := h.2 c95
                      refine lv_iload G.1 G.2.1 d_Cw_change_98 (lv_at hl 5 rfl) ?_
                      refine lv_bipush (v := 60) G.1 G.2.1 d_Cw_change_100 (by decide) ?_
                      refine lv_icmp_ne (tgt := 109) G.1 G.2.1 d_Cw_change_102 (by decide) (fun c102 => ?_) (fun c102 => ?_)
                      · skip
                        have h := h.1 c102
                        exact J_109 s_h65 x6h65 H locs h hP hD hS ls (lv_sub hl [0, 6] rfl)
                      · skip
                        have h := h.2 c102
                        refine lv_iconst (v := 1) G.1 G.2.1 d_Cw_change_105 (by decide) ?_
                        refine lv_goto (tgt := 110) G.1 G.2.1 d_Cw_change_106 (by decide) ?_
                        exact J_110 s_h65 x6h65 1 H locs h hP hD hS ls (lv_sub hl [0, 6] rfl)
                  · skip
                    have h := h.2 c69
                    refine lv_aload_n G.1 G.2.1 d_Cw_change_72 rfl (lv_at hl 0 rfl) ?_
                    refine lv_iload_n G.1 G.2.1 d_Cw_change_73 rfl (lv_at hl 1 rfl) ?_
                    refine lv_iload_n G.1 G.2.1 d_Cw_change_74 rfl (lv_at hl 2 rfl) ?_
                    refine lv_iload G.1 G.2.1 d_Cw_change_75 (lv_at hl 7 rfl) ?_
                    refine lv_iload_n G.1 G.2.1 d_Cw_change_77 rfl (lv_at hl 3 rfl) ?_
                    refine lv_iload G.1 G.2.1 d_Cw_change_78 (lv_at hl 4 rfl) ?_
                    refine lv_iload G.1 G.2.1 d_Cw_change_80 (lv_at hl 6 rfl) ?_
                    refine ucVi (As := [.int x1h65, .int x2h65, .int x7h65, .int x3h65, .int x4h65, .int x6h65]) (rest := []) G hP hD hS (cu_Cw_draftChanged l D g ad y _ s_h65 a0 x1h65 x2h65 x7h65 x3h65 x4h65 x6h65 H.size h_a0 h) w9_Cw_draftChanged q2558 ⟨Nat.le_of_ble_eq_true rfl, Nat.le_of_ble_eq_true rfl⟩ rfl rfl h_a0 (q := (RCw, TCw, 20)) rfl rfl hl.1 rfl (Nat.le_of_ble_eq_true rfl) rfl ⟨Nat.le_refl _, Nat.le_refl _⟩ d_Cw_change_82 (fun r_7 s_8 H locs h hP hD hS => ?_)
                    refine W.eq (g2 := F0 m 85 ls [.int r_7]) rfl ?_
                    refine lv_istore (lv' := [(6, .int r_7), (0, .ref (ad a0)), (1, .int x1h65), (2, .int x2h65), (3, .int x3h65), (4, .int x4h65), (5, .int x5h65), (7, .int x7h65)]) G.1 G.2.1 d_Cw_change_85 hl (by decide) rfl (fun ls hl => ?_)
                    refine lv_iinc (v := x7h65 + 1) (lv' := [(7, .int (x7h65 + 1)), (6, .int r_7), (0, .ref (ad a0)), (1, .int x1h65), (2, .int x2h65), (3, .int x3h65), (4, .int x4h65), (5, .int x5h65)]) G.1 G.2.1 d_Cw_change_87 hl (k := 7) rfl rfl (by decide) rfl (fun ls hl => ?_)
                    refine lv_goto (tgt := 65) G.1 G.2.1 d_Cw_change_90 (by decide) ?_
                    have h := hK_65 s_8 x1h65 x2h65 x3h65 x4h65 x5h65 r_7 (x7h65 + 1) h
                    exact ih_65 s_8 x1h65 x2h65 x3h65 x4h65 x5h65 r_7 (x7h65 + 1) (Nat.lt_of_lt_of_le h.2 (Nat.le_of_lt_succ hμ_65)) h.1 H locs hP hD hS ls (lv_sub hl [2, 3, 4, 5, 6, 7, 1, 0] rfl)
              exact L_65 _ s_j59 x1j59 x2j59 x3j59 x4j59 x5j59 0 0 (Nat.lt_succ_self _) hI_65 H locs hP hD hS ls (lv_sub hl [2, 3, 4, 5, 6, 7, 1, 0] rfl)
            refine lv_icmp_le (tgt := 59) G.1 G.2.1 d_Cw_change_40 (by decide) (fun c40 => ?_) (fun c40 => ?_)
            · skip
              have h := h.1 c40
              exact J_59 s_4 v1 v2 v3 v4 r_3 H locs h hP hD hS ls (lv_sub hl [1, 2, 3, 4, 5, 0] rfl)
            · skip
              have h := h.2 c40
              refine W.eq (g2 := F0 m 43 ls []) rfl ?_
              refine lv_iload G.1 G.2.1 d_Cw_change_43 (lv_at hl 5 rfl) ?_
              refine lv_if_lt (tgt := 57) G.1 G.2.1 d_Cw_change_45 (by decide) (fun c45 => ?_) (fun c45 => ?_)
              · skip
                have h := h.1 c45
                exact J_57 s_4 H locs h hP hD hS ls (lv_sub hl [] rfl)
              · skip
                have h := h.2 c45
                refine lv_iload G.1 G.2.1 d_Cw_change_48 (lv_at hl 5 rfl) ?_
                refine lv_iload G.1 G.2.1 d_Cw_change_50 (lv_at hl 0 rfl) ?_
                refine lv_iconst (v := 1) G.1 G.2.1 d_Cw_change_52 (by decide) ?_
                refine lv_isub G.1 G.2.1 d_Cw_change_53 ?_
                refine lv_icmp_lt (tgt := 59) G.1 G.2.1 d_Cw_change_54 (by decide) (fun c54 => ?_) (fun c54 => ?_)
                · skip
                  have h := h.1 c54
                  exact J_59 s_4 v1 v2 v3 v4 r_3 H locs h hP hD hS ls (lv_sub hl [1, 2, 3, 4, 5, 0] rfl)
                · skip
                  have h := h.2 c54
                  exact J_57 s_4 H locs h hP hD hS ls (lv_sub hl [] rfl)
      · skip
        have h := h.2 c14
        exact J_17 s_2 H locs h hP hD hS ls (lv_sub hl [] rfl)
def y_Cw_text : MethodName := ⟨"ClassWorks", "text", "(II)I"⟩
abbrev b_Cw_text : ByteArray := prog_1_method_72_code
theorem d_Cw_text_0 : decode b_Cw_text 0 = .ok (.aload_n 0, 1) := by decide +kernel
theorem d_Cw_text_1 : decode b_Cw_text 1 = .ok (.iload_n 1, 1) := by decide +kernel
theorem d_Cw_text_2 : decode b_Cw_text 2 = .ok (.invokevirtual 470, 3) := by decide +kernel
theorem d_Cw_text_5 : decode b_Cw_text 5 = .ok (.ifCond .eq 17, 3) := by decide +kernel
theorem d_Cw_text_8 : decode b_Cw_text 8 = .ok (.iload_n 2, 1) := by decide +kernel
theorem d_Cw_text_9 : decode b_Cw_text 9 = .ok (.ifCond .lt 13, 3) := by decide +kernel
theorem d_Cw_text_12 : decode b_Cw_text 12 = .ok (.iload_n 2, 1) := by decide +kernel
theorem d_Cw_text_13 : decode b_Cw_text 13 = .ok (.aload_n 0, 1) := by decide +kernel
theorem d_Cw_text_14 : decode b_Cw_text 14 = .ok (.getfield 36, 3) := by decide +kernel
theorem d_Cw_text_17 : decode b_Cw_text 17 = .ok (.iload_n 1, 1) := by decide +kernel
theorem d_Cw_text_18 : decode b_Cw_text 18 = .ok (.iaload, 1) := by decide +kernel
theorem d_Cw_text_19 : decode b_Cw_text 19 = .ok (.if_icmp .lt 5, 3) := by decide +kernel
theorem d_Cw_text_22 : decode b_Cw_text 22 = .ok (.iconst (-1), 1) := by decide +kernel
theorem d_Cw_text_23 : decode b_Cw_text 23 = .ok (.ireturn, 1) := by decide +kernel
theorem d_Cw_text_24 : decode b_Cw_text 24 = .ok (.aload_n 0, 1) := by decide +kernel
theorem d_Cw_text_25 : decode b_Cw_text 25 = .ok (.getfield 33, 3) := by decide +kernel
theorem d_Cw_text_28 : decode b_Cw_text 28 = .ok (.iload_n 1, 1) := by decide +kernel
theorem d_Cw_text_29 : decode b_Cw_text 29 = .ok (.sipush 1204, 3) := by decide +kernel
theorem d_Cw_text_32 : decode b_Cw_text 32 = .ok (.imul, 1) := by decide +kernel
theorem d_Cw_text_33 : decode b_Cw_text 33 = .ok (.iload_n 2, 1) := by decide +kernel
theorem d_Cw_text_34 : decode b_Cw_text 34 = .ok (.iadd, 1) := by decide +kernel
theorem d_Cw_text_35 : decode b_Cw_text 35 = .ok (.baload, 1) := by decide +kernel
theorem d_Cw_text_36 : decode b_Cw_text 36 = .ok (.sipush 255, 3) := by decide +kernel
theorem d_Cw_text_39 : decode b_Cw_text 39 = .ok (.iand, 1) := by decide +kernel
theorem d_Cw_text_40 : decode b_Cw_text 40 = .ok (.ireturn, 1) := by decide +kernel
abbrev ru_Cw_text : Room := { frames := 1, cells := 0, slots := 0, locals := 21 }
def wj_Cw_text_22 (y : Ly) (Post : St → Int32 → Prop) (a0 : Nat) (s_j22 : St) : Prop := Post s_j22 (-1)
def wu_Cw_text (y : Ly) (Post : St → Int32 → Prop) (σ : St) (a0 : Nat) (v1 : Int32) (v2 : Int32) : Prop := wu_Cw_isTrial y (fun (s_2 : St) (r_1 : Int32) => ((r_1 = 0 → wj_Cw_text_22 y Post a0 s_2) ∧ (¬ (r_1 = 0) → ((v2 < 0 → wj_Cw_text_22 y Post a0 s_2) ∧ (¬ (v2 < 0) → xA y s_2 a0 11 v1 (fun x_3 : Int32 => ((v2 < x_3 → xA y s_2 a0 10 ((v1 * 1204) + v2) (fun x_4 : Int32 => Post s_2 (x_4 &&& 255))) ∧ (¬ (v2 < x_3) → wj_Cw_text_22 y Post a0 s_2)))))))) σ a0 v1
set_option maxHeartbeats 4000000 in
set_option maxRecDepth 100000 in
theorem cu_Cw_text (l : Launch) (D : va_G) (g : Nat → ClassId) (ad : Nat → Nat) (y : Ly) (Post : St → Int32 → Prop) (σ : St) (a0 : Nat) (v1 : Int32) (v2 : Int32) (sz : Nat) (h_a0 : cl a0 = 11) (h : wu_Cw_text y Post σ a0 v1 v2) : Met l y_Cw_text (mw y_Cw_text b_Cw_text 3 (some .int)) ru_Cw_text (PC g D [] [.ref (ad a0), .int v1, .int v2] sz (ws g ad y σ)) (va_Qi (fun (r : Int32) (u : St) => Post u r) (QW D (va_A (ws g ad y σ) sz) (fun u => ws g ad y u)) (va_A (ws g ad y σ) sz)) 0 0 (va_A (ws g ad y σ) sz) := by
  refine ofI (by decide +kernel) (Nat.le_of_ble_eq_true rfl) ?_
  intro p e s m args below meth c A Q ls H locs G hsz hP hD hS hl hret
  subst hsz
  have hl : lv_has ls 3 [(0, .ref (ad a0)), (1, .int v1), (2, .int v2)] := hl
  unfold wu_Cw_text at h
  refine lv_aload_n G.1 G.2.1 d_Cw_text_0 rfl (lv_at hl 0 rfl) ?_
  refine lv_iload_n G.1 G.2.1 d_Cw_text_1 rfl (lv_at hl 1 rfl) ?_
  refine ucVi (As := [.int v1]) (rest := []) G hP hD hS (cu_Cw_isTrial l D g ad y _ σ a0 v1 H.size h_a0 h) w9_Cw_isTrial q2473 ⟨Nat.le_of_ble_eq_true rfl, Nat.le_of_ble_eq_true rfl⟩ rfl rfl h_a0 (q := (RCw, TCw, 20)) rfl rfl hl.1 rfl (Nat.le_of_ble_eq_true rfl) rfl ⟨Nat.le_refl _, Nat.le_refl _⟩ d_Cw_text_2 (fun r_1 s_2 H locs h hP hD hS => ?_)
  have J_22 : ∀ (s_j22 : St) (H : Heap) (locs : List Loc), wj_Cw_text_22 y Post a0 s_j22 → va_P D CL (ws g ad y s_j22) H → va_D A (ws g ad y s_j22) → va_S A s.heap H locs → ∀ ls, lv_has ls 3 [] → W p l e ru_Cw_text s m args below meth c H locs 0 0 Q (F0 m 22 ls []) := by
    intro s_j22 H locs h hP hD hS ls hl
    unfold wj_Cw_text_22 at h
    refine lv_iconst (v := (-1)) G.1 G.2.1 d_Cw_text_22 (by decide) ?_
    exact hret _ _ _ _ _ _ _ ls h hP hD hS (Nat.le_refl _) (Nat.le_refl _) d_Cw_text_23
  refine lv_if_eq (tgt := 22) G.1 G.2.1 d_Cw_text_5 (by decide) (fun c5 => ?_) (fun c5 => ?_)
  · skip
    have h := h.1 c5
    exact J_22 s_2 H locs h hP hD hS ls (lv_sub hl [] rfl)
  · skip
    have h := h.2 c5
    refine lv_iload_n G.1 G.2.1 d_Cw_text_8 rfl (lv_at hl 2 rfl) ?_
    refine lv_if_lt (tgt := 22) G.1 G.2.1 d_Cw_text_9 (by decide) (fun c9 => ?_) (fun c9 => ?_)
    · skip
      have h := h.1 c9
      exact J_22 s_2 H locs h hP hD hS ls (lv_sub hl [] rfl)
    · skip
      have h := h.2 c9
      refine lv_iload_n G.1 G.2.1 d_Cw_text_12 rfl (lv_at hl 2 rfl) ?_
      refine lv_aload_n G.1 G.2.1 d_Cw_text_13 rfl (lv_at hl 0 rfl) ?_
      refine ugf (v := .ref (yP y a0 11)) G hP h_a0 iCw rfl 11 (by decide) rfl q1145 rfl rfl d_Cw_text_14 ?_
      refine lv_iload_n G.1 G.2.1 d_Cw_text_17 rfl (lv_at hl 1 rfl) ?_
      refine uiald G hP (kdp h_a0 rfl) (typ h_a0 rfl) h d_Cw_text_18 (fun x_3 h => ?_)
      refine W.eq (g2 := F0 m 19 ls [.int x_3, .int v2]) rfl ?_
      refine lv_icmp_lt (tgt := 24) G.1 G.2.1 d_Cw_text_19 (by decide) (fun c19 => ?_) (fun c19 => ?_)
      · skip
        have h := h.1 c19
        refine lv_aload_n G.1 G.2.1 d_Cw_text_24 rfl (lv_at hl 0 rfl) ?_
        refine ugf (v := .ref (yP y a0 10)) G hP h_a0 iCw rfl 10 (by decide) rfl q1144 rfl rfl d_Cw_text_25 ?_
        refine lv_iload_n G.1 G.2.1 d_Cw_text_28 rfl (lv_at hl 1 rfl) ?_
        refine lv_sipush (v := 1204) G.1 G.2.1 d_Cw_text_29 (by decide) ?_
        refine lv_imul G.1 G.2.1 d_Cw_text_32 ?_
        refine lv_iload_n G.1 G.2.1 d_Cw_text_33 rfl (lv_at hl 2 rfl) ?_
        refine lv_iadd G.1 G.2.1 d_Cw_text_34 ?_
        refine ubald G hP (kdp h_a0 rfl) (typ h_a0 rfl) h d_Cw_text_35 (fun x_4 h => ?_)
        refine lv_sipush (v := 255) G.1 G.2.1 d_Cw_text_36 (by decide) ?_
        refine lv_iand G.1 G.2.1 d_Cw_text_39 ?_
        exact hret _ _ _ _ _ _ _ ls h hP hD hS (Nat.le_refl _) (Nat.le_refl _) d_Cw_text_40
      · skip
        have h := h.2 c19
        exact J_22 s_2 H locs h hP hD hS ls (lv_sub hl [] rfl)
def y_Cw_count : MethodName := ⟨"ClassWorks", "count", "(I)I"⟩
abbrev b_Cw_count : ByteArray := prog_1_method_73_code
theorem q1143 : Cond.fieldLink "ClassWorks" 29 "ClassWorks" "stepsLeft" "I" ∈ lw_ok := lw_okmem (List.mem_of_getElem? (i := 1143) (by decide +kernel)) rfl
theorem d_Cw_count_0 : decode b_Cw_count 0 = .ok (.iload_n 1, 1) := by decide +kernel
theorem d_Cw_count_1 : decode b_Cw_count 1 = .ok (.tableswitch 42 0 2 #[27, 32, 37], 27) := by decide +kernel
theorem d_Cw_count_28 : decode b_Cw_count 28 = .ok (.aload_n 0, 1) := by decide +kernel
theorem d_Cw_count_29 : decode b_Cw_count 29 = .ok (.getfield 46, 3) := by decide +kernel
theorem d_Cw_count_32 : decode b_Cw_count 32 = .ok (.ireturn, 1) := by decide +kernel
theorem d_Cw_count_33 : decode b_Cw_count 33 = .ok (.aload_n 0, 1) := by decide +kernel
theorem d_Cw_count_34 : decode b_Cw_count 34 = .ok (.getfield 29, 3) := by decide +kernel
theorem d_Cw_count_37 : decode b_Cw_count 37 = .ok (.ireturn, 1) := by decide +kernel
theorem d_Cw_count_38 : decode b_Cw_count 38 = .ok (.aload_n 0, 1) := by decide +kernel
theorem d_Cw_count_39 : decode b_Cw_count 39 = .ok (.getfield 21, 3) := by decide +kernel
theorem d_Cw_count_42 : decode b_Cw_count 42 = .ok (.ireturn, 1) := by decide +kernel
theorem d_Cw_count_43 : decode b_Cw_count 43 = .ok (.iconst (-1), 1) := by decide +kernel
theorem d_Cw_count_44 : decode b_Cw_count 44 = .ok (.ireturn, 1) := by decide +kernel
abbrev ru_Cw_count : Room := { frames := 0, cells := 0, slots := 0, locals := 0 }
def wu_Cw_count (y : Ly) (Post : St → Int32 → Prop) (σ : St) (a0 : Nat) (v1 : Int32) : Prop := ((v1 = 0 → Post σ (sV σ a0 14)) ∧ (¬ (v1 = 0) → ((v1 = 1 → Post σ (sV σ a0 9)) ∧ (¬ (v1 = 1) → ((v1 = 2 → Post σ (sV σ a0 7)) ∧ (¬ (v1 = 2) → Post σ (-1)))))))
set_option maxHeartbeats 4000000 in
set_option maxRecDepth 100000 in
theorem cu_Cw_count (l : Launch) (D : va_G) (g : Nat → ClassId) (ad : Nat → Nat) (y : Ly) (Post : St → Int32 → Prop) (σ : St) (a0 : Nat) (v1 : Int32) (sz : Nat) (h_a0 : cl a0 = 11) (h : wu_Cw_count y Post σ a0 v1) : Met l y_Cw_count (mw y_Cw_count b_Cw_count 2 (some .int)) ru_Cw_count (PC g D [] [.ref (ad a0), .int v1] sz (ws g ad y σ)) (va_Qi (fun (r : Int32) (u : St) => Post u r) (QW D (va_A (ws g ad y σ) sz) (fun u => ws g ad y u)) (va_A (ws g ad y σ) sz)) 0 0 (va_A (ws g ad y σ) sz) := by
  refine ofI (by decide +kernel) (Nat.le_of_ble_eq_true rfl) ?_
  intro p e s m args below meth c A Q ls H locs G hsz hP hD hS hl hret
  subst hsz
  have hl : lv_has ls 2 [(0, .ref (ad a0)), (1, .int v1)] := hl
  unfold wu_Cw_count at h
  refine lv_iload_n G.1 G.2.1 d_Cw_count_0 rfl (lv_at hl 1 rfl) ?_
  by_cases e1_0 : v1 = 0
  · skip
    have h := h.1 e1_0
    refine lv_tableIn (off := 27) (tgt := 28) G.1 G.2.1 d_Cw_count_1 (by rw [e1_0]; decide) (by rw [e1_0]; decide) (by rw [e1_0]; rfl) (by decide) ?_
    refine lv_aload_n G.1 G.2.1 d_Cw_count_28 rfl (lv_at hl 0 rfl) ?_
    refine ugf (v := .int (sV σ a0 14)) G hP h_a0 iCw rfl 14 (by decide) rfl q1148 rfl rfl d_Cw_count_29 ?_
    exact hret _ _ _ _ _ _ _ ls h hP hD hS (Nat.le_refl _) (Nat.le_refl _) d_Cw_count_32
  replace h := h.2 e1_0
  by_cases e1_1 : v1 = 1
  · skip
    have h := h.1 e1_1
    refine lv_tableIn (off := 32) (tgt := 33) G.1 G.2.1 d_Cw_count_1 (by rw [e1_1]; decide) (by rw [e1_1]; decide) (by rw [e1_1]; rfl) (by decide) ?_
    refine lv_aload_n G.1 G.2.1 d_Cw_count_33 rfl (lv_at hl 0 rfl) ?_
    refine ugf (v := .int (sV σ a0 9)) G hP h_a0 iCw rfl 9 (by decide) rfl q1143 rfl rfl d_Cw_count_34 ?_
    exact hret _ _ _ _ _ _ _ ls h hP hD hS (Nat.le_refl _) (Nat.le_refl _) d_Cw_count_37
  replace h := h.2 e1_1
  by_cases e1_2 : v1 = 2
  · skip
    have h := h.1 e1_2
    refine lv_tableIn (off := 37) (tgt := 38) G.1 G.2.1 d_Cw_count_1 (by rw [e1_2]; decide) (by rw [e1_2]; decide) (by rw [e1_2]; rfl) (by decide) ?_
    refine lv_aload_n G.1 G.2.1 d_Cw_count_38 rfl (lv_at hl 0 rfl) ?_
    refine ugf (v := .int (sV σ a0 7)) G hP h_a0 iCw rfl 7 (by decide) rfl q1141 rfl rfl d_Cw_count_39 ?_
    exact hret _ _ _ _ _ _ _ ls h hP hD hS (Nat.le_refl _) (Nat.le_refl _) d_Cw_count_42
  replace h := h.2 e1_2
  have te1_0 := lv_neT (a := 0) e1_0 (by decide)
  have te1_1 := lv_neT (a := 1) e1_1 (by decide)
  have te1_2 := lv_neT (a := 2) e1_2 (by decide)
  refine lv_tableOut (tgt := 43) G.1 G.2.1 d_Cw_count_1 (by omega) (by decide) ?_
  refine lv_iconst (v := (-1)) G.1 G.2.1 d_Cw_count_43 (by decide) ?_
  exact hret _ _ _ _ _ _ _ ls h hP hD hS (Nat.le_refl _) (Nat.le_refl _) d_Cw_count_44
def y_Mo_isName : MethodName := ⟨"ClassWorksModel", "isName", "(I[BII)Z"⟩
abbrev b_Mo_isName : ByteArray := prog_14_method_4_code
theorem q3065 : Cond.fieldLink "ClassWorksModel" 40 "ClassWorksModel" "nameSizes" "[B" ∈ lw_ok := lw_okmem (List.mem_of_getElem? (i := 3065) (by decide +kernel)) rfl
theorem q3064 : Cond.fieldLink "ClassWorksModel" 28 "ClassWorksModel" "nameBytes" "[B" ∈ lw_ok := lw_okmem (List.mem_of_getElem? (i := 3064) (by decide +kernel)) rfl
theorem d_Mo_isName_0 : decode b_Mo_isName 0 = .ok (.aload_n 0, 1) := by decide +kernel
theorem d_Mo_isName_1 : decode b_Mo_isName 1 = .ok (.getfield 40, 3) := by decide +kernel
theorem d_Mo_isName_4 : decode b_Mo_isName 4 = .ok (.iload_n 1, 1) := by decide +kernel
theorem d_Mo_isName_5 : decode b_Mo_isName 5 = .ok (.baload, 1) := by decide +kernel
theorem d_Mo_isName_6 : decode b_Mo_isName 6 = .ok (.iload 4, 2) := by decide +kernel
theorem d_Mo_isName_8 : decode b_Mo_isName 8 = .ok (.if_icmp .ne 7, 3) := by decide +kernel
theorem d_Mo_isName_11 : decode b_Mo_isName 11 = .ok (.iconst 1, 1) := by decide +kernel
theorem d_Mo_isName_12 : decode b_Mo_isName 12 = .ok (.goto 4, 3) := by decide +kernel
theorem d_Mo_isName_15 : decode b_Mo_isName 15 = .ok (.iconst 0, 1) := by decide +kernel
theorem d_Mo_isName_16 : decode b_Mo_isName 16 = .ok (.istore 5, 2) := by decide +kernel
theorem d_Mo_isName_18 : decode b_Mo_isName 18 = .ok (.iconst 0, 1) := by decide +kernel
theorem d_Mo_isName_19 : decode b_Mo_isName 19 = .ok (.istore 6, 2) := by decide +kernel
theorem d_Mo_isName_21 : decode b_Mo_isName 21 = .ok (.iload 6, 2) := by decide +kernel
theorem d_Mo_isName_23 : decode b_Mo_isName 23 = .ok (.iload 4, 2) := by decide +kernel
theorem d_Mo_isName_25 : decode b_Mo_isName 25 = .ok (.if_icmp .ge 42, 3) := by decide +kernel
theorem d_Mo_isName_28 : decode b_Mo_isName 28 = .ok (.iload 5, 2) := by decide +kernel
theorem d_Mo_isName_30 : decode b_Mo_isName 30 = .ok (.ifCond .eq 37, 3) := by decide +kernel
theorem d_Mo_isName_33 : decode b_Mo_isName 33 = .ok (.aload_n 0, 1) := by decide +kernel
theorem d_Mo_isName_34 : decode b_Mo_isName 34 = .ok (.getfield 28, 3) := by decide +kernel
theorem d_Mo_isName_37 : decode b_Mo_isName 37 = .ok (.bipush 12, 2) := by decide +kernel
theorem d_Mo_isName_39 : decode b_Mo_isName 39 = .ok (.iload_n 1, 1) := by decide +kernel
theorem d_Mo_isName_40 : decode b_Mo_isName 40 = .ok (.imul, 1) := by decide +kernel
theorem d_Mo_isName_41 : decode b_Mo_isName 41 = .ok (.iload 6, 2) := by decide +kernel
theorem d_Mo_isName_43 : decode b_Mo_isName 43 = .ok (.iadd, 1) := by decide +kernel
theorem d_Mo_isName_44 : decode b_Mo_isName 44 = .ok (.baload, 1) := by decide +kernel
theorem d_Mo_isName_45 : decode b_Mo_isName 45 = .ok (.aload_n 2, 1) := by decide +kernel
theorem d_Mo_isName_46 : decode b_Mo_isName 46 = .ok (.iload_n 3, 1) := by decide +kernel
theorem d_Mo_isName_47 : decode b_Mo_isName 47 = .ok (.iload 6, 2) := by decide +kernel
theorem d_Mo_isName_49 : decode b_Mo_isName 49 = .ok (.iadd, 1) := by decide +kernel
theorem d_Mo_isName_50 : decode b_Mo_isName 50 = .ok (.baload, 1) := by decide +kernel
theorem d_Mo_isName_51 : decode b_Mo_isName 51 = .ok (.if_icmp .ne 7, 3) := by decide +kernel
theorem d_Mo_isName_54 : decode b_Mo_isName 54 = .ok (.iconst 1, 1) := by decide +kernel
theorem d_Mo_isName_55 : decode b_Mo_isName 55 = .ok (.goto 4, 3) := by decide +kernel
theorem d_Mo_isName_58 : decode b_Mo_isName 58 = .ok (.iconst 0, 1) := by decide +kernel
theorem d_Mo_isName_59 : decode b_Mo_isName 59 = .ok (.istore 5, 2) := by decide +kernel
theorem d_Mo_isName_61 : decode b_Mo_isName 61 = .ok (.iinc 6 1, 3) := by decide +kernel
theorem d_Mo_isName_64 : decode b_Mo_isName 64 = .ok (.goto (-43), 3) := by decide +kernel
theorem d_Mo_isName_67 : decode b_Mo_isName 67 = .ok (.iload 5, 2) := by decide +kernel
theorem d_Mo_isName_69 : decode b_Mo_isName 69 = .ok (.ireturn, 1) := by decide +kernel
abbrev ru_Mo_isName : Room := { frames := 0, cells := 0, slots := 0, locals := 0 }
def wj_Mo_isName_67 (y : Ly) (Post : St → Int32 → Prop) (a0 : Nat) (a2 : Nat) (k2 : Nat) (s_j67 : St) (x5j67 : Int32) : Prop := (nb x5j67 ∧ Post s_j67 x5j67)
def wj_Mo_isName_59 (y : Ly) (Post : St → Int32 → Prop) (K_21 : St → Int32 → Int32 → Int32 → Int32 → Int32 → Prop) (a0 : Nat) (a2 : Nat) (k2 : Nat) (s_j59 : St) (x1j59 : Int32) (x3j59 : Int32) (x4j59 : Int32) (x6j59 : Int32) (z0j59 : Int32) : Prop := K_21 s_j59 x1j59 x3j59 x4j59 z0j59 (x6j59 + 1)
def wb_Mo_isName_21 (y : Ly) (Post : St → Int32 → Prop) (K_21 : St → Int32 → Int32 → Int32 → Int32 → Int32 → Prop) (a0 : Nat) (a2 : Nat) (k2 : Nat) (s_h21 : St) (x1h21 : Int32) (x3h21 : Int32) (x4h21 : Int32) (x5h21 : Int32) (x6h21 : Int32) : Prop := ((x4h21 ≤ x6h21 → wj_Mo_isName_67 y Post a0 a2 k2 s_h21 x5h21) ∧ (¬ (x4h21 ≤ x6h21) → ((x5h21 = 0 → wj_Mo_isName_67 y Post a0 a2 k2 s_h21 x5h21) ∧ (¬ (x5h21 = 0) → xA y s_h21 a0 0 ((12 * x1h21) + x6h21) (fun x_2 : Int32 => xA y s_h21 a2 k2 (x3h21 + x6h21) (fun x_3 : Int32 => ((¬ x_2 = x_3 → wj_Mo_isName_59 y Post K_21 a0 a2 k2 s_h21 x1h21 x3h21 x4h21 x6h21 0) ∧ (x_2 = x_3 → wj_Mo_isName_59 y Post K_21 a0 a2 k2 s_h21 x1h21 x3h21 x4h21 x6h21 1))))))))
def wl_Mo_isName_21 (y : Ly) (Post : St → Int32 → Prop) (a0 : Nat) (a2 : Nat) (k2 : Nat) (s_h21 : St) (x1h21 : Int32) (x3h21 : Int32) (x4h21 : Int32) (x5h21 : Int32) (x6h21 : Int32) : Prop := ∃ (I : St → Int32 → Int32 → Int32 → Int32 → Int32 → Prop) (μ : St → Int32 → Int32 → Int32 → Int32 → Int32 → Nat), I s_h21 x1h21 x3h21 x4h21 x5h21 x6h21 ∧ ∀ (u : St) (t0 : Int32) (t1 : Int32) (t2 : Int32) (t3 : Int32) (t4 : Int32), I u t0 t1 t2 t3 t4 → wb_Mo_isName_21 y Post (fun z t0q t1q t2q t3q t4q => I z t0q t1q t2q t3q t4q ∧ μ z t0q t1q t2q t3q t4q < μ u t0 t1 t2 t3 t4) a0 a2 k2 u t0 t1 t2 t3 t4
def wj_Mo_isName_16 (y : Ly) (Post : St → Int32 → Prop) (a0 : Nat) (a2 : Nat) (k2 : Nat) (s_j16 : St) (x1j16 : Int32) (x3j16 : Int32) (x4j16 : Int32) (z0j16 : Int32) : Prop := wl_Mo_isName_21 y Post a0 a2 k2 s_j16 x1j16 x3j16 x4j16 z0j16 0
def wu_Mo_isName (y : Ly) (Post : St → Int32 → Prop) (σ : St) (a0 : Nat) (v1 : Int32) (a2 : Nat) (k2 : Nat) (v3 : Int32) (v4 : Int32) : Prop := xA y σ a0 1 v1 (fun x_1 : Int32 => ((¬ x_1 = v4 → wj_Mo_isName_16 y Post a0 a2 k2 σ v1 v3 v4 0) ∧ (x_1 = v4 → wj_Mo_isName_16 y Post a0 a2 k2 σ v1 v3 v4 1)))
set_option maxHeartbeats 4000000 in
set_option maxRecDepth 100000 in
theorem cu_Mo_isName (l : Launch) (D : va_G) (g : Nat → ClassId) (ad : Nat → Nat) (y : Ly) (Post : St → Int32 → Prop) (σ : St) (a0 : Nat) (v1 : Int32) (a2 : Nat) (k2 : Nat) (v3 : Int32) (v4 : Int32) (sz : Nat) (h_a0 : cl a0 = 14) (h_a2 : kd (cl a2) k2 = 2 ∧ tyx (cl a2) k2 = 1) (h : wu_Mo_isName y Post σ a0 v1 a2 k2 v3 v4) : Met l y_Mo_isName (mw y_Mo_isName b_Mo_isName 7 (some (.boolean))) ru_Mo_isName (PC g D [] [.ref (ad a0), .int v1, .ref (yP y a2 k2), .int v3, .int v4] sz (ws g ad y σ)) (va_Qi (fun (r : Int32) (u : St) => Post u r) (QW D (va_A (ws g ad y σ) sz) (fun u => ws g ad y u)) (va_A (ws g ad y σ) sz)) 0 0 (va_A (ws g ad y σ) sz) := by
  refine ofZ (by decide +kernel) (Nat.le_of_ble_eq_true rfl) ?_
  intro p e s m args below meth c A Q ls H locs G hsz hP hD hS hl hret
  subst hsz
  have hl : lv_has ls 7 [(0, .ref (ad a0)), (1, .int v1), (2, .ref (yP y a2 k2)), (3, .int v3), (4, .int v4)] := hl
  unfold wu_Mo_isName at h
  refine lv_aload_n G.1 G.2.1 d_Mo_isName_0 rfl (lv_at hl 0 rfl) ?_
  refine ugf (v := .ref (yP y a0 1)) G hP h_a0 iMo rfl 1 (by decide) rfl q3065 rfl rfl d_Mo_isName_1 ?_
  refine lv_iload_n G.1 G.2.1 d_Mo_isName_4 rfl (lv_at hl 1 rfl) ?_
  refine ubald G hP (kdp h_a0 rfl) (typ h_a0 rfl) h d_Mo_isName_5 (fun x_1 h => ?_)
  refine lv_iload G.1 G.2.1 d_Mo_isName_6 (lv_at hl 4 rfl) ?_
  have J_16 : ∀ (s_j16 : St) (x1j16 : Int32) (x3j16 : Int32) (x4j16 : Int32) (z0j16 : Int32) (H : Heap) (locs : List Loc), wj_Mo_isName_16 y Post a0 a2 k2 s_j16 x1j16 x3j16 x4j16 z0j16 → va_P D CL (ws g ad y s_j16) H → va_D A (ws g ad y s_j16) → va_S A s.heap H locs → ∀ ls, lv_has ls 7 [(0, .ref (ad a0)), (1, .int x1j16), (2, .ref (yP y a2 k2)), (3, .int x3j16), (4, .int x4j16)] → W p l e ru_Mo_isName s m args below meth c H locs 0 0 Q (F0 m 16 ls [.int z0j16]) := by
    intro s_j16 x1j16 x3j16 x4j16 z0j16 H locs h hP hD hS ls hl
    unfold wj_Mo_isName_16 at h
    refine lv_istore (lv' := [(5, .int z0j16), (0, .ref (ad a0)), (1, .int x1j16), (2, .ref (yP y a2 k2)), (3, .int x3j16), (4, .int x4j16)]) G.1 G.2.1 d_Mo_isName_16 hl (by decide) rfl (fun ls hl => ?_)
    refine lv_iconst (v := 0) G.1 G.2.1 d_Mo_isName_18 (by decide) ?_
    refine lv_istore (lv' := [(6, .int 0), (5, .int z0j16), (0, .ref (ad a0)), (1, .int x1j16), (2, .ref (yP y a2 k2)), (3, .int x3j16), (4, .int x4j16)]) G.1 G.2.1 d_Mo_isName_19 hl (by decide) rfl (fun ls hl => ?_)
    unfold wl_Mo_isName_21 at h
    obtain ⟨I_21, μ_21, hI_21, hB_21⟩ := h
    have L_21 : ∀ (n_21 : Nat) (s_h21 : St) (x1h21 : Int32) (x3h21 : Int32) (x4h21 : Int32) (x5h21 : Int32) (x6h21 : Int32), μ_21 s_h21 x1h21 x3h21 x4h21 x5h21 x6h21 < n_21 → I_21 s_h21 x1h21 x3h21 x4h21 x5h21 x6h21 → ∀ (H : Heap) (locs : List Loc), va_P D CL (ws g ad y s_h21) H → va_D A (ws g ad y s_h21) → va_S A s.heap H locs → ∀ ls, lv_has ls 7 [(0, .ref (ad a0)), (1, .int x1h21), (2, .ref (yP y a2 k2)), (3, .int x3h21), (4, .int x4h21), (5, .int x5h21), (6, .int x6h21)] → W p l e ru_Mo_isName s m args below meth c H locs 0 0 Q (F0 m 21 ls []) := by
      intro n_21
      induction n_21 with
      | zero => intro s_h21 x1h21 x3h21 x4h21 x5h21 x6h21 hμ; exact absurd hμ (Nat.not_lt_zero _)
      | succ n_21 ih_21 =>
        intro s_h21 x1h21 x3h21 x4h21 x5h21 x6h21 hμ_21 hJ H locs hP hD hS ls hl
        obtain ⟨K_21, hK_21, h⟩ : ∃ K : St → Int32 → Int32 → Int32 → Int32 → Int32 → Prop, (∀ z (t0 : Int32) (t1 : Int32) (t2 : Int32) (t3 : Int32) (t4 : Int32), K z t0 t1 t2 t3 t4 → I_21 z t0 t1 t2 t3 t4 ∧ μ_21 z t0 t1 t2 t3 t4 < μ_21 s_h21 x1h21 x3h21 x4h21 x5h21 x6h21) ∧ wb_Mo_isName_21 y Post K a0 a2 k2 s_h21 x1h21 x3h21 x4h21 x5h21 x6h21 := ⟨_, fun _ _ _ _ _ _ h => h, hB_21 s_h21 x1h21 x3h21 x4h21 x5h21 x6h21 hJ⟩
        unfold wb_Mo_isName_21 at h
        refine lv_iload G.1 G.2.1 d_Mo_isName_21 (lv_at hl 6 rfl) ?_
        refine lv_iload G.1 G.2.1 d_Mo_isName_23 (lv_at hl 4 rfl) ?_
        have J_67 : ∀ (s_j67 : St) (x5j67 : Int32) (H : Heap) (locs : List Loc), wj_Mo_isName_67 y Post a0 a2 k2 s_j67 x5j67 → va_P D CL (ws g ad y s_j67) H → va_D A (ws g ad y s_j67) → va_S A s.heap H locs → ∀ ls, lv_has ls 7 [(5, .int x5j67)] → W p l e ru_Mo_isName s m args below meth c H locs 0 0 Q (F0 m 67 ls []) := by
          intro s_j67 x5j67 H locs h hP hD hS ls hl
          unfold wj_Mo_isName_67 at h
          refine lv_iload G.1 G.2.1 d_Mo_isName_67 (lv_at hl 0 rfl) ?_
          exact hret _ _ _ _ _ _ _ ls (nb_n h.1) h.2 hP hD hS (Nat.le_refl _) (Nat.le_refl _) d_Mo_isName_69
        refine lv_icmp_ge (tgt := 67) G.1 G.2.1 d_Mo_isName_25 (by decide) (fun c25 => ?_) (fun c25 => ?_)
        · skip
          have h := h.1 c25
          exact J_67 s_h21 x5h21 H locs h hP hD hS ls (lv_sub hl [5] rfl)
        · skip
          have h := h.2 c25
          refine lv_iload G.1 G.2.1 d_Mo_isName_28 (lv_at hl 5 rfl) ?_
          refine lv_if_eq (tgt := 67) G.1 G.2.1 d_Mo_isName_30 (by decide) (fun c30 => ?_) (fun c30 => ?_)
          · skip
            have h := h.1 c30
            exact J_67 s_h21 x5h21 H locs h hP hD hS ls (lv_sub hl [5] rfl)
          · skip
            have h := h.2 c30
            refine lv_aload_n G.1 G.2.1 d_Mo_isName_33 rfl (lv_at hl 0 rfl) ?_
            refine ugf (v := .ref (yP y a0 0)) G hP h_a0 iMo rfl 0 (by decide) rfl q3064 rfl rfl d_Mo_isName_34 ?_
            refine lv_bipush (v := 12) G.1 G.2.1 d_Mo_isName_37 (by decide) ?_
            refine lv_iload_n G.1 G.2.1 d_Mo_isName_39 rfl (lv_at hl 1 rfl) ?_
            refine lv_imul G.1 G.2.1 d_Mo_isName_40 ?_
            refine lv_iload G.1 G.2.1 d_Mo_isName_41 (lv_at hl 6 rfl) ?_
            refine W.eq (g2 := F0 m 43 ls [.int x6h21, .int (12 * x1h21), .ref (yP y a0 0)]) rfl ?_
            refine lv_iadd G.1 G.2.1 d_Mo_isName_43 ?_
            refine ubald G hP (kdp h_a0 rfl) (typ h_a0 rfl) h d_Mo_isName_44 (fun x_2 h => ?_)
            refine lv_aload_n G.1 G.2.1 d_Mo_isName_45 rfl (lv_at hl 2 rfl) ?_
            refine lv_iload_n G.1 G.2.1 d_Mo_isName_46 rfl (lv_at hl 3 rfl) ?_
            refine lv_iload G.1 G.2.1 d_Mo_isName_47 (lv_at hl 6 rfl) ?_
            refine lv_iadd G.1 G.2.1 d_Mo_isName_49 ?_
            refine ubald G hP h_a2.1 h_a2.2 h d_Mo_isName_50 (fun x_3 h => ?_)
            have J_59 : ∀ (s_j59 : St) (x1j59 : Int32) (x3j59 : Int32) (x4j59 : Int32) (x6j59 : Int32) (z0j59 : Int32) (H : Heap) (locs : List Loc), wj_Mo_isName_59 y Post K_21 a0 a2 k2 s_j59 x1j59 x3j59 x4j59 x6j59 z0j59 → va_P D CL (ws g ad y s_j59) H → va_D A (ws g ad y s_j59) → va_S A s.heap H locs → ∀ ls, lv_has ls 7 [(0, .ref (ad a0)), (1, .int x1j59), (2, .ref (yP y a2 k2)), (3, .int x3j59), (4, .int x4j59), (6, .int x6j59)] → W p l e ru_Mo_isName s m args below meth c H locs 0 0 Q (F0 m 59 ls [.int z0j59]) := by
              intro s_j59 x1j59 x3j59 x4j59 x6j59 z0j59 H locs h hP hD hS ls hl
              unfold wj_Mo_isName_59 at h
              refine lv_istore (lv' := [(5, .int z0j59), (0, .ref (ad a0)), (1, .int x1j59), (2, .ref (yP y a2 k2)), (3, .int x3j59), (4, .int x4j59), (6, .int x6j59)]) G.1 G.2.1 d_Mo_isName_59 hl (by decide) rfl (fun ls hl => ?_)
              refine lv_iinc (v := x6j59 + 1) (lv' := [(6, .int (x6j59 + 1)), (5, .int z0j59), (0, .ref (ad a0)), (1, .int x1j59), (2, .ref (yP y a2 k2)), (3, .int x3j59), (4, .int x4j59)]) G.1 G.2.1 d_Mo_isName_61 hl (k := 6) rfl rfl (by decide) rfl (fun ls hl => ?_)
              refine lv_goto (tgt := 21) G.1 G.2.1 d_Mo_isName_64 (by decide) ?_
              have h := hK_21 s_j59 x1j59 x3j59 x4j59 z0j59 (x6j59 + 1) h
              exact ih_21 s_j59 x1j59 x3j59 x4j59 z0j59 (x6j59 + 1) (Nat.lt_of_lt_of_le h.2 (Nat.le_of_lt_succ hμ_21)) h.1 H locs hP hD hS ls (lv_sub hl [2, 3, 4, 5, 6, 1, 0] rfl)
            refine lv_icmp_ne (tgt := 58) G.1 G.2.1 d_Mo_isName_51 (by decide) (fun c51 => ?_) (fun c51 => ?_)
            · skip
              have h := h.1 c51
              refine lv_iconst (v := 0) G.1 G.2.1 d_Mo_isName_58 (by decide) ?_
              exact J_59 s_h21 x1h21 x3h21 x4h21 x6h21 0 H locs h hP hD hS ls (lv_sub hl [0, 1, 2, 3, 4, 6] rfl)
            · skip
              have h := h.2 c51
              refine lv_iconst (v := 1) G.1 G.2.1 d_Mo_isName_54 (by decide) ?_
              refine lv_goto (tgt := 59) G.1 G.2.1 d_Mo_isName_55 (by decide) ?_
              exact J_59 s_h21 x1h21 x3h21 x4h21 x6h21 1 H locs h hP hD hS ls (lv_sub hl [0, 1, 2, 3, 4, 6] rfl)
    exact L_21 _ s_j16 x1j16 x3j16 x4j16 z0j16 0 (Nat.lt_succ_self _) hI_21 H locs hP hD hS ls (lv_sub hl [2, 3, 4, 5, 6, 1, 0] rfl)
  refine lv_icmp_ne (tgt := 15) G.1 G.2.1 d_Mo_isName_8 (by decide) (fun c8 => ?_) (fun c8 => ?_)
  · skip
    have h := h.1 c8
    refine lv_iconst (v := 0) G.1 G.2.1 d_Mo_isName_15 (by decide) ?_
    exact J_16 σ v1 v3 v4 0 H locs h hP hD hS ls (lv_sub hl [0, 1, 2, 3, 4] rfl)
  · skip
    have h := h.2 c8
    refine lv_iconst (v := 1) G.1 G.2.1 d_Mo_isName_11 (by decide) ?_
    refine lv_goto (tgt := 16) G.1 G.2.1 d_Mo_isName_12 (by decide) ?_
    exact J_16 σ v1 v3 v4 1 H locs h hP hD hS ls (lv_sub hl [0, 1, 2, 3, 4] rfl)
def y_Mo_isSignature : MethodName := ⟨"ClassWorksModel", "isSignature", "(I[III)Z"⟩
abbrev b_Mo_isSignature : ByteArray := prog_14_method_8_code
theorem q3095 : Cond.fieldLink "ClassWorksModel" 80 "ClassWorksModel" "sigCounts" "[I" ∈ lw_ok := lw_okmem (List.mem_of_getElem? (i := 3095) (by decide +kernel)) rfl
theorem q3099 : Cond.fieldLink "ClassWorksModel" 86 "ClassWorksModel" "sigTypes" "[I" ∈ lw_ok := lw_okmem (List.mem_of_getElem? (i := 3099) (by decide +kernel)) rfl
theorem q3094 : Cond.fieldLink "ClassWorksModel" 74 "ClassWorksModel" "sigFroms" "[I" ∈ lw_ok := lw_okmem (List.mem_of_getElem? (i := 3094) (by decide +kernel)) rfl
theorem q3096 : Cond.fieldLink "ClassWorksModel" 83 "ClassWorksModel" "sigResults" "[I" ∈ lw_ok := lw_okmem (List.mem_of_getElem? (i := 3096) (by decide +kernel)) rfl
theorem d_Mo_isSignature_0 : decode b_Mo_isSignature 0 = .ok (.aload_n 0, 1) := by decide +kernel
theorem d_Mo_isSignature_1 : decode b_Mo_isSignature 1 = .ok (.getfield 80, 3) := by decide +kernel
theorem d_Mo_isSignature_4 : decode b_Mo_isSignature 4 = .ok (.iload_n 1, 1) := by decide +kernel
theorem d_Mo_isSignature_5 : decode b_Mo_isSignature 5 = .ok (.iaload, 1) := by decide +kernel
theorem d_Mo_isSignature_6 : decode b_Mo_isSignature 6 = .ok (.iload_n 3, 1) := by decide +kernel
theorem d_Mo_isSignature_7 : decode b_Mo_isSignature 7 = .ok (.if_icmp .ne 18, 3) := by decide +kernel
theorem d_Mo_isSignature_10 : decode b_Mo_isSignature 10 = .ok (.aload_n 0, 1) := by decide +kernel
theorem d_Mo_isSignature_11 : decode b_Mo_isSignature 11 = .ok (.getfield 83, 3) := by decide +kernel
theorem d_Mo_isSignature_14 : decode b_Mo_isSignature 14 = .ok (.iload_n 1, 1) := by decide +kernel
theorem d_Mo_isSignature_15 : decode b_Mo_isSignature 15 = .ok (.iaload, 1) := by decide +kernel
theorem d_Mo_isSignature_16 : decode b_Mo_isSignature 16 = .ok (.iload 4, 2) := by decide +kernel
theorem d_Mo_isSignature_18 : decode b_Mo_isSignature 18 = .ok (.if_icmp .ne 7, 3) := by decide +kernel
theorem d_Mo_isSignature_21 : decode b_Mo_isSignature 21 = .ok (.iconst 1, 1) := by decide +kernel
theorem d_Mo_isSignature_22 : decode b_Mo_isSignature 22 = .ok (.goto 4, 3) := by decide +kernel
theorem d_Mo_isSignature_25 : decode b_Mo_isSignature 25 = .ok (.iconst 0, 1) := by decide +kernel
theorem d_Mo_isSignature_26 : decode b_Mo_isSignature 26 = .ok (.istore 5, 2) := by decide +kernel
theorem d_Mo_isSignature_28 : decode b_Mo_isSignature 28 = .ok (.iconst 0, 1) := by decide +kernel
theorem d_Mo_isSignature_29 : decode b_Mo_isSignature 29 = .ok (.istore 6, 2) := by decide +kernel
theorem d_Mo_isSignature_31 : decode b_Mo_isSignature 31 = .ok (.iload 6, 2) := by decide +kernel
theorem d_Mo_isSignature_33 : decode b_Mo_isSignature 33 = .ok (.iload_n 3, 1) := by decide +kernel
theorem d_Mo_isSignature_34 : decode b_Mo_isSignature 34 = .ok (.if_icmp .ge 42, 3) := by decide +kernel
theorem d_Mo_isSignature_37 : decode b_Mo_isSignature 37 = .ok (.iload 5, 2) := by decide +kernel
theorem d_Mo_isSignature_39 : decode b_Mo_isSignature 39 = .ok (.ifCond .eq 37, 3) := by decide +kernel
theorem d_Mo_isSignature_42 : decode b_Mo_isSignature 42 = .ok (.aload_n 0, 1) := by decide +kernel
theorem d_Mo_isSignature_43 : decode b_Mo_isSignature 43 = .ok (.getfield 86, 3) := by decide +kernel
theorem d_Mo_isSignature_46 : decode b_Mo_isSignature 46 = .ok (.aload_n 0, 1) := by decide +kernel
theorem d_Mo_isSignature_47 : decode b_Mo_isSignature 47 = .ok (.getfield 74, 3) := by decide +kernel
theorem d_Mo_isSignature_50 : decode b_Mo_isSignature 50 = .ok (.iload_n 1, 1) := by decide +kernel
theorem d_Mo_isSignature_51 : decode b_Mo_isSignature 51 = .ok (.iaload, 1) := by decide +kernel
theorem d_Mo_isSignature_52 : decode b_Mo_isSignature 52 = .ok (.iload 6, 2) := by decide +kernel
theorem d_Mo_isSignature_54 : decode b_Mo_isSignature 54 = .ok (.iadd, 1) := by decide +kernel
theorem d_Mo_isSignature_55 : decode b_Mo_isSignature 55 = .ok (.iaload, 1) := by decide +kernel
theorem d_Mo_isSignature_56 : decode b_Mo_isSignature 56 = .ok (.aload_n 2, 1) := by decide +kernel
theorem d_Mo_isSignature_57 : decode b_Mo_isSignature 57 = .ok (.iload 6, 2) := by decide +kernel
theorem d_Mo_isSignature_59 : decode b_Mo_isSignature 59 = .ok (.iaload, 1) := by decide +kernel
theorem d_Mo_isSignature_60 : decode b_Mo_isSignature 60 = .ok (.if_icmp .ne 7, 3) := by decide +kernel
theorem d_Mo_isSignature_63 : decode b_Mo_isSignature 63 = .ok (.iconst 1, 1) := by decide +kernel
theorem d_Mo_isSignature_64 : decode b_Mo_isSignature 64 = .ok (.goto 4, 3) := by decide +kernel
theorem d_Mo_isSignature_67 : decode b_Mo_isSignature 67 = .ok (.iconst 0, 1) := by decide +kernel
theorem d_Mo_isSignature_68 : decode b_Mo_isSignature 68 = .ok (.istore 5, 2) := by decide +kernel
theorem d_Mo_isSignature_70 : decode b_Mo_isSignature 70 = .ok (.iinc 6 1, 3) := by decide +kernel
theorem d_Mo_isSignature_73 : decode b_Mo_isSignature 73 = .ok (.goto (-42), 3) := by decide +kernel
theorem d_Mo_isSignature_76 : decode b_Mo_isSignature 76 = .ok (.iload 5, 2) := by decide +kernel
theorem d_Mo_isSignature_78 : decode b_Mo_isSignature 78 = .ok (.ireturn, 1) := by decide +kernel
abbrev ru_Mo_isSignature : Room := { frames := 0, cells := 0, slots := 0, locals := 0 }
def wj_Mo_isSignature_76 (y : Ly) (Post : St → Int32 → Prop) (a0 : Nat) (a2 : Nat) (k2 : Nat) (s_j76 : St) (x5j76 : Int32) : Prop := (nb x5j76 ∧ Post s_j76 x5j76)
def wj_Mo_isSignature_68 (y : Ly) (Post : St → Int32 → Prop) (K_31 : St → Int32 → Int32 → Int32 → Int32 → Prop) (a0 : Nat) (a2 : Nat) (k2 : Nat) (s_j68 : St) (x1j68 : Int32) (x3j68 : Int32) (x6j68 : Int32) (z0j68 : Int32) : Prop := K_31 s_j68 x1j68 x3j68 z0j68 (x6j68 + 1)
def wb_Mo_isSignature_31 (y : Ly) (Post : St → Int32 → Prop) (K_31 : St → Int32 → Int32 → Int32 → Int32 → Prop) (a0 : Nat) (a2 : Nat) (k2 : Nat) (s_h31 : St) (x1h31 : Int32) (x3h31 : Int32) (x5h31 : Int32) (x6h31 : Int32) : Prop := ((x3h31 ≤ x6h31 → wj_Mo_isSignature_76 y Post a0 a2 k2 s_h31 x5h31) ∧ (¬ (x3h31 ≤ x6h31) → ((x5h31 = 0 → wj_Mo_isSignature_76 y Post a0 a2 k2 s_h31 x5h31) ∧ (¬ (x5h31 = 0) → xA y s_h31 a0 30 x1h31 (fun x_2 : Int32 => xA y s_h31 a0 35 (x_2 + x6h31) (fun x_3 : Int32 => xA y s_h31 a2 k2 x6h31 (fun x_4 : Int32 => ((¬ x_3 = x_4 → wj_Mo_isSignature_68 y Post K_31 a0 a2 k2 s_h31 x1h31 x3h31 x6h31 0) ∧ (x_3 = x_4 → wj_Mo_isSignature_68 y Post K_31 a0 a2 k2 s_h31 x1h31 x3h31 x6h31 1)))))))))
def wl_Mo_isSignature_31 (y : Ly) (Post : St → Int32 → Prop) (a0 : Nat) (a2 : Nat) (k2 : Nat) (s_h31 : St) (x1h31 : Int32) (x3h31 : Int32) (x5h31 : Int32) (x6h31 : Int32) : Prop := ∃ (I : St → Int32 → Int32 → Int32 → Int32 → Prop) (μ : St → Int32 → Int32 → Int32 → Int32 → Nat), I s_h31 x1h31 x3h31 x5h31 x6h31 ∧ ∀ (u : St) (t0 : Int32) (t1 : Int32) (t2 : Int32) (t3 : Int32), I u t0 t1 t2 t3 → wb_Mo_isSignature_31 y Post (fun z t0q t1q t2q t3q => I z t0q t1q t2q t3q ∧ μ z t0q t1q t2q t3q < μ u t0 t1 t2 t3) a0 a2 k2 u t0 t1 t2 t3
def wj_Mo_isSignature_26 (y : Ly) (Post : St → Int32 → Prop) (a0 : Nat) (a2 : Nat) (k2 : Nat) (s_j26 : St) (x1j26 : Int32) (x3j26 : Int32) (z0j26 : Int32) : Prop := wl_Mo_isSignature_31 y Post a0 a2 k2 s_j26 x1j26 x3j26 z0j26 0
def wj_Mo_isSignature_25 (y : Ly) (Post : St → Int32 → Prop) (a0 : Nat) (a2 : Nat) (k2 : Nat) (s_j25 : St) (x1j25 : Int32) (x3j25 : Int32) : Prop := wj_Mo_isSignature_26 y Post a0 a2 k2 s_j25 x1j25 x3j25 0
def wu_Mo_isSignature (y : Ly) (Post : St → Int32 → Prop) (σ : St) (a0 : Nat) (v1 : Int32) (a2 : Nat) (k2 : Nat) (v3 : Int32) (v4 : Int32) : Prop := xA y σ a0 31 v1 (fun x_1 : Int32 => ((¬ x_1 = v3 → wj_Mo_isSignature_25 y Post a0 a2 k2 σ v1 v3) ∧ (x_1 = v3 → xA y σ a0 32 v1 (fun x_5 : Int32 => ((¬ x_5 = v4 → wj_Mo_isSignature_25 y Post a0 a2 k2 σ v1 v3) ∧ (x_5 = v4 → wj_Mo_isSignature_26 y Post a0 a2 k2 σ v1 v3 1))))))
set_option maxHeartbeats 4000000 in
set_option maxRecDepth 100000 in
theorem cu_Mo_isSignature (l : Launch) (D : va_G) (g : Nat → ClassId) (ad : Nat → Nat) (y : Ly) (Post : St → Int32 → Prop) (σ : St) (a0 : Nat) (v1 : Int32) (a2 : Nat) (k2 : Nat) (v3 : Int32) (v4 : Int32) (sz : Nat) (h_a0 : cl a0 = 14) (h_a2 : kd (cl a2) k2 = 2 ∧ tyx (cl a2) k2 = 0) (h : wu_Mo_isSignature y Post σ a0 v1 a2 k2 v3 v4) : Met l y_Mo_isSignature (mw y_Mo_isSignature b_Mo_isSignature 7 (some (.boolean))) ru_Mo_isSignature (PC g D [] [.ref (ad a0), .int v1, .ref (yP y a2 k2), .int v3, .int v4] sz (ws g ad y σ)) (va_Qi (fun (r : Int32) (u : St) => Post u r) (QW D (va_A (ws g ad y σ) sz) (fun u => ws g ad y u)) (va_A (ws g ad y σ) sz)) 0 0 (va_A (ws g ad y σ) sz) := by
  refine ofZ (by decide +kernel) (Nat.le_of_ble_eq_true rfl) ?_
  intro p e s m args below meth c A Q ls H locs G hsz hP hD hS hl hret
  subst hsz
  have hl : lv_has ls 7 [(0, .ref (ad a0)), (1, .int v1), (2, .ref (yP y a2 k2)), (3, .int v3), (4, .int v4)] := hl
  unfold wu_Mo_isSignature at h
  refine lv_aload_n G.1 G.2.1 d_Mo_isSignature_0 rfl (lv_at hl 0 rfl) ?_
  refine ugf (v := .ref (yP y a0 31)) G hP h_a0 iMo rfl 31 (by decide) rfl q3095 rfl rfl d_Mo_isSignature_1 ?_
  refine lv_iload_n G.1 G.2.1 d_Mo_isSignature_4 rfl (lv_at hl 1 rfl) ?_
  refine uiald G hP (kdp h_a0 rfl) (typ h_a0 rfl) h d_Mo_isSignature_5 (fun x_1 h => ?_)
  refine lv_iload_n G.1 G.2.1 d_Mo_isSignature_6 rfl (lv_at hl 3 rfl) ?_
  have J_26 : ∀ (s_j26 : St) (x1j26 : Int32) (x3j26 : Int32) (z0j26 : Int32) (H : Heap) (locs : List Loc), wj_Mo_isSignature_26 y Post a0 a2 k2 s_j26 x1j26 x3j26 z0j26 → va_P D CL (ws g ad y s_j26) H → va_D A (ws g ad y s_j26) → va_S A s.heap H locs → ∀ ls, lv_has ls 7 [(0, .ref (ad a0)), (1, .int x1j26), (2, .ref (yP y a2 k2)), (3, .int x3j26)] → W p l e ru_Mo_isSignature s m args below meth c H locs 0 0 Q (F0 m 26 ls [.int z0j26]) := by
    intro s_j26 x1j26 x3j26 z0j26 H locs h hP hD hS ls hl
    unfold wj_Mo_isSignature_26 at h
    refine lv_istore (lv' := [(5, .int z0j26), (0, .ref (ad a0)), (1, .int x1j26), (2, .ref (yP y a2 k2)), (3, .int x3j26)]) G.1 G.2.1 d_Mo_isSignature_26 hl (by decide) rfl (fun ls hl => ?_)
    refine lv_iconst (v := 0) G.1 G.2.1 d_Mo_isSignature_28 (by decide) ?_
    refine lv_istore (lv' := [(6, .int 0), (5, .int z0j26), (0, .ref (ad a0)), (1, .int x1j26), (2, .ref (yP y a2 k2)), (3, .int x3j26)]) G.1 G.2.1 d_Mo_isSignature_29 hl (by decide) rfl (fun ls hl => ?_)
    unfold wl_Mo_isSignature_31 at h
    obtain ⟨I_31, μ_31, hI_31, hB_31⟩ := h
    have L_31 : ∀ (n_31 : Nat) (s_h31 : St) (x1h31 : Int32) (x3h31 : Int32) (x5h31 : Int32) (x6h31 : Int32), μ_31 s_h31 x1h31 x3h31 x5h31 x6h31 < n_31 → I_31 s_h31 x1h31 x3h31 x5h31 x6h31 → ∀ (H : Heap) (locs : List Loc), va_P D CL (ws g ad y s_h31) H → va_D A (ws g ad y s_h31) → va_S A s.heap H locs → ∀ ls, lv_has ls 7 [(0, .ref (ad a0)), (1, .int x1h31), (2, .ref (yP y a2 k2)), (3, .int x3h31), (5, .int x5h31), (6, .int x6h31)] → W p l e ru_Mo_isSignature s m args below meth c H locs 0 0 Q (F0 m 31 ls []) := by
      intro n_31
      induction n_31 with
      | zero => intro s_h31 x1h31 x3h31 x5h31 x6h31 hμ; exact absurd hμ (Nat.not_lt_zero _)
      | succ n_31 ih_31 =>
        intro s_h31 x1h31 x3h31 x5h31 x6h31 hμ_31 hJ H locs hP hD hS ls hl
        obtain ⟨K_31, hK_31, h⟩ : ∃ K : St → Int32 → Int32 → Int32 → Int32 → Prop, (∀ z (t0 : Int32) (t1 : Int32) (t2 : Int32) (t3 : Int32), K z t0 t1 t2 t3 → I_31 z t0 t1 t2 t3 ∧ μ_31 z t0 t1 t2 t3 < μ_31 s_h31 x1h31 x3h31 x5h31 x6h31) ∧ wb_Mo_isSignature_31 y Post K a0 a2 k2 s_h31 x1h31 x3h31 x5h31 x6h31 := ⟨_, fun _ _ _ _ _ h => h, hB_31 s_h31 x1h31 x3h31 x5h31 x6h31 hJ⟩
        unfold wb_Mo_isSignature_31 at h
        refine lv_iload G.1 G.2.1 d_Mo_isSignature_31 (lv_at hl 5 rfl) ?_
        refine lv_iload_n G.1 G.2.1 d_Mo_isSignature_33 rfl (lv_at hl 3 rfl) ?_
        have J_76 : ∀ (s_j76 : St) (x5j76 : Int32) (H : Heap) (locs : List Loc), wj_Mo_isSignature_76 y Post a0 a2 k2 s_j76 x5j76 → va_P D CL (ws g ad y s_j76) H → va_D A (ws g ad y s_j76) → va_S A s.heap H locs → ∀ ls, lv_has ls 7 [(5, .int x5j76)] → W p l e ru_Mo_isSignature s m args below meth c H locs 0 0 Q (F0 m 76 ls []) := by
          intro s_j76 x5j76 H locs h hP hD hS ls hl
          unfold wj_Mo_isSignature_76 at h
          refine lv_iload G.1 G.2.1 d_Mo_isSignature_76 (lv_at hl 0 rfl) ?_
          exact hret _ _ _ _ _ _ _ ls (nb_n h.1) h.2 hP hD hS (Nat.le_refl _) (Nat.le_refl _) d_Mo_isSignature_78
        refine lv_icmp_ge (tgt := 76) G.1 G.2.1 d_Mo_isSignature_34 (by decide) (fun c34 => ?_) (fun c34 => ?_)
        · skip
          have h := h.1 c34
          exact J_76 s_h31 x5h31 H locs h hP hD hS ls (lv_sub hl [4] rfl)
        · skip
          have h := h.2 c34
          refine lv_iload G.1 G.2.1 d_Mo_isSignature_37 (lv_at hl 4 rfl) ?_
          refine lv_if_eq (tgt := 76) G.1 G.2.1 d_Mo_isSignature_39 (by decide) (fun c39 => ?_) (fun c39 => ?_)
          · skip
            have h := h.1 c39
            exact J_76 s_h31 x5h31 H locs h hP hD hS ls (lv_sub hl [4] rfl)
          · skip
            have h := h.2 c39
            refine lv_aload_n G.1 G.2.1 d_Mo_isSignature_42 rfl (lv_at hl 0 rfl) ?_
            refine ugf (v := .ref (yP y a0 35)) G hP h_a0 iMo rfl 35 (by decide) rfl q3099 rfl rfl d_Mo_isSignature_43 ?_
            refine lv_aload_n G.1 G.2.1 d_Mo_isSignature_46 rfl (lv_at hl 0 rfl) ?_
            refine ugf (v := .ref (yP y a0 30)) G hP h_a0 iMo rfl 30 (by decide) rfl q3094 rfl rfl d_Mo_isSignature_47 ?_
            refine lv_iload_n G.1 G.2.1 d_Mo_isSignature_50 rfl (lv_at hl 1 rfl) ?_
            refine uiald G hP (kdp h_a0 rfl) (typ h_a0 rfl) h d_Mo_isSignature_51 (fun x_2 h => ?_)
            refine W.eq (g2 := F0 m 52 ls [.int x_2, .ref (yP y a0 35)]) rfl ?_
            refine lv_iload G.1 G.2.1 d_Mo_isSignature_52 (lv_at hl 5 rfl) ?_
            refine lv_iadd G.1 G.2.1 d_Mo_isSignature_54 ?_
            refine uiald G hP (kdp h_a0 rfl) (typ h_a0 rfl) h d_Mo_isSignature_55 (fun x_3 h => ?_)
            refine lv_aload_n G.1 G.2.1 d_Mo_isSignature_56 rfl (lv_at hl 2 rfl) ?_
            refine lv_iload G.1 G.2.1 d_Mo_isSignature_57 (lv_at hl 5 rfl) ?_
            refine uiald G hP h_a2.1 h_a2.2 h d_Mo_isSignature_59 (fun x_4 h => ?_)
            have J_68 : ∀ (s_j68 : St) (x1j68 : Int32) (x3j68 : Int32) (x6j68 : Int32) (z0j68 : Int32) (H : Heap) (locs : List Loc), wj_Mo_isSignature_68 y Post K_31 a0 a2 k2 s_j68 x1j68 x3j68 x6j68 z0j68 → va_P D CL (ws g ad y s_j68) H → va_D A (ws g ad y s_j68) → va_S A s.heap H locs → ∀ ls, lv_has ls 7 [(0, .ref (ad a0)), (1, .int x1j68), (2, .ref (yP y a2 k2)), (3, .int x3j68), (6, .int x6j68)] → W p l e ru_Mo_isSignature s m args below meth c H locs 0 0 Q (F0 m 68 ls [.int z0j68]) := by
              intro s_j68 x1j68 x3j68 x6j68 z0j68 H locs h hP hD hS ls hl
              unfold wj_Mo_isSignature_68 at h
              refine lv_istore (lv' := [(5, .int z0j68), (0, .ref (ad a0)), (1, .int x1j68), (2, .ref (yP y a2 k2)), (3, .int x3j68), (6, .int x6j68)]) G.1 G.2.1 d_Mo_isSignature_68 hl (by decide) rfl (fun ls hl => ?_)
              refine lv_iinc (v := x6j68 + 1) (lv' := [(6, .int (x6j68 + 1)), (5, .int z0j68), (0, .ref (ad a0)), (1, .int x1j68), (2, .ref (yP y a2 k2)), (3, .int x3j68)]) G.1 G.2.1 d_Mo_isSignature_70 hl (k := 5) rfl rfl (by decide) rfl (fun ls hl => ?_)
              refine lv_goto (tgt := 31) G.1 G.2.1 d_Mo_isSignature_73 (by decide) ?_
              have h := hK_31 s_j68 x1j68 x3j68 z0j68 (x6j68 + 1) h
              exact ih_31 s_j68 x1j68 x3j68 z0j68 (x6j68 + 1) (Nat.lt_of_lt_of_le h.2 (Nat.le_of_lt_succ hμ_31)) h.1 H locs hP hD hS ls (lv_sub hl [2, 3, 4, 5, 1, 0] rfl)
            refine lv_icmp_ne (tgt := 67) G.1 G.2.1 d_Mo_isSignature_60 (by decide) (fun c60 => ?_) (fun c60 => ?_)
            · skip
              have h := h.1 c60
              refine lv_iconst (v := 0) G.1 G.2.1 d_Mo_isSignature_67 (by decide) ?_
              exact J_68 s_h31 x1h31 x3h31 x6h31 0 H locs h hP hD hS ls (lv_sub hl [0, 1, 2, 3, 5] rfl)
            · skip
              have h := h.2 c60
              refine lv_iconst (v := 1) G.1 G.2.1 d_Mo_isSignature_63 (by decide) ?_
              refine lv_goto (tgt := 68) G.1 G.2.1 d_Mo_isSignature_64 (by decide) ?_
              exact J_68 s_h31 x1h31 x3h31 x6h31 1 H locs h hP hD hS ls (lv_sub hl [0, 1, 2, 3, 5] rfl)
    exact L_31 _ s_j26 x1j26 x3j26 z0j26 0 (Nat.lt_succ_self _) hI_31 H locs hP hD hS ls (lv_sub hl [2, 3, 4, 5, 1, 0] rfl)
  have J_25 : ∀ (s_j25 : St) (x1j25 : Int32) (x3j25 : Int32) (H : Heap) (locs : List Loc), wj_Mo_isSignature_25 y Post a0 a2 k2 s_j25 x1j25 x3j25 → va_P D CL (ws g ad y s_j25) H → va_D A (ws g ad y s_j25) → va_S A s.heap H locs → ∀ ls, lv_has ls 7 [(0, .ref (ad a0)), (1, .int x1j25), (2, .ref (yP y a2 k2)), (3, .int x3j25)] → W p l e ru_Mo_isSignature s m args below meth c H locs 0 0 Q (F0 m 25 ls []) := by
    intro s_j25 x1j25 x3j25 H locs h hP hD hS ls hl
    unfold wj_Mo_isSignature_25 at h
    refine lv_iconst (v := 0) G.1 G.2.1 d_Mo_isSignature_25 (by decide) ?_
    exact J_26 s_j25 x1j25 x3j25 0 H locs h hP hD hS ls (lv_sub hl [0, 1, 2, 3] rfl)
  refine lv_icmp_ne (tgt := 25) G.1 G.2.1 d_Mo_isSignature_7 (by decide) (fun c7 => ?_) (fun c7 => ?_)
  · skip
    have h := h.1 c7
    exact J_25 σ v1 v3 H locs h hP hD hS ls (lv_sub hl [0, 1, 2, 3] rfl)
  · skip
    have h := h.2 c7
    refine lv_aload_n G.1 G.2.1 d_Mo_isSignature_10 rfl (lv_at hl 0 rfl) ?_
    refine ugf (v := .ref (yP y a0 32)) G hP h_a0 iMo rfl 32 (by decide) rfl q3096 rfl rfl d_Mo_isSignature_11 ?_
    refine lv_iload_n G.1 G.2.1 d_Mo_isSignature_14 rfl (lv_at hl 1 rfl) ?_
    refine uiald G hP (kdp h_a0 rfl) (typ h_a0 rfl) h d_Mo_isSignature_15 (fun x_5 h => ?_)
    refine lv_iload G.1 G.2.1 d_Mo_isSignature_16 (lv_at hl 4 rfl) ?_
    refine W.eq (g2 := F0 m 18 ls [.int v4, .int x_5]) rfl ?_
    refine lv_icmp_ne (tgt := 25) G.1 G.2.1 d_Mo_isSignature_18 (by decide) (fun c18 => ?_) (fun c18 => ?_)
    · skip
      have h := h.1 c18
      exact J_25 σ v1 v3 H locs h hP hD hS ls (lv_sub hl [0, 1, 2, 3] rfl)
    · skip
      have h := h.2 c18
      refine lv_iconst (v := 1) G.1 G.2.1 d_Mo_isSignature_21 (by decide) ?_
      refine lv_goto (tgt := 26) G.1 G.2.1 d_Mo_isSignature_22 (by decide) ?_
      exact J_26 σ v1 v3 1 H locs h hP hD hS ls (lv_sub hl [0, 1, 2, 3] rfl)
def y_Mo_feedOne : MethodName := ⟨"ClassWorksModel", "feedOne", "(I)V"⟩
abbrev b_Mo_feedOne : ByteArray := prog_14_method_125_code
theorem q3148 : Cond.fieldLink "ClassWorksModel" 314 "ClassWorksModel" "tape" "[B" ∈ lw_ok := lw_okmem (List.mem_of_getElem? (i := 3148) (by decide +kernel)) rfl
theorem q3149 : Cond.fieldLink "ClassWorksModel" 1112 "ClassWorksModel" "taped" "I" ∈ lw_ok := lw_okmem (List.mem_of_getElem? (i := 3149) (by decide +kernel)) rfl
theorem d_Mo_feedOne_0 : decode b_Mo_feedOne 0 = .ok (.bipush 24, 2) := by decide +kernel
theorem d_Mo_feedOne_2 : decode b_Mo_feedOne 2 = .ok (.istore_n 2, 1) := by decide +kernel
theorem d_Mo_feedOne_3 : decode b_Mo_feedOne 3 = .ok (.iload_n 2, 1) := by decide +kernel
theorem d_Mo_feedOne_4 : decode b_Mo_feedOne 4 = .ok (.ifCond .lt 32, 3) := by decide +kernel
theorem d_Mo_feedOne_7 : decode b_Mo_feedOne 7 = .ok (.aload_n 0, 1) := by decide +kernel
theorem d_Mo_feedOne_8 : decode b_Mo_feedOne 8 = .ok (.getfield 314, 3) := by decide +kernel
theorem d_Mo_feedOne_11 : decode b_Mo_feedOne 11 = .ok (.aload_n 0, 1) := by decide +kernel
theorem d_Mo_feedOne_12 : decode b_Mo_feedOne 12 = .ok (.getfield 1112, 3) := by decide +kernel
theorem d_Mo_feedOne_15 : decode b_Mo_feedOne 15 = .ok (.iload_n 1, 1) := by decide +kernel
theorem d_Mo_feedOne_16 : decode b_Mo_feedOne 16 = .ok (.iload_n 2, 1) := by decide +kernel
theorem d_Mo_feedOne_17 : decode b_Mo_feedOne 17 = .ok (.iushr, 1) := by decide +kernel
theorem d_Mo_feedOne_18 : decode b_Mo_feedOne 18 = .ok (.i2b, 1) := by decide +kernel
theorem d_Mo_feedOne_19 : decode b_Mo_feedOne 19 = .ok (.bastore, 1) := by decide +kernel
theorem d_Mo_feedOne_20 : decode b_Mo_feedOne 20 = .ok (.aload_n 0, 1) := by decide +kernel
theorem d_Mo_feedOne_21 : decode b_Mo_feedOne 21 = .ok (.dup, 1) := by decide +kernel
theorem d_Mo_feedOne_22 : decode b_Mo_feedOne 22 = .ok (.getfield 1112, 3) := by decide +kernel
theorem d_Mo_feedOne_25 : decode b_Mo_feedOne 25 = .ok (.iconst 1, 1) := by decide +kernel
theorem d_Mo_feedOne_26 : decode b_Mo_feedOne 26 = .ok (.iadd, 1) := by decide +kernel
theorem d_Mo_feedOne_27 : decode b_Mo_feedOne 27 = .ok (.putfield 1112, 3) := by decide +kernel
theorem d_Mo_feedOne_30 : decode b_Mo_feedOne 30 = .ok (.iinc 2 (-8), 3) := by decide +kernel
theorem d_Mo_feedOne_33 : decode b_Mo_feedOne 33 = .ok (.goto (-30), 3) := by decide +kernel
theorem d_Mo_feedOne_36 : decode b_Mo_feedOne 36 = .ok (.return_, 1) := by decide +kernel
abbrev ru_Mo_feedOne : Room := { frames := 0, cells := 0, slots := 0, locals := 0 }
def wb_Mo_feedOne_3 (y : Ly) (Post : St → Prop) (K_3 : St → Int32 → Int32 → Prop) (a0 : Nat) (s_h3 : St) (x1h3 : Int32) (x2h3 : Int32) : Prop := ((x2h3 < 0 → Post s_h3) ∧ (¬ (x2h3 < 0) → xS y s_h3 a0 84 (sV s_h3 a0 85) (vp_nar .byte (((x1h3.toUInt32 >>> (x2h3.toUInt32 &&& Int32.toUInt32 31)).toInt32).toInt8.toInt32)) (fun s_1 : St => xP (uV s_1 a0 85 ((sV s_1 a0 85) + 1)) (fun s_2 : St => K_3 s_2 x1h3 (x2h3 + (-8))))))
def wl_Mo_feedOne_3 (y : Ly) (Post : St → Prop) (a0 : Nat) (s_h3 : St) (x1h3 : Int32) (x2h3 : Int32) : Prop := ∃ (I : St → Int32 → Int32 → Prop) (μ : St → Int32 → Int32 → Nat), I s_h3 x1h3 x2h3 ∧ ∀ (u : St) (t0 : Int32) (t1 : Int32), I u t0 t1 → wb_Mo_feedOne_3 y Post (fun z t0q t1q => I z t0q t1q ∧ μ z t0q t1q < μ u t0 t1) a0 u t0 t1
def wu_Mo_feedOne (y : Ly) (Post : St → Prop) (σ : St) (a0 : Nat) (v1 : Int32) : Prop := wl_Mo_feedOne_3 y Post a0 σ v1 24
set_option maxHeartbeats 4000000 in
set_option maxRecDepth 100000 in
theorem cu_Mo_feedOne (l : Launch) (D : va_G) (g : Nat → ClassId) (ad : Nat → Nat) (y : Ly) (Post : St → Prop) (σ : St) (a0 : Nat) (v1 : Int32) (sz : Nat) (h_a0 : cl a0 = 14) (h : wu_Mo_feedOne y Post σ a0 v1) : Met l y_Mo_feedOne (mw y_Mo_feedOne b_Mo_feedOne 3 (none)) ru_Mo_feedOne (PC g D [] [.ref (ad a0), .int v1] sz (ws g ad y σ)) (va_Qv (fun u : St => Post u) (QW D (va_A (ws g ad y σ) sz) (fun u => ws g ad y u)) (va_A (ws g ad y σ) sz)) 0 0 (va_A (ws g ad y σ) sz) := by
  refine ofV (by decide +kernel) (Nat.le_of_ble_eq_true rfl) ?_
  intro p e s m args below meth c A Q ls H locs G hsz hP hD hS hl hret
  subst hsz
  have hl : lv_has ls 3 [(0, .ref (ad a0)), (1, .int v1)] := hl
  unfold wu_Mo_feedOne at h
  refine lv_bipush (v := 24) G.1 G.2.1 d_Mo_feedOne_0 (by decide) ?_
  refine lv_istore_n (lv' := [(2, .int 24), (0, .ref (ad a0)), (1, .int v1)]) G.1 G.2.1 d_Mo_feedOne_2 rfl hl (by decide) rfl (fun ls hl => ?_)
  unfold wl_Mo_feedOne_3 at h
  obtain ⟨I_3, μ_3, hI_3, hB_3⟩ := h
  have L_3 : ∀ (n_3 : Nat) (s_h3 : St) (x1h3 : Int32) (x2h3 : Int32), μ_3 s_h3 x1h3 x2h3 < n_3 → I_3 s_h3 x1h3 x2h3 → ∀ (H : Heap) (locs : List Loc), va_P D CL (ws g ad y s_h3) H → va_D A (ws g ad y s_h3) → va_S A s.heap H locs → ∀ ls, lv_has ls 3 [(0, .ref (ad a0)), (1, .int x1h3), (2, .int x2h3)] → W p l e ru_Mo_feedOne s m args below meth c H locs 0 0 Q (F0 m 3 ls []) := by
    intro n_3
    induction n_3 with
    | zero => intro s_h3 x1h3 x2h3 hμ; exact absurd hμ (Nat.not_lt_zero _)
    | succ n_3 ih_3 =>
      intro s_h3 x1h3 x2h3 hμ_3 hJ H locs hP hD hS ls hl
      obtain ⟨K_3, hK_3, h⟩ : ∃ K : St → Int32 → Int32 → Prop, (∀ z (t0 : Int32) (t1 : Int32), K z t0 t1 → I_3 z t0 t1 ∧ μ_3 z t0 t1 < μ_3 s_h3 x1h3 x2h3) ∧ wb_Mo_feedOne_3 y Post K a0 s_h3 x1h3 x2h3 := ⟨_, fun _ _ _ h => h, hB_3 s_h3 x1h3 x2h3 hJ⟩
      unfold wb_Mo_feedOne_3 at h
      refine lv_iload_n G.1 G.2.1 d_Mo_feedOne_3 rfl (lv_at hl 2 rfl) ?_
      refine lv_if_lt (tgt := 36) G.1 G.2.1 d_Mo_feedOne_4 (by decide) (fun c4 => ?_) (fun c4 => ?_)
      · skip
        have h := h.1 c4
        exact hret _ _ _ _ _ _ ls h hP hD hS (Nat.le_refl _) (Nat.le_refl _) d_Mo_feedOne_36
      · skip
        have h := h.2 c4
        refine lv_aload_n G.1 G.2.1 d_Mo_feedOne_7 rfl (lv_at hl 0 rfl) ?_
        refine ugf (v := .ref (yP y a0 84)) G hP h_a0 iMo rfl 84 (by decide) rfl q3148 rfl rfl d_Mo_feedOne_8 ?_
        refine lv_aload_n G.1 G.2.1 d_Mo_feedOne_11 rfl (lv_at hl 0 rfl) ?_
        refine ugf (v := .int (sV s_h3 a0 85)) G hP h_a0 iMo rfl 85 (by decide) rfl q3149 rfl rfl d_Mo_feedOne_12 ?_
        refine lv_iload_n G.1 G.2.1 d_Mo_feedOne_15 rfl (lv_at hl 1 rfl) ?_
        refine lv_iload_n G.1 G.2.1 d_Mo_feedOne_16 rfl (lv_at hl 2 rfl) ?_
        refine lv_iushr G.1 G.2.1 d_Mo_feedOne_17 rfl ?_
        refine lv_i2b G.1 G.2.1 d_Mo_feedOne_18 rfl ?_
        refine ubast G hP hD hS (kdp h_a0 rfl) (typ h_a0 rfl) h d_Mo_feedOne_19 (fun s_1 H locs h hP hD hS => ?_)
        refine W.eq (g2 := F0 m 20 ls []) rfl ?_
        refine lv_aload_n G.1 G.2.1 d_Mo_feedOne_20 rfl (lv_at hl 0 rfl) ?_
        refine lv_dup G.1 G.2.1 d_Mo_feedOne_21 rfl ?_
        refine ugf (v := .int (sV s_1 a0 85)) G hP h_a0 iMo rfl 85 (by decide) rfl q3149 rfl rfl d_Mo_feedOne_22 ?_
        refine lv_iconst (v := 1) G.1 G.2.1 d_Mo_feedOne_25 (by decide) ?_
        refine lv_iadd G.1 G.2.1 d_Mo_feedOne_26 ?_
        refine upf G hP hD hS h 85 putV h_a0 iMo tMo tMo_ok nMo rfl (by decide) rfl q3149 rfl rfl fV rfl rfl d_Mo_feedOne_27 (fun s_2 H locs h hP hD hS => ?_)
        refine lv_iinc (v := x2h3 + (-8)) (lv' := [(2, .int (x2h3 + (-8))), (0, .ref (ad a0)), (1, .int x1h3)]) G.1 G.2.1 d_Mo_feedOne_30 hl (k := 2) rfl rfl (by decide) rfl (fun ls hl => ?_)
        refine lv_goto (tgt := 3) G.1 G.2.1 d_Mo_feedOne_33 (by decide) ?_
        have h := hK_3 s_2 x1h3 (x2h3 + (-8)) h
        exact ih_3 s_2 x1h3 (x2h3 + (-8)) (Nat.lt_of_lt_of_le h.2 (Nat.le_of_lt_succ hμ_3)) h.1 H locs hP hD hS ls (lv_sub hl [1, 2, 0] rfl)
  exact L_3 _ σ v1 24 (Nat.lt_succ_self _) hI_3 H locs hP hD hS ls (lv_sub hl [1, 2, 0] rfl)
theorem q3462 : Cond.methodLink "ClassWorksModel" 1115 y_Mo_feedOne ∈ lw_ok := lw_okmem (List.mem_of_getElem? (i := 3462) (by decide +kernel)) rfl
theorem q3465 : Cond.code y_Mo_feedOne b_Mo_feedOne 3 (none) ∈ lw_ok := lw_okmem (List.mem_of_getElem? (i := 3465) (by decide +kernel)) rfl
theorem q348 : Cond.initialized "ClassWorksModel" ∈ lw_ok := lw_okmem (List.mem_of_getElem? (i := 348) (by decide +kernel)) rfl
theorem q3464 : Cond.instanceMethod y_Mo_feedOne ∈ lw_ok := lw_okmem (List.mem_of_getElem? (i := 3464) (by decide +kernel)) rfl
theorem q175 : Cond.selects y_Mo_feedOne.cls y_Mo_feedOne y_Mo_feedOne ∈ lw_ok := lw_okmem (List.mem_of_getElem? (i := 175) (by decide +kernel)) rfl
theorem w9_Mo_feedOne : CWv y_Mo_feedOne b_Mo_feedOne 3 (none) 1 ∧ Cond.instanceMethod y_Mo_feedOne ∈ lw_ok ∧ Cond.selects y_Mo_feedOne.cls y_Mo_feedOne y_Mo_feedOne ∈ lw_ok := ⟨⟨q3465, q348, by decide +kernel, by decide +kernel, by decide +kernel⟩, q3464, q175⟩
def y_Mo_feed : MethodName := ⟨"ClassWorksModel", "feed", "(IIIII)I"⟩
abbrev b_Mo_feed : ByteArray := prog_14_method_124_code
theorem d_Mo_feed_0 : decode b_Mo_feed 0 = .ok (.aload_n 0, 1) := by decide +kernel
theorem d_Mo_feed_1 : decode b_Mo_feed 1 = .ok (.getfield 1112, 3) := by decide +kernel
theorem d_Mo_feed_4 : decode b_Mo_feed 4 = .ok (.bipush 20, 2) := by decide +kernel
theorem d_Mo_feed_6 : decode b_Mo_feed 6 = .ok (.iadd, 1) := by decide +kernel
theorem d_Mo_feed_7 : decode b_Mo_feed 7 = .ok (.sipush 6000, 3) := by decide +kernel
theorem d_Mo_feed_10 : decode b_Mo_feed 10 = .ok (.if_icmp .le 6, 3) := by decide +kernel
theorem d_Mo_feed_13 : decode b_Mo_feed 13 = .ok (.bipush (-3), 2) := by decide +kernel
theorem d_Mo_feed_15 : decode b_Mo_feed 15 = .ok (.ireturn, 1) := by decide +kernel
theorem d_Mo_feed_16 : decode b_Mo_feed 16 = .ok (.aload_n 0, 1) := by decide +kernel
theorem d_Mo_feed_17 : decode b_Mo_feed 17 = .ok (.iload_n 1, 1) := by decide +kernel
theorem d_Mo_feed_18 : decode b_Mo_feed 18 = .ok (.invokevirtual 1115, 3) := by decide +kernel
theorem d_Mo_feed_21 : decode b_Mo_feed 21 = .ok (.aload_n 0, 1) := by decide +kernel
theorem d_Mo_feed_22 : decode b_Mo_feed 22 = .ok (.iload_n 2, 1) := by decide +kernel
theorem d_Mo_feed_23 : decode b_Mo_feed 23 = .ok (.invokevirtual 1115, 3) := by decide +kernel
theorem d_Mo_feed_26 : decode b_Mo_feed 26 = .ok (.aload_n 0, 1) := by decide +kernel
theorem d_Mo_feed_27 : decode b_Mo_feed 27 = .ok (.iload_n 3, 1) := by decide +kernel
theorem d_Mo_feed_28 : decode b_Mo_feed 28 = .ok (.invokevirtual 1115, 3) := by decide +kernel
theorem d_Mo_feed_31 : decode b_Mo_feed 31 = .ok (.aload_n 0, 1) := by decide +kernel
theorem d_Mo_feed_32 : decode b_Mo_feed 32 = .ok (.iload 4, 2) := by decide +kernel
theorem d_Mo_feed_34 : decode b_Mo_feed 34 = .ok (.invokevirtual 1115, 3) := by decide +kernel
theorem d_Mo_feed_37 : decode b_Mo_feed 37 = .ok (.aload_n 0, 1) := by decide +kernel
theorem d_Mo_feed_38 : decode b_Mo_feed 38 = .ok (.iload 5, 2) := by decide +kernel
theorem d_Mo_feed_40 : decode b_Mo_feed 40 = .ok (.invokevirtual 1115, 3) := by decide +kernel
theorem d_Mo_feed_43 : decode b_Mo_feed 43 = .ok (.aload_n 0, 1) := by decide +kernel
theorem d_Mo_feed_44 : decode b_Mo_feed 44 = .ok (.getfield 1112, 3) := by decide +kernel
theorem d_Mo_feed_47 : decode b_Mo_feed 47 = .ok (.ireturn, 1) := by decide +kernel
abbrev ru_Mo_feed : Room := { frames := 1, cells := 0, slots := 0, locals := 22 }
def wu_Mo_feed (y : Ly) (Post : St → Int32 → Prop) (σ : St) (a0 : Nat) (v1 : Int32) (v2 : Int32) (v3 : Int32) (v4 : Int32) (v5 : Int32) : Prop := ((((sV σ a0 85) + 20) ≤ 6000 → wu_Mo_feedOne y (fun (s_2 : St) => wu_Mo_feedOne y (fun (s_4 : St) => wu_Mo_feedOne y (fun (s_6 : St) => wu_Mo_feedOne y (fun (s_8 : St) => wu_Mo_feedOne y (fun (s_10 : St) => Post s_10 (sV s_10 a0 85)) s_8 a0 v5) s_6 a0 v4) s_4 a0 v3) s_2 a0 v2) σ a0 v1) ∧ (¬ (((sV σ a0 85) + 20) ≤ 6000) → Post σ (-3)))
set_option maxHeartbeats 4000000 in
set_option maxRecDepth 100000 in
theorem cu_Mo_feed (l : Launch) (D : va_G) (g : Nat → ClassId) (ad : Nat → Nat) (y : Ly) (Post : St → Int32 → Prop) (σ : St) (a0 : Nat) (v1 : Int32) (v2 : Int32) (v3 : Int32) (v4 : Int32) (v5 : Int32) (sz : Nat) (h_a0 : cl a0 = 14) (h : wu_Mo_feed y Post σ a0 v1 v2 v3 v4 v5) : Met l y_Mo_feed (mw y_Mo_feed b_Mo_feed 6 (some .int)) ru_Mo_feed (PC g D [] [.ref (ad a0), .int v1, .int v2, .int v3, .int v4, .int v5] sz (ws g ad y σ)) (va_Qi (fun (r : Int32) (u : St) => Post u r) (QW D (va_A (ws g ad y σ) sz) (fun u => ws g ad y u)) (va_A (ws g ad y σ) sz)) 0 0 (va_A (ws g ad y σ) sz) := by
  refine ofI (by decide +kernel) (Nat.le_of_ble_eq_true rfl) ?_
  intro p e s m args below meth c A Q ls H locs G hsz hP hD hS hl hret
  subst hsz
  have hl : lv_has ls 6 [(0, .ref (ad a0)), (1, .int v1), (2, .int v2), (3, .int v3), (4, .int v4), (5, .int v5)] := hl
  unfold wu_Mo_feed at h
  refine lv_aload_n G.1 G.2.1 d_Mo_feed_0 rfl (lv_at hl 0 rfl) ?_
  refine ugf (v := .int (sV σ a0 85)) G hP h_a0 iMo rfl 85 (by decide) rfl q3149 rfl rfl d_Mo_feed_1 ?_
  refine lv_bipush (v := 20) G.1 G.2.1 d_Mo_feed_4 (by decide) ?_
  refine lv_iadd G.1 G.2.1 d_Mo_feed_6 ?_
  refine lv_sipush (v := 6000) G.1 G.2.1 d_Mo_feed_7 (by decide) ?_
  refine lv_icmp_le (tgt := 16) G.1 G.2.1 d_Mo_feed_10 (by decide) (fun c10 => ?_) (fun c10 => ?_)
  · skip
    have h := h.1 c10
    refine lv_aload_n G.1 G.2.1 d_Mo_feed_16 rfl (lv_at hl 0 rfl) ?_
    refine lv_iload_n G.1 G.2.1 d_Mo_feed_17 rfl (lv_at hl 1 rfl) ?_
    refine ucVv (As := [.int v1]) (rest := []) G hP hD hS (cu_Mo_feedOne l D g ad y _ σ a0 v1 H.size h_a0 h) w9_Mo_feedOne q3462 ⟨Nat.le_of_ble_eq_true rfl, Nat.le_of_ble_eq_true rfl⟩ rfl rfl h_a0 (q := (RMo, TMo, 131)) rfl rfl hl.1 rfl (Nat.le_of_ble_eq_true rfl) rfl ⟨Nat.le_refl _, Nat.le_refl _⟩ d_Mo_feed_18 (fun s_2 H locs h hP hD hS => ?_)
    refine lv_aload_n G.1 G.2.1 d_Mo_feed_21 rfl (lv_at hl 0 rfl) ?_
    refine lv_iload_n G.1 G.2.1 d_Mo_feed_22 rfl (lv_at hl 2 rfl) ?_
    refine W.eq (g2 := F0 m 23 ls [.int v2, .ref (ad a0)]) rfl ?_
    refine ucVv (As := [.int v2]) (rest := []) G hP hD hS (cu_Mo_feedOne l D g ad y _ s_2 a0 v2 H.size h_a0 h) w9_Mo_feedOne q3462 ⟨Nat.le_of_ble_eq_true rfl, Nat.le_of_ble_eq_true rfl⟩ rfl rfl h_a0 (q := (RMo, TMo, 131)) rfl rfl hl.1 rfl (Nat.le_of_ble_eq_true rfl) rfl ⟨Nat.le_refl _, Nat.le_refl _⟩ d_Mo_feed_23 (fun s_4 H locs h hP hD hS => ?_)
    refine lv_aload_n G.1 G.2.1 d_Mo_feed_26 rfl (lv_at hl 0 rfl) ?_
    refine lv_iload_n G.1 G.2.1 d_Mo_feed_27 rfl (lv_at hl 3 rfl) ?_
    refine ucVv (As := [.int v3]) (rest := []) G hP hD hS (cu_Mo_feedOne l D g ad y _ s_4 a0 v3 H.size h_a0 h) w9_Mo_feedOne q3462 ⟨Nat.le_of_ble_eq_true rfl, Nat.le_of_ble_eq_true rfl⟩ rfl rfl h_a0 (q := (RMo, TMo, 131)) rfl rfl hl.1 rfl (Nat.le_of_ble_eq_true rfl) rfl ⟨Nat.le_refl _, Nat.le_refl _⟩ d_Mo_feed_28 (fun s_6 H locs h hP hD hS => ?_)
    refine lv_aload_n G.1 G.2.1 d_Mo_feed_31 rfl (lv_at hl 0 rfl) ?_
    refine lv_iload G.1 G.2.1 d_Mo_feed_32 (lv_at hl 4 rfl) ?_
    refine ucVv (As := [.int v4]) (rest := []) G hP hD hS (cu_Mo_feedOne l D g ad y _ s_6 a0 v4 H.size h_a0 h) w9_Mo_feedOne q3462 ⟨Nat.le_of_ble_eq_true rfl, Nat.le_of_ble_eq_true rfl⟩ rfl rfl h_a0 (q := (RMo, TMo, 131)) rfl rfl hl.1 rfl (Nat.le_of_ble_eq_true rfl) rfl ⟨Nat.le_refl _, Nat.le_refl _⟩ d_Mo_feed_34 (fun s_8 H locs h hP hD hS => ?_)
    refine lv_aload_n G.1 G.2.1 d_Mo_feed_37 rfl (lv_at hl 0 rfl) ?_
    refine lv_iload G.1 G.2.1 d_Mo_feed_38 (lv_at hl 5 rfl) ?_
    refine ucVv (As := [.int v5]) (rest := []) G hP hD hS (cu_Mo_feedOne l D g ad y _ s_8 a0 v5 H.size h_a0 h) w9_Mo_feedOne q3462 ⟨Nat.le_of_ble_eq_true rfl, Nat.le_of_ble_eq_true rfl⟩ rfl rfl h_a0 (q := (RMo, TMo, 131)) rfl rfl hl.1 rfl (Nat.le_of_ble_eq_true rfl) rfl ⟨Nat.le_refl _, Nat.le_refl _⟩ d_Mo_feed_40 (fun s_10 H locs h hP hD hS => ?_)
    refine lv_aload_n G.1 G.2.1 d_Mo_feed_43 rfl (lv_at hl 0 rfl) ?_
    refine ugf (v := .int (sV s_10 a0 85)) G hP h_a0 iMo rfl 85 (by decide) rfl q3149 rfl rfl d_Mo_feed_44 ?_
    refine W.eq (g2 := F0 m 47 ls [.int (sV s_10 a0 85)]) rfl ?_
    exact hret _ _ _ _ _ _ _ ls h hP hD hS (Nat.le_refl _) (Nat.le_refl _) d_Mo_feed_47
  · skip
    have h := h.2 c10
    refine lv_bipush (v := (-3)) G.1 G.2.1 d_Mo_feed_13 (by decide) ?_
    exact hret _ _ _ _ _ _ _ ls h hP hD hS (Nat.le_refl _) (Nat.le_refl _) d_Mo_feed_15
